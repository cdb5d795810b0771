/-! the methods: their rows, and what the tables say of them -/
section XM210
def M_X4_sessionOf : MM := (yX4_sessionOf, cX4_sessionOf, 3, some .int, [], 8, 129, 3, 18)
theorem mp_X4_sessionOf : mpOk M_X4_sessionOf 2 := ⟨by decide +kernel, by decide +kernel, by decide +kernel⟩
theorem mv_X4_sessionOf : mvOk M_X4_sessionOf := ⟨tk5 (i := 23) (by decide +kernel) rfl, tk5 (i := 24) (by decide +kernel) rfl, tk1 (i := 1) (by decide +kernel) rfl, tk5 (i := 25) (by decide +kernel) rfl⟩
def M_L_sessionOf : MM := (yL_sessionOf, cL_sessionOf, 5, some .int, [(0, 10, 13, 13), (0, 10, 17, 17)], 9, 151, 3, 18)
theorem mp_L_sessionOf : mpOk M_L_sessionOf 4 := ⟨by decide +kernel, by decide +kernel, by decide +kernel⟩
theorem ms_L_sessionOf : msOk M_L_sessionOf := ⟨tk5 (i := 20) (by decide +kernel) rfl, tk1 (i := 0) (by decide +kernel) rfl, tk5 (i := 21) (by decide +kernel) rfl⟩
def M_X5_sessionOf : MM := (yX5_sessionOf, cX5_sessionOf, 3, some .int, [], 3, 65, 0, 0)
theorem mp_X5_sessionOf : mpOk M_X5_sessionOf 2 := ⟨by decide +kernel, by decide +kernel, by decide +kernel⟩
theorem mv_X5_sessionOf : mvOk M_X5_sessionOf := ⟨tk7 (i := 62) (by decide +kernel) rfl, tk7 (i := 63) (by decide +kernel) rfl, tk1 (i := 6) (by decide +kernel) rfl, tk7 (i := 64) (by decide +kernel) rfl⟩
def M_X4_roomFor : MM := (yX4_roomFor, cX4_roomFor, 3, some .int, [], 8, 129, 3, 18)
theorem mp_X4_roomFor : mpOk M_X4_roomFor 2 := ⟨by decide +kernel, by decide +kernel, by decide +kernel⟩
theorem mv_X4_roomFor : mvOk M_X4_roomFor := ⟨tk5 (i := 30) (by decide +kernel) rfl, tk5 (i := 31) (by decide +kernel) rfl, tk1 (i := 1) (by decide +kernel) rfl, tk5 (i := 32) (by decide +kernel) rfl⟩
def M_L_roomFor : MM := (yL_roomFor, cL_roomFor, 5, some .int, [(0, 10, 13, 13), (0, 10, 17, 17)], 9, 151, 3, 18)
theorem mp_L_roomFor : mpOk M_L_roomFor 4 := ⟨by decide +kernel, by decide +kernel, by decide +kernel⟩
theorem ms_L_roomFor : msOk M_L_roomFor := ⟨tk5 (i := 27) (by decide +kernel) rfl, tk1 (i := 0) (by decide +kernel) rfl, tk5 (i := 28) (by decide +kernel) rfl⟩
def M_X5_room : MM := (yX5_room, cX5_room, 3, some .int, [], 3, 65, 0, 0)
theorem mp_X5_room : mpOk M_X5_room 2 := ⟨by decide +kernel, by decide +kernel, by decide +kernel⟩
theorem mv_X5_room : mvOk M_X5_room := ⟨tk7 (i := 71) (by decide +kernel) rfl, pk (q := (yX5_room, 15)) (List.mem_of_getElem? (i := 56) (by decide +kernel)), tk1 (i := 6) (by decide +kernel) rfl, tk7 (i := 72) (by decide +kernel) rfl⟩
def M_X5_roomFor : MM := (yX5_roomFor, cX5_roomFor, 3, some .int, [], 4, 87, 0, 0)
theorem mp_X5_roomFor : mpOk M_X5_roomFor 2 := ⟨by decide +kernel, by decide +kernel, by decide +kernel⟩
theorem mv_X5_roomFor : mvOk M_X5_roomFor := ⟨tk7 (i := 66) (by decide +kernel) rfl, tk7 (i := 67) (by decide +kernel) rfl, tk1 (i := 6) (by decide +kernel) rfl, tk7 (i := 68) (by decide +kernel) rfl⟩
def M_X5_fits : MM := (yX5_fits, cX5_fits, 3, some .boolean, [], 4, 87, 0, 0)
theorem mp_X5_fits : mpOk M_X5_fits 2 := ⟨by decide +kernel, by decide +kernel, by decide +kernel⟩
theorem mv_X5_fits : mvOk M_X5_fits := ⟨tk7 (i := 74) (by decide +kernel) rfl, tk7 (i := 75) (by decide +kernel) rfl, tk1 (i := 6) (by decide +kernel) rfl, tk7 (i := 76) (by decide +kernel) rfl⟩
def M_X5_hundredths : MM := (yX5_hundredths, cX5_hundredths, 3, some .int, [], 3, 65, 0, 0)
theorem mp_X5_hundredths : mpOk M_X5_hundredths 2 := ⟨by decide +kernel, by decide +kernel, by decide +kernel⟩
theorem mv_X5_hundredths : mvOk M_X5_hundredths := ⟨tk7 (i := 83) (by decide +kernel) rfl, pk (q := (yX5_hundredths, 15)) (List.mem_of_getElem? (i := 57) (by decide +kernel)), tk1 (i := 6) (by decide +kernel) rfl, tk7 (i := 84) (by decide +kernel) rfl⟩
def M_X5_hundredthsOf : MM := (yX5_hundredthsOf, cX5_hundredthsOf, 3, some .int, [], 4, 87, 0, 0)
theorem mp_X5_hundredthsOf : mpOk M_X5_hundredthsOf 2 := ⟨by decide +kernel, by decide +kernel, by decide +kernel⟩
theorem mv_X5_hundredthsOf : mvOk M_X5_hundredthsOf := ⟨tk7 (i := 78) (by decide +kernel) rfl, tk7 (i := 79) (by decide +kernel) rfl, tk1 (i := 6) (by decide +kernel) rfl, tk7 (i := 80) (by decide +kernel) rfl⟩
def M_X4_reasonAgainst : MM := (yX4_reasonAgainst, cX4_reasonAgainst, 3, some .int, [], 8, 129, 2, 12)
theorem mp_X4_reasonAgainst : mpOk M_X4_reasonAgainst 2 := ⟨by decide +kernel, by decide +kernel, by decide +kernel⟩
theorem mv_X4_reasonAgainst : mvOk M_X4_reasonAgainst := ⟨tk5 (i := 52) (by decide +kernel) rfl, tk5 (i := 53) (by decide +kernel) rfl, tk1 (i := 1) (by decide +kernel) rfl, tk5 (i := 54) (by decide +kernel) rfl⟩
def M_L_reasonAgainst : MM := (yL_reasonAgainst, cL_reasonAgainst, 5, some .int, [(0, 10, 13, 13)], 9, 151, 2, 12)
theorem mp_L_reasonAgainst : mpOk M_L_reasonAgainst 4 := ⟨by decide +kernel, by decide +kernel, by decide +kernel⟩
theorem ms_L_reasonAgainst : msOk M_L_reasonAgainst := ⟨tk5 (i := 49) (by decide +kernel) rfl, tk1 (i := 0) (by decide +kernel) rfl, tk5 (i := 50) (by decide +kernel) rfl⟩
def M_X5_reasonAgainst : MM := (yX5_reasonAgainst, cX5_reasonAgainst, 3, some .int, [], 5, 109, 0, 0)
theorem mp_X5_reasonAgainst : mpOk M_X5_reasonAgainst 2 := ⟨by decide +kernel, by decide +kernel, by decide +kernel⟩
theorem mv_X5_reasonAgainst : mvOk M_X5_reasonAgainst := ⟨tk7 (i := 86) (by decide +kernel) rfl, tk7 (i := 87) (by decide +kernel) rfl, tk1 (i := 6) (by decide +kernel) rfl, tk7 (i := 88) (by decide +kernel) rfl⟩
def M_X4_staminaOf : MM := (yX4_staminaOf, cX4_staminaOf, 3, some .int, [], 8, 127, 2, 12)
theorem mp_X4_staminaOf : mpOk M_X4_staminaOf 2 := ⟨by decide +kernel, by decide +kernel, by decide +kernel⟩
theorem mv_X4_staminaOf : mvOk M_X4_staminaOf := ⟨tk5 (i := 59) (by decide +kernel) rfl, tk5 (i := 60) (by decide +kernel) rfl, tk1 (i := 1) (by decide +kernel) rfl, tk5 (i := 61) (by decide +kernel) rfl⟩
def M_L_staminaOf : MM := (yL_staminaOf, cL_staminaOf, 5, some .int, [(0, 10, 13, 13)], 9, 149, 2, 12)
theorem mp_L_staminaOf : mpOk M_L_staminaOf 4 := ⟨by decide +kernel, by decide +kernel, by decide +kernel⟩
theorem ms_L_staminaOf : msOk M_L_staminaOf := ⟨tk5 (i := 56) (by decide +kernel) rfl, tk1 (i := 0) (by decide +kernel) rfl, tk5 (i := 57) (by decide +kernel) rfl⟩
def M_X5_staminaOf : MM := (yX5_staminaOf, cX5_staminaOf, 3, some .int, [], 3, 63, 0, 0)
theorem mp_X5_staminaOf : mpOk M_X5_staminaOf 2 := ⟨by decide +kernel, by decide +kernel, by decide +kernel⟩
theorem mv_X5_staminaOf : mvOk M_X5_staminaOf := ⟨tk7 (i := 90) (by decide +kernel) rfl, tk7 (i := 91) (by decide +kernel) rfl, tk1 (i := 6) (by decide +kernel) rfl, tk7 (i := 92) (by decide +kernel) rfl⟩
def M_X4_strengthLeft : MM := (yX4_strengthLeft, cX4_strengthLeft, 3, some .int, [], 8, 127, 2, 12)
theorem mp_X4_strengthLeft : mpOk M_X4_strengthLeft 2 := ⟨by decide +kernel, by decide +kernel, by decide +kernel⟩
theorem mv_X4_strengthLeft : mvOk M_X4_strengthLeft := ⟨tk5 (i := 66) (by decide +kernel) rfl, tk5 (i := 67) (by decide +kernel) rfl, tk1 (i := 1) (by decide +kernel) rfl, tk5 (i := 68) (by decide +kernel) rfl⟩
def M_L_strengthLeft : MM := (yL_strengthLeft, cL_strengthLeft, 5, some .int, [(0, 10, 13, 13)], 9, 149, 2, 12)
theorem mp_L_strengthLeft : mpOk M_L_strengthLeft 4 := ⟨by decide +kernel, by decide +kernel, by decide +kernel⟩
theorem ms_L_strengthLeft : msOk M_L_strengthLeft := ⟨tk5 (i := 63) (by decide +kernel) rfl, tk1 (i := 0) (by decide +kernel) rfl, tk5 (i := 64) (by decide +kernel) rfl⟩
def M_X5_strengthLeft : MM := (yX5_strengthLeft, cX5_strengthLeft, 3, some .int, [], 3, 63, 0, 0)
theorem mp_X5_strengthLeft : mpOk M_X5_strengthLeft 2 := ⟨by decide +kernel, by decide +kernel, by decide +kernel⟩
theorem mv_X5_strengthLeft : mvOk M_X5_strengthLeft := ⟨tk7 (i := 94) (by decide +kernel) rfl, tk7 (i := 95) (by decide +kernel) rfl, tk1 (i := 6) (by decide +kernel) rfl, tk7 (i := 96) (by decide +kernel) rfl⟩
def M_X5_voiced : MM := (yX5_voiced, cX5_voiced, 5, some .int, [], 3, 65, 0, 0)
theorem mp_X5_voiced : mpOk M_X5_voiced 2 := ⟨by decide +kernel, by decide +kernel, by decide +kernel⟩
theorem mv_X5_voiced : mvOk M_X5_voiced := ⟨tk7 (i := 103) (by decide +kernel) rfl, pk (q := (yX5_voiced, 15)) (List.mem_of_getElem? (i := 58) (by decide +kernel)), tk1 (i := 6) (by decide +kernel) rfl, tk7 (i := 104) (by decide +kernel) rfl⟩
def M_X5_framesOfVoice : MM := (yX5_framesOfVoice, cX5_framesOfVoice, 3, some .int, [], 4, 89, 0, 0)
theorem mp_X5_framesOfVoice : mpOk M_X5_framesOfVoice 2 := ⟨by decide +kernel, by decide +kernel, by decide +kernel⟩
theorem mv_X5_framesOfVoice : mvOk M_X5_framesOfVoice := ⟨tk7 (i := 98) (by decide +kernel) rfl, tk7 (i := 99) (by decide +kernel) rfl, tk1 (i := 6) (by decide +kernel) rfl, tk7 (i := 100) (by decide +kernel) rfl⟩
def M_X2_start : MM := (yX2_start, cX2_start, 3, none, [], 0, 0, 0, 0)
theorem mp_X2_start : mpOk M_X2_start 2 := ⟨by decide +kernel, by decide +kernel, by decide +kernel⟩
theorem mv_X2_start : mvOk M_X2_start := ⟨tk2 (i := 163) (by decide +kernel) rfl, tk2 (i := 164) (by decide +kernel) rfl, tk1 (i := 5) (by decide +kernel) rfl, tk2 (i := 165) (by decide +kernel) rfl⟩
end XM210
