/-! the methods: their rows, and what the tables say of them -/
section XM22
theorem mp_X4_lipsOf : mpOk M_X4_lipsOf 1 := ⟨by decide +kernel, by decide +kernel, by decide +kernel⟩
theorem mv_X4_lipsOf : mvOk M_X4_lipsOf := ⟨tk4 (i := 216) (by decide +kernel) rfl, tk4 (i := 217) (by decide +kernel) rfl, tk1 (i := 1) (by decide +kernel) rfl, tk4 (i := 218) (by decide +kernel) rfl⟩
def M_L_lipsOf : MM := (yL_lipsOf, cL_lipsOf, 4, some .int, [(0, 9, 12, 13)], 8, 128, 1, 6)
theorem mp_L_lipsOf : mpOk M_L_lipsOf 3 := ⟨by decide +kernel, by decide +kernel, by decide +kernel⟩
theorem ms_L_lipsOf : msOk M_L_lipsOf := ⟨tk4 (i := 213) (by decide +kernel) rfl, tk1 (i := 0) (by decide +kernel) rfl, tk4 (i := 214) (by decide +kernel) rfl⟩
def M_X5_lipsOf : MM := (yX5_lipsOf, cX5_lipsOf, 2, some .int, [], 3, 65, 0, 0)
theorem mp_X5_lipsOf : mpOk M_X5_lipsOf 1 := ⟨by decide +kernel, by decide +kernel, by decide +kernel⟩
theorem mv_X5_lipsOf : mvOk M_X5_lipsOf := ⟨tk7 (i := 34) (by decide +kernel) rfl, tk7 (i := 35) (by decide +kernel) rfl, tk1 (i := 6) (by decide +kernel) rfl, tk7 (i := 36) (by decide +kernel) rfl⟩
def M_X4_sighOf : MM := (yX4_sighOf, cX4_sighOf, 2, some .int, [], 7, 107, 1, 6)
theorem mp_X4_sighOf : mpOk M_X4_sighOf 1 := ⟨by decide +kernel, by decide +kernel, by decide +kernel⟩
theorem mv_X4_sighOf : mvOk M_X4_sighOf := ⟨tk4 (i := 223) (by decide +kernel) rfl, tk4 (i := 224) (by decide +kernel) rfl, tk1 (i := 1) (by decide +kernel) rfl, tk4 (i := 225) (by decide +kernel) rfl⟩
def M_L_sighOf : MM := (yL_sighOf, cL_sighOf, 4, some .int, [(0, 9, 12, 13)], 8, 128, 1, 6)
theorem mp_L_sighOf : mpOk M_L_sighOf 3 := ⟨by decide +kernel, by decide +kernel, by decide +kernel⟩
theorem ms_L_sighOf : msOk M_L_sighOf := ⟨tk4 (i := 220) (by decide +kernel) rfl, tk1 (i := 0) (by decide +kernel) rfl, tk4 (i := 221) (by decide +kernel) rfl⟩
def M_X5_sighOf : MM := (yX5_sighOf, cX5_sighOf, 2, some .int, [], 3, 65, 0, 0)
theorem mp_X5_sighOf : mpOk M_X5_sighOf 1 := ⟨by decide +kernel, by decide +kernel, by decide +kernel⟩
theorem mv_X5_sighOf : mvOk M_X5_sighOf := ⟨tk7 (i := 38) (by decide +kernel) rfl, tk7 (i := 39) (by decide +kernel) rfl, tk1 (i := 6) (by decide +kernel) rfl, tk7 (i := 40) (by decide +kernel) rfl⟩
def M_X5_isTranslated : MM := (yX5_isTranslated, cX5_isTranslated, 3, some .boolean, [], 3, 65, 0, 0)
theorem mp_X5_isTranslated : mpOk M_X5_isTranslated 2 := ⟨by decide +kernel, by decide +kernel, by decide +kernel⟩
theorem mv_X5_isTranslated : mvOk M_X5_isTranslated := ⟨tk7 (i := 42) (by decide +kernel) rfl, tk7 (i := 43) (by decide +kernel) rfl, tk1 (i := 6) (by decide +kernel) rfl, tk7 (i := 44) (by decide +kernel) rfl⟩
def M_X5_badTranslation : MM := (yX5_badTranslation, cX5_badTranslation, 3, some .int, [], 3, 65, 0, 0)
theorem mp_X5_badTranslation : mpOk M_X5_badTranslation 2 := ⟨by decide +kernel, by decide +kernel, by decide +kernel⟩
theorem mv_X5_badTranslation : mvOk M_X5_badTranslation := ⟨tk7 (i := 51) (by decide +kernel) rfl, pk (q := (yX5_badTranslation, 15)) (List.mem_of_getElem? (i := 55) (by decide +kernel)), tk1 (i := 6) (by decide +kernel) rfl, tk7 (i := 52) (by decide +kernel) rfl⟩
def M_X5_framesOf : MM := (yX5_framesOf, cX5_framesOf, 3, some .int, [], 4, 87, 0, 0)
theorem mp_X5_framesOf : mpOk M_X5_framesOf 2 := ⟨by decide +kernel, by decide +kernel, by decide +kernel⟩
theorem mv_X5_framesOf : mvOk M_X5_framesOf := ⟨tk7 (i := 46) (by decide +kernel) rfl, tk7 (i := 47) (by decide +kernel) rfl, tk1 (i := 6) (by decide +kernel) rfl, tk7 (i := 48) (by decide +kernel) rfl⟩
def M_X5_annexedOf : MM := (yX5_annexedOf, cX5_annexedOf, 3, some .int, [], 3, 65, 0, 0)
theorem mp_X5_annexedOf : mpOk M_X5_annexedOf 2 := ⟨by decide +kernel, by decide +kernel, by decide +kernel⟩
theorem mv_X5_annexedOf : mvOk M_X5_annexedOf := ⟨tk7 (i := 54) (by decide +kernel) rfl, tk7 (i := 55) (by decide +kernel) rfl, tk1 (i := 6) (by decide +kernel) rfl, tk7 (i := 56) (by decide +kernel) rfl⟩
def M_X5_isRecorded : MM := (yX5_isRecorded, cX5_isRecorded, 3, some .boolean, [], 3, 65, 0, 0)
theorem mp_X5_isRecorded : mpOk M_X5_isRecorded 2 := ⟨by decide +kernel, by decide +kernel, by decide +kernel⟩
theorem mv_X5_isRecorded : mvOk M_X5_isRecorded := ⟨tk7 (i := 58) (by decide +kernel) rfl, tk7 (i := 59) (by decide +kernel) rfl, tk1 (i := 6) (by decide +kernel) rfl, tk7 (i := 60) (by decide +kernel) rfl⟩
def M_X4_sessionOf : MM := (yX4_sessionOf, cX4_sessionOf, 3, some .int, [], 8, 129, 3, 18)
theorem mp_X4_sessionOf : mpOk M_X4_sessionOf 2 := ⟨by decide +kernel, by decide +kernel, by decide +kernel⟩
theorem mv_X4_sessionOf : mvOk M_X4_sessionOf := ⟨tk5 (i := 23) (by decide +kernel) rfl, tk5 (i := 24) (by decide +kernel) rfl, tk1 (i := 1) (by decide +kernel) rfl, tk5 (i := 25) (by decide +kernel) rfl⟩
def M_L_sessionOf : MM := (yL_sessionOf, cL_sessionOf, 5, some .int, [(0, 10, 13, 13), (0, 10, 17, 17)], 9, 151, 3, 18)
theorem mp_L_sessionOf : mpOk M_L_sessionOf 4 := ⟨by decide +kernel, by decide +kernel, by decide +kernel⟩
theorem ms_L_sessionOf : msOk M_L_sessionOf := ⟨tk5 (i := 20) (by decide +kernel) rfl, tk1 (i := 0) (by decide +kernel) rfl, tk5 (i := 21) (by decide +kernel) rfl⟩
def M_X5_sessionOf : MM := (yX5_sessionOf, cX5_sessionOf, 3, some .int, [], 3, 65, 0, 0)
theorem mp_X5_sessionOf : mpOk M_X5_sessionOf 2 := ⟨by decide +kernel, by decide +kernel, by decide +kernel⟩
theorem mv_X5_sessionOf : mvOk M_X5_sessionOf := ⟨tk7 (i := 62) (by decide +kernel) rfl, tk7 (i := 63) (by decide +kernel) rfl, tk1 (i := 6) (by decide +kernel) rfl, tk7 (i := 64) (by decide +kernel) rfl⟩
def M_X4_roomFor : MM := (yX4_roomFor, cX4_roomFor, 3, some .int, [], 8, 129, 3, 18)
theorem mp_X4_roomFor : mpOk M_X4_roomFor 2 := ⟨by decide +kernel, by decide +kernel, by decide +kernel⟩
theorem mv_X4_roomFor : mvOk M_X4_roomFor := ⟨tk5 (i := 30) (by decide +kernel) rfl, tk5 (i := 31) (by decide +kernel) rfl, tk1 (i := 1) (by decide +kernel) rfl, tk5 (i := 32) (by decide +kernel) rfl⟩
def M_L_roomFor : MM := (yL_roomFor, cL_roomFor, 5, some .int, [(0, 10, 13, 13), (0, 10, 17, 17)], 9, 151, 3, 18)
theorem mp_L_roomFor : mpOk M_L_roomFor 4 := ⟨by decide +kernel, by decide +kernel, by decide +kernel⟩
theorem ms_L_roomFor : msOk M_L_roomFor := ⟨tk5 (i := 27) (by decide +kernel) rfl, tk1 (i := 0) (by decide +kernel) rfl, tk5 (i := 28) (by decide +kernel) rfl⟩
def M_X5_room : MM := (yX5_room, cX5_room, 3, some .int, [], 3, 65, 0, 0)
theorem mp_X5_room : mpOk M_X5_room 2 := ⟨by decide +kernel, by decide +kernel, by decide +kernel⟩
theorem mv_X5_room : mvOk M_X5_room := ⟨tk7 (i := 71) (by decide +kernel) rfl, pk (q := (yX5_room, 15)) (List.mem_of_getElem? (i := 56) (by decide +kernel)), tk1 (i := 6) (by decide +kernel) rfl, tk7 (i := 72) (by decide +kernel) rfl⟩
def M_X5_roomFor : MM := (yX5_roomFor, cX5_roomFor, 3, some .int, [], 4, 87, 0, 0)
theorem mp_X5_roomFor : mpOk M_X5_roomFor 2 := ⟨by decide +kernel, by decide +kernel, by decide +kernel⟩
theorem mv_X5_roomFor : mvOk M_X5_roomFor := ⟨tk7 (i := 66) (by decide +kernel) rfl, tk7 (i := 67) (by decide +kernel) rfl, tk1 (i := 6) (by decide +kernel) rfl, tk7 (i := 68) (by decide +kernel) rfl⟩
def M_X5_fits : MM := (yX5_fits, cX5_fits, 3, some .boolean, [], 4, 87, 0, 0)
theorem mp_X5_fits : mpOk M_X5_fits 2 := ⟨by decide +kernel, by decide +kernel, by decide +kernel⟩
theorem mv_X5_fits : mvOk M_X5_fits := ⟨tk7 (i := 74) (by decide +kernel) rfl, tk7 (i := 75) (by decide +kernel) rfl, tk1 (i := 6) (by decide +kernel) rfl, tk7 (i := 76) (by decide +kernel) rfl⟩
def M_X5_hundredths : MM := (yX5_hundredths, cX5_hundredths, 3, some .int, [], 3, 65, 0, 0)
theorem mp_X5_hundredths : mpOk M_X5_hundredths 2 := ⟨by decide +kernel, by decide +kernel, by decide +kernel⟩
theorem mv_X5_hundredths : mvOk M_X5_hundredths := ⟨tk7 (i := 83) (by decide +kernel) rfl, pk (q := (yX5_hundredths, 15)) (List.mem_of_getElem? (i := 57) (by decide +kernel)), tk1 (i := 6) (by decide +kernel) rfl, tk7 (i := 84) (by decide +kernel) rfl⟩
def M_X5_hundredthsOf : MM := (yX5_hundredthsOf, cX5_hundredthsOf, 3, some .int, [], 4, 87, 0, 0)
theorem mp_X5_hundredthsOf : mpOk M_X5_hundredthsOf 2 := ⟨by decide +kernel, by decide +kernel, by decide +kernel⟩
theorem mv_X5_hundredthsOf : mvOk M_X5_hundredthsOf := ⟨tk7 (i := 78) (by decide +kernel) rfl, tk7 (i := 79) (by decide +kernel) rfl, tk1 (i := 6) (by decide +kernel) rfl, tk7 (i := 80) (by decide +kernel) rfl⟩
def M_X4_reasonAgainst : MM := (yX4_reasonAgainst, cX4_reasonAgainst, 3, some .int, [], 8, 129, 2, 12)
theorem mp_X4_reasonAgainst : mpOk M_X4_reasonAgainst 2 := ⟨by decide +kernel, by decide +kernel, by decide +kernel⟩
theorem mv_X4_reasonAgainst : mvOk M_X4_reasonAgainst := ⟨tk5 (i := 52) (by decide +kernel) rfl, tk5 (i := 53) (by decide +kernel) rfl, tk1 (i := 1) (by decide +kernel) rfl, tk5 (i := 54) (by decide +kernel) rfl⟩
def M_L_reasonAgainst : MM := (yL_reasonAgainst, cL_reasonAgainst, 5, some .int, [(0, 10, 13, 13)], 9, 151, 2, 12)
theorem mp_L_reasonAgainst : mpOk M_L_reasonAgainst 4 := ⟨by decide +kernel, by decide +kernel, by decide +kernel⟩
theorem ms_L_reasonAgainst : msOk M_L_reasonAgainst := ⟨tk5 (i := 49) (by decide +kernel) rfl, tk1 (i := 0) (by decide +kernel) rfl, tk5 (i := 50) (by decide +kernel) rfl⟩
def M_X5_reasonAgainst : MM := (yX5_reasonAgainst, cX5_reasonAgainst, 3, some .int, [], 5, 109, 0, 0)
theorem mp_X5_reasonAgainst : mpOk M_X5_reasonAgainst 2 := ⟨by decide +kernel, by decide +kernel, by decide +kernel⟩
theorem mv_X5_reasonAgainst : mvOk M_X5_reasonAgainst := ⟨tk7 (i := 86) (by decide +kernel) rfl, tk7 (i := 87) (by decide +kernel) rfl, tk1 (i := 6) (by decide +kernel) rfl, tk7 (i := 88) (by decide +kernel) rfl⟩
def M_X4_staminaOf : MM := (yX4_staminaOf, cX4_staminaOf, 3, some .int, [], 8, 127, 2, 12)
theorem mp_X4_staminaOf : mpOk M_X4_staminaOf 2 := ⟨by decide +kernel, by decide +kernel, by decide +kernel⟩
theorem mv_X4_staminaOf : mvOk M_X4_staminaOf := ⟨tk5 (i := 59) (by decide +kernel) rfl, tk5 (i := 60) (by decide +kernel) rfl, tk1 (i := 1) (by decide +kernel) rfl, tk5 (i := 61) (by decide +kernel) rfl⟩
def M_L_staminaOf : MM := (yL_staminaOf, cL_staminaOf, 5, some .int, [(0, 10, 13, 13)], 9, 149, 2, 12)
theorem mp_L_staminaOf : mpOk M_L_staminaOf 4 := ⟨by decide +kernel, by decide +kernel, by decide +kernel⟩
theorem ms_L_staminaOf : msOk M_L_staminaOf := ⟨tk5 (i := 56) (by decide +kernel) rfl, tk1 (i := 0) (by decide +kernel) rfl, tk5 (i := 57) (by decide +kernel) rfl⟩
def M_X5_staminaOf : MM := (yX5_staminaOf, cX5_staminaOf, 3, some .int, [], 3, 63, 0, 0)
theorem mp_X5_staminaOf : mpOk M_X5_staminaOf 2 := ⟨by decide +kernel, by decide +kernel, by decide +kernel⟩
theorem mv_X5_staminaOf : mvOk M_X5_staminaOf := ⟨tk7 (i := 90) (by decide +kernel) rfl, tk7 (i := 91) (by decide +kernel) rfl, tk1 (i := 6) (by decide +kernel) rfl, tk7 (i := 92) (by decide +kernel) rfl⟩
def M_X4_strengthLeft : MM := (yX4_strengthLeft, cX4_strengthLeft, 3, some .int, [], 8, 127, 2, 12)
theorem mp_X4_strengthLeft : mpOk M_X4_strengthLeft 2 := ⟨by decide +kernel, by decide +kernel, by decide +kernel⟩
theorem mv_X4_strengthLeft : mvOk M_X4_strengthLeft := ⟨tk5 (i := 66) (by decide +kernel) rfl, tk5 (i := 67) (by decide +kernel) rfl, tk1 (i := 1) (by decide +kernel) rfl, tk5 (i := 68) (by decide +kernel) rfl⟩
def M_L_strengthLeft : MM := (yL_strengthLeft, cL_strengthLeft, 5, some .int, [(0, 10, 13, 13)], 9, 149, 2, 12)
theorem mp_L_strengthLeft : mpOk M_L_strengthLeft 4 := ⟨by decide +kernel, by decide +kernel, by decide +kernel⟩
theorem ms_L_strengthLeft : msOk M_L_strengthLeft := ⟨tk5 (i := 63) (by decide +kernel) rfl, tk1 (i := 0) (by decide +kernel) rfl, tk5 (i := 64) (by decide +kernel) rfl⟩
def M_X5_strengthLeft : MM := (yX5_strengthLeft, cX5_strengthLeft, 3, some .int, [], 3, 63, 0, 0)
theorem mp_X5_strengthLeft : mpOk M_X5_strengthLeft 2 := ⟨by decide +kernel, by decide +kernel, by decide +kernel⟩
theorem mv_X5_strengthLeft : mvOk M_X5_strengthLeft := ⟨tk7 (i := 94) (by decide +kernel) rfl, tk7 (i := 95) (by decide +kernel) rfl, tk1 (i := 6) (by decide +kernel) rfl, tk7 (i := 96) (by decide +kernel) rfl⟩
def M_X5_voiced : MM := (yX5_voiced, cX5_voiced, 5, some .int, [], 3, 65, 0, 0)
theorem mp_X5_voiced : mpOk M_X5_voiced 2 := ⟨by decide +kernel, by decide +kernel, by decide +kernel⟩
theorem mv_X5_voiced : mvOk M_X5_voiced := ⟨tk7 (i := 103) (by decide +kernel) rfl, pk (q := (yX5_voiced, 15)) (List.mem_of_getElem? (i := 58) (by decide +kernel)), tk1 (i := 6) (by decide +kernel) rfl, tk7 (i := 104) (by decide +kernel) rfl⟩
def M_X5_framesOfVoice : MM := (yX5_framesOfVoice, cX5_framesOfVoice, 3, some .int, [], 4, 89, 0, 0)
theorem mp_X5_framesOfVoice : mpOk M_X5_framesOfVoice 2 := ⟨by decide +kernel, by decide +kernel, by decide +kernel⟩
theorem mv_X5_framesOfVoice : mvOk M_X5_framesOfVoice := ⟨tk7 (i := 98) (by decide +kernel) rfl, tk7 (i := 99) (by decide +kernel) rfl, tk1 (i := 6) (by decide +kernel) rfl, tk7 (i := 100) (by decide +kernel) rfl⟩
def M_X2_start : MM := (yX2_start, cX2_start, 3, none, [], 0, 0, 0, 0)
theorem mp_X2_start : mpOk M_X2_start 2 := ⟨by decide +kernel, by decide +kernel, by decide +kernel⟩
theorem mv_X2_start : mvOk M_X2_start := ⟨tk2 (i := 163) (by decide +kernel) rfl, tk2 (i := 164) (by decide +kernel) rfl, tk1 (i := 5) (by decide +kernel) rfl, tk2 (i := 165) (by decide +kernel) rfl⟩
def M_X3_isReady : MM := (yX3_isReady, cX3_isReady, 3, some .boolean, [], 2, 44, 0, 0)
theorem mp_X3_isReady : mpOk M_X3_isReady 2 := ⟨by decide +kernel, by decide +kernel, by decide +kernel⟩
theorem mv_X3_isReady : mvOk M_X3_isReady := ⟨tk2 (i := 167) (by decide +kernel) rfl, tk2 (i := 168) (by decide +kernel) rfl, tk1 (i := 2) (by decide +kernel) rfl, tk2 (i := 169) (by decide +kernel) rfl⟩
def M_X2_add : MM := (yX2_add, cX2_add, 2, none, [], 1, 22, 0, 0)
theorem mp_X2_add : mpOk M_X2_add 1 := ⟨by decide +kernel, by decide +kernel, by decide +kernel⟩
theorem mv_X2_add : mvOk M_X2_add := ⟨tk2 (i := 171) (by decide +kernel) rfl, tk2 (i := 172) (by decide +kernel) rfl, tk1 (i := 5) (by decide +kernel) rfl, tk2 (i := 173) (by decide +kernel) rfl⟩
def M_X3_fillPlan : MM := (yX3_fillPlan, cX3_fillPlan, 5, none, [], 3, 66, 0, 0)
theorem mp_X3_fillPlan : mpOk M_X3_fillPlan 3 := ⟨by decide +kernel, by decide +kernel, by decide +kernel⟩
theorem mv_X3_fillPlan : mvOk M_X3_fillPlan := ⟨tk2 (i := 159) (by decide +kernel) rfl, tk2 (i := 160) (by decide +kernel) rfl, tk1 (i := 2) (by decide +kernel) rfl, tk2 (i := 161) (by decide +kernel) rfl⟩
def M_X2_hasTooLong : MM := (yX2_hasTooLong, cX2_hasTooLong, 2, some .boolean, [], 1, 21, 0, 0)
theorem mp_X2_hasTooLong : mpOk M_X2_hasTooLong 0 := ⟨by decide +kernel, by decide +kernel, by decide +kernel⟩
theorem mv_X2_hasTooLong : mvOk M_X2_hasTooLong := ⟨tk2 (i := 176) (by decide +kernel) rfl, tk2 (i := 177) (by decide +kernel) rfl, tk1 (i := 5) (by decide +kernel) rfl, tk2 (i := 178) (by decide +kernel) rfl⟩
def M_X4_checkPlan : MM := (yX4_checkPlan, cX4_checkPlan, 3, none, [], 6, 90, 1, 6)
theorem mp_X4_checkPlan : mpOk M_X4_checkPlan 2 := ⟨by decide +kernel, by decide +kernel, by decide +kernel⟩
theorem mv_X4_checkPlan : mvOk M_X4_checkPlan := ⟨tk5 (i := 85) (by decide +kernel) rfl, pk (q := (yX4_checkPlan, 6)) (List.mem_of_getElem? (i := 25) (by decide +kernel)), tk1 (i := 1) (by decide +kernel) rfl, tk5 (i := 86) (by decide +kernel) rfl⟩
def M_X2_goThrough : MM := (yX2_goThrough, cX2_goThrough, 5, some .int, [], 1, 21, 0, 0)
theorem mp_X2_goThrough : mpOk M_X2_goThrough 0 := ⟨by decide +kernel, by decide +kernel, by decide +kernel⟩
theorem mv_X2_goThrough : mvOk M_X2_goThrough := ⟨tk2 (i := 181) (by decide +kernel) rfl, tk2 (i := 182) (by decide +kernel) rfl, tk1 (i := 5) (by decide +kernel) rfl, tk2 (i := 183) (by decide +kernel) rfl⟩
def M_X4_sessionsByGoing : MM := (yX4_sessionsByGoing, cX4_sessionsByGoing, 3, some .int, [], 8, 127, 3, 18)
theorem mp_X4_sessionsByGoing : mpOk M_X4_sessionsByGoing 2 := ⟨by decide +kernel, by decide +kernel, by decide +kernel⟩
theorem mv_X4_sessionsByGoing : mvOk M_X4_sessionsByGoing := ⟨tk5 (i := 80) (by decide +kernel) rfl, tk5 (i := 81) (by decide +kernel) rfl, tk1 (i := 1) (by decide +kernel) rfl, tk5 (i := 82) (by decide +kernel) rfl⟩
def M_L_sessionsByGoing : MM := (yL_sessionsByGoing, cL_sessionsByGoing, 5, some .int, [(0, 10, 13, 13), (0, 10, 17, 17)], 9, 149, 3, 18)
theorem mp_L_sessionsByGoing : mpOk M_L_sessionsByGoing 4 := ⟨by decide +kernel, by decide +kernel, by decide +kernel⟩
theorem ms_L_sessionsByGoing : msOk M_L_sessionsByGoing := ⟨tk5 (i := 77) (by decide +kernel) rfl, tk1 (i := 0) (by decide +kernel) rfl, tk5 (i := 78) (by decide +kernel) rfl⟩
def M_X5_isReady : MM := (yX5_isReady, cX5_isReady, 4, some .boolean, [], 5, 109, 0, 0)
theorem mp_X5_isReady : mpOk M_X5_isReady 2 := ⟨by decide +kernel, by decide +kernel, by decide +kernel⟩
theorem mv_X5_isReady : mvOk M_X5_isReady := ⟨tk7 (i := 119) (by decide +kernel) rfl, pk (q := (yX5_isReady, 15)) (List.mem_of_getElem? (i := 61) (by decide +kernel)), tk1 (i := 6) (by decide +kernel) rfl, tk7 (i := 120) (by decide +kernel) rfl⟩
def M_X5_sessions : MM := (yX5_sessions, cX5_sessions, 8, some .int, [], 6, 132, 0, 0)
theorem mp_X5_sessions : mpOk M_X5_sessions 2 := ⟨by decide +kernel, by decide +kernel, by decide +kernel⟩
theorem mv_X5_sessions : mvOk M_X5_sessions := ⟨tk7 (i := 115) (by decide +kernel) rfl, pk (q := (yX5_sessions, 15)) (List.mem_of_getElem? (i := 60) (by decide +kernel)), tk1 (i := 6) (by decide +kernel) rfl, tk7 (i := 116) (by decide +kernel) rfl⟩
def M_X5_inSessions : MM := (yX5_inSessions, cX5_inSessions, 3, some .int, [], 7, 159, 0, 0)
theorem mp_X5_inSessions : mpOk M_X5_inSessions 2 := ⟨by decide +kernel, by decide +kernel, by decide +kernel⟩
theorem mv_X5_inSessions : mvOk M_X5_inSessions := ⟨tk7 (i := 111) (by decide +kernel) rfl, pk (q := (yX5_inSessions, 15)) (List.mem_of_getElem? (i := 59) (by decide +kernel)), tk1 (i := 6) (by decide +kernel) rfl, tk7 (i := 112) (by decide +kernel) rfl⟩
def M_X5_sessionsByGoing : MM := (yX5_sessionsByGoing, cX5_sessionsByGoing, 3, some .int, [], 8, 181, 0, 0)
theorem mp_X5_sessionsByGoing : mpOk M_X5_sessionsByGoing 2 := ⟨by decide +kernel, by decide +kernel, by decide +kernel⟩
theorem mv_X5_sessionsByGoing : mvOk M_X5_sessionsByGoing := ⟨tk7 (i := 106) (by decide +kernel) rfl, tk7 (i := 107) (by decide +kernel) rfl, tk1 (i := 6) (by decide +kernel) rfl, tk7 (i := 108) (by decide +kernel) rfl⟩
def M_X2_fewestFor : MM := (yX2_fewestFor, cX2_fewestFor, 5, some .int, [], 1, 21, 0, 0)
theorem mp_X2_fewestFor : mpOk M_X2_fewestFor 1 := ⟨by decide +kernel, by decide +kernel, by decide +kernel⟩
theorem mv_X2_fewestFor : mvOk M_X2_fewestFor := ⟨tk2 (i := 190) (by decide +kernel) rfl, pk (q := (yX2_fewestFor, 5)) (List.mem_of_getElem? (i := 11) (by decide +kernel)), tk1 (i := 5) (by decide +kernel) rfl, tk2 (i := 191) (by decide +kernel) rfl⟩
def M_X2_fillTable : MM := (yX2_fillTable, cX2_fillTable, 2, some .int, [], 2, 45, 0, 0)
theorem mp_X2_fillTable : mpOk M_X2_fillTable 0 := ⟨by decide +kernel, by decide +kernel, by decide +kernel⟩
theorem mv_X2_fillTable : mvOk M_X2_fillTable := ⟨tk2 (i := 185) (by decide +kernel) rfl, tk2 (i := 186) (by decide +kernel) rfl, tk1 (i := 5) (by decide +kernel) rfl, tk2 (i := 187) (by decide +kernel) rfl⟩
def M_X4_sessionsByTable : MM := (yX4_sessionsByTable, cX4_sessionsByTable, 3, some .int, [], 8, 127, 3, 18)
theorem mp_X4_sessionsByTable : mpOk M_X4_sessionsByTable 2 := ⟨by decide +kernel, by decide +kernel, by decide +kernel⟩
theorem mv_X4_sessionsByTable : mvOk M_X4_sessionsByTable := ⟨tk5 (i := 92) (by decide +kernel) rfl, tk5 (i := 93) (by decide +kernel) rfl, tk1 (i := 1) (by decide +kernel) rfl, tk5 (i := 94) (by decide +kernel) rfl⟩
def M_L_sessionsByTable : MM := (yL_sessionsByTable, cL_sessionsByTable, 5, some .int, [(0, 10, 13, 13), (0, 10, 17, 17)], 9, 149, 3, 18)
theorem mp_L_sessionsByTable : mpOk M_L_sessionsByTable 4 := ⟨by decide +kernel, by decide +kernel, by decide +kernel⟩
theorem ms_L_sessionsByTable : msOk M_L_sessionsByTable := ⟨tk5 (i := 89) (by decide +kernel) rfl, tk1 (i := 0) (by decide +kernel) rfl, tk5 (i := 90) (by decide +kernel) rfl⟩
def M_X5_sessionsByTable : MM := (yX5_sessionsByTable, cX5_sessionsByTable, 3, some .int, [], 8, 181, 0, 0)
theorem mp_X5_sessionsByTable : mpOk M_X5_sessionsByTable 2 := ⟨by decide +kernel, by decide +kernel, by decide +kernel⟩
theorem mv_X5_sessionsByTable : mvOk M_X5_sessionsByTable := ⟨tk7 (i := 122) (by decide +kernel) rfl, tk7 (i := 123) (by decide +kernel) rfl, tk1 (i := 6) (by decide +kernel) rfl, tk7 (i := 124) (by decide +kernel) rfl⟩
def M_X5_many : MM := (yX5_many, cX5_many, 4, some .int, [], 1, 21, 0, 0)
theorem mp_X5_many : mpOk M_X5_many 1 := ⟨by decide +kernel, by decide +kernel, by decide +kernel⟩
theorem mv_X5_many : mvOk M_X5_many := ⟨tk7 (i := 131) (by decide +kernel) rfl, pk (q := (yX5_many, 15)) (List.mem_of_getElem? (i := 62) (by decide +kernel)), tk1 (i := 6) (by decide +kernel) rfl, tk7 (i := 132) (by decide +kernel) rfl⟩
def M_X5_clausesIn : MM := (yX5_clausesIn, cX5_clausesIn, 2, some .int, [], 2, 44, 0, 0)
theorem mp_X5_clausesIn : mpOk M_X5_clausesIn 1 := ⟨by decide +kernel, by decide +kernel, by decide +kernel⟩
theorem mv_X5_clausesIn : mvOk M_X5_clausesIn := ⟨tk7 (i := 126) (by decide +kernel) rfl, tk7 (i := 127) (by decide +kernel) rfl, tk1 (i := 6) (by decide +kernel) rfl, tk7 (i := 128) (by decide +kernel) rfl⟩
def M_X3_lipsOn : MM := (yX3_lipsOn, cX3_lipsOn, 4, some .int, [], 2, 42, 0, 0)
theorem mp_X3_lipsOn : mpOk M_X3_lipsOn 1 := ⟨by decide +kernel, by decide +kernel, by decide +kernel⟩
theorem mv_X3_lipsOn : mvOk M_X3_lipsOn := ⟨tk2 (i := 203) (by decide +kernel) rfl, tk2 (i := 204) (by decide +kernel) rfl, tk1 (i := 2) (by decide +kernel) rfl, tk2 (i := 205) (by decide +kernel) rfl⟩
def M_X4_lengthOf : MM := (yX4_lengthOf, cX4_lengthOf, 2, some .int, [], 7, 106, 1, 6)
theorem mp_X4_lengthOf : mpOk M_X4_lengthOf 1 := ⟨by decide +kernel, by decide +kernel, by decide +kernel⟩
theorem mv_X4_lengthOf : mvOk M_X4_lengthOf := ⟨tk5 (i := 106) (by decide +kernel) rfl, tk5 (i := 107) (by decide +kernel) rfl, tk1 (i := 1) (by decide +kernel) rfl, tk5 (i := 108) (by decide +kernel) rfl⟩
def M_L_lengthOf : MM := (yL_lengthOf, cL_lengthOf, 4, some .int, [(0, 9, 12, 13)], 8, 127, 1, 6)
theorem mp_L_lengthOf : mpOk M_L_lengthOf 3 := ⟨by decide +kernel, by decide +kernel, by decide +kernel⟩
theorem ms_L_lengthOf : msOk M_L_lengthOf := ⟨tk5 (i := 103) (by decide +kernel) rfl, tk1 (i := 0) (by decide +kernel) rfl, tk5 (i := 104) (by decide +kernel) rfl⟩
def M_X5_long1 : MM := (yX5_long1, cX5_long1, 4, some .int, [], 1, 21, 0, 0)
theorem mp_X5_long1 : mpOk M_X5_long1 1 := ⟨by decide +kernel, by decide +kernel, by decide +kernel⟩
theorem mv_X5_long1 : mvOk M_X5_long1 := ⟨tk7 (i := 139) (by decide +kernel) rfl, pk (q := (yX5_long1, 15)) (List.mem_of_getElem? (i := 63) (by decide +kernel)), tk1 (i := 6) (by decide +kernel) rfl, tk7 (i := 140) (by decide +kernel) rfl⟩
def M_X5_lengthOf : MM := (yX5_lengthOf, cX5_lengthOf, 2, some .int, [], 2, 44, 0, 0)
theorem mp_X5_lengthOf : mpOk M_X5_lengthOf 1 := ⟨by decide +kernel, by decide +kernel, by decide +kernel⟩
theorem mv_X5_lengthOf : mvOk M_X5_lengthOf := ⟨tk7 (i := 134) (by decide +kernel) rfl, tk7 (i := 135) (by decide +kernel) rfl, tk1 (i := 6) (by decide +kernel) rfl, tk7 (i := 136) (by decide +kernel) rfl⟩
def M_X4_speaksIn : MM := (yX4_speaksIn, cX4_speaksIn, 3, some .boolean, [], 7, 106, 2, 12)
theorem mp_X4_speaksIn : mpOk M_X4_speaksIn 2 := ⟨by decide +kernel, by decide +kernel, by decide +kernel⟩
theorem mv_X4_speaksIn : mvOk M_X4_speaksIn := ⟨tk5 (i := 113) (by decide +kernel) rfl, tk5 (i := 114) (by decide +kernel) rfl, tk1 (i := 1) (by decide +kernel) rfl, tk5 (i := 115) (by decide +kernel) rfl⟩
def M_L_speaksIn : MM := (yL_speaksIn, cL_speaksIn, 5, some .int, [(0, 17, 20, 13)], 8, 128, 2, 12)
theorem mp_L_speaksIn : mpOk M_L_speaksIn 4 := ⟨by decide +kernel, by decide +kernel, by decide +kernel⟩
theorem ms_L_speaksIn : msOk M_L_speaksIn := ⟨tk5 (i := 110) (by decide +kernel) rfl, tk1 (i := 0) (by decide +kernel) rfl, tk5 (i := 111) (by decide +kernel) rfl⟩
def M_X5_speaksIn : MM := (yX5_speaksIn, cX5_speaksIn, 3, some .boolean, [], 2, 45, 0, 0)
theorem mp_X5_speaksIn : mpOk M_X5_speaksIn 2 := ⟨by decide +kernel, by decide +kernel, by decide +kernel⟩
theorem mv_X5_speaksIn : mvOk M_X5_speaksIn := ⟨tk7 (i := 142) (by decide +kernel) rfl, tk7 (i := 143) (by decide +kernel) rfl, tk1 (i := 6) (by decide +kernel) rfl, tk7 (i := 144) (by decide +kernel) rfl⟩
def M_X5_isComplete : MM := (yX5_isComplete, cX5_isComplete, 3, some .boolean, [], 3, 69, 0, 0)
theorem mp_X5_isComplete : mpOk M_X5_isComplete 2 := ⟨by decide +kernel, by decide +kernel, by decide +kernel⟩
theorem mv_X5_isComplete : mvOk M_X5_isComplete := ⟨tk7 (i := 146) (by decide +kernel) rfl, tk7 (i := 147) (by decide +kernel) rfl, tk1 (i := 6) (by decide +kernel) rfl, tk7 (i := 148) (by decide +kernel) rfl⟩
def M_X5_isMixed : MM := (yX5_isMixed, cX5_isMixed, 3, some .boolean, [], 3, 63, 0, 0)
theorem mp_X5_isMixed : mpOk M_X5_isMixed 2 := ⟨by decide +kernel, by decide +kernel, by decide +kernel⟩
theorem mv_X5_isMixed : mvOk M_X5_isMixed := ⟨tk7 (i := 150) (by decide +kernel) rfl, tk7 (i := 151) (by decide +kernel) rfl, tk1 (i := 6) (by decide +kernel) rfl, tk7 (i := 152) (by decide +kernel) rfl⟩
def M_X5_hasSigned : MM := (yX5_hasSigned, cX5_hasSigned, 4, some .boolean, [], 3, 63, 0, 0)
theorem mp_X5_hasSigned : mpOk M_X5_hasSigned 3 := ⟨by decide +kernel, by decide +kernel, by decide +kernel⟩
theorem mv_X5_hasSigned : mvOk M_X5_hasSigned := ⟨tk7 (i := 154) (by decide +kernel) rfl, tk7 (i := 155) (by decide +kernel) rfl, tk1 (i := 6) (by decide +kernel) rfl, tk7 (i := 156) (by decide +kernel) rfl⟩
def M_X3_signaturesAt : MM := (yX3_signaturesAt, cX3_signaturesAt, 3, some .int, [], 1, 21, 0, 0)
theorem mp_X3_signaturesAt : mpOk M_X3_signaturesAt 2 := ⟨by decide +kernel, by decide +kernel, by decide +kernel⟩
theorem mv_X3_signaturesAt : mvOk M_X3_signaturesAt := ⟨tk2 (i := 216) (by decide +kernel) rfl, tk2 (i := 217) (by decide +kernel) rfl, tk1 (i := 2) (by decide +kernel) rfl, tk2 (i := 218) (by decide +kernel) rfl⟩
def M_X4_signaturesOn : MM := (yX4_signaturesOn, cX4_signaturesOn, 3, some .int, [], 7, 106, 2, 12)
theorem mp_X4_signaturesOn : mpOk M_X4_signaturesOn 2 := ⟨by decide +kernel, by decide +kernel, by decide +kernel⟩
theorem mv_X4_signaturesOn : mvOk M_X4_signaturesOn := ⟨tk5 (i := 141) (by decide +kernel) rfl, tk5 (i := 142) (by decide +kernel) rfl, tk1 (i := 1) (by decide +kernel) rfl, tk5 (i := 143) (by decide +kernel) rfl⟩
def M_L_signaturesOn : MM := (yL_signaturesOn, cL_signaturesOn, 5, some .int, [(0, 10, 13, 13)], 8, 128, 2, 12)
theorem mp_L_signaturesOn : mpOk M_L_signaturesOn 4 := ⟨by decide +kernel, by decide +kernel, by decide +kernel⟩
theorem ms_L_signaturesOn : msOk M_L_signaturesOn := ⟨tk5 (i := 138) (by decide +kernel) rfl, tk1 (i := 0) (by decide +kernel) rfl, tk5 (i := 139) (by decide +kernel) rfl⟩
def M_X5_signatures : MM := (yX5_signatures, cX5_signatures, 5, some .int, [], 1, 23, 0, 0)
theorem mp_X5_signatures : mpOk M_X5_signatures 2 := ⟨by decide +kernel, by decide +kernel, by decide +kernel⟩
theorem mv_X5_signatures : mvOk M_X5_signatures := ⟨tk7 (i := 163) (by decide +kernel) rfl, pk (q := (yX5_signatures, 15)) (List.mem_of_getElem? (i := 64) (by decide +kernel)), tk1 (i := 6) (by decide +kernel) rfl, tk7 (i := 164) (by decide +kernel) rfl⟩
def M_X5_signaturesOn : MM := (yX5_signaturesOn, cX5_signaturesOn, 3, some .int, [], 3, 63, 0, 0)
theorem mp_X5_signaturesOn : mpOk M_X5_signaturesOn 2 := ⟨by decide +kernel, by decide +kernel, by decide +kernel⟩
theorem mv_X5_signaturesOn : mvOk M_X5_signaturesOn := ⟨tk7 (i := 158) (by decide +kernel) rfl, tk7 (i := 159) (by decide +kernel) rfl, tk1 (i := 6) (by decide +kernel) rfl, tk7 (i := 160) (by decide +kernel) rfl⟩
def M_X4_missingOn : MM := (yX4_missingOn, cX4_missingOn, 3, some .int, [], 7, 106, 2, 12)
theorem mp_X4_missingOn : mpOk M_X4_missingOn 2 := ⟨by decide +kernel, by decide +kernel, by decide +kernel⟩
theorem mv_X4_missingOn : mvOk M_X4_missingOn := ⟨tk5 (i := 148) (by decide +kernel) rfl, tk5 (i := 149) (by decide +kernel) rfl, tk1 (i := 1) (by decide +kernel) rfl, tk5 (i := 150) (by decide +kernel) rfl⟩
def M_L_missingOn : MM := (yL_missingOn, cL_missingOn, 5, some .int, [(0, 10, 13, 13)], 8, 128, 2, 12)
theorem mp_L_missingOn : mpOk M_L_missingOn 4 := ⟨by decide +kernel, by decide +kernel, by decide +kernel⟩
theorem ms_L_missingOn : msOk M_L_missingOn := ⟨tk5 (i := 145) (by decide +kernel) rfl, tk1 (i := 0) (by decide +kernel) rfl, tk5 (i := 146) (by decide +kernel) rfl⟩
def M_X5_missingOn : MM := (yX5_missingOn, cX5_missingOn, 3, some .int, [], 3, 69, 0, 0)
theorem mp_X5_missingOn : mpOk M_X5_missingOn 2 := ⟨by decide +kernel, by decide +kernel, by decide +kernel⟩
theorem mv_X5_missingOn : mvOk M_X5_missingOn := ⟨tk7 (i := 166) (by decide +kernel) rfl, tk7 (i := 167) (by decide +kernel) rfl, tk1 (i := 6) (by decide +kernel) rfl, tk7 (i := 168) (by decide +kernel) rfl⟩
def M_X5_annexOf : MM := (yX5_annexOf, cX5_annexOf, 2, some .int, [], 2, 44, 0, 0)
theorem mp_X5_annexOf : mpOk M_X5_annexOf 1 := ⟨by decide +kernel, by decide +kernel, by decide +kernel⟩
theorem mv_X5_annexOf : mvOk M_X5_annexOf := ⟨tk7 (i := 170) (by decide +kernel) rfl, tk7 (i := 171) (by decide +kernel) rfl, tk1 (i := 6) (by decide +kernel) rfl, tk7 (i := 172) (by decide +kernel) rfl⟩
def M_X3_takenTotal : MM := (yX3_takenTotal, cX3_takenTotal, 4, some .int, [], 2, 43, 0, 0)
theorem mp_X3_takenTotal : mpOk M_X3_takenTotal 1 := ⟨by decide +kernel, by decide +kernel, by decide +kernel⟩
theorem mv_X3_takenTotal : mvOk M_X3_takenTotal := ⟨tk2 (i := 25) (by decide +kernel) rfl, tk2 (i := 26) (by decide +kernel) rfl, tk1 (i := 2) (by decide +kernel) rfl, tk2 (i := 27) (by decide +kernel) rfl⟩
def M_X4_recordedIn : MM := (yX4_recordedIn, cX4_recordedIn, 2, some .int, [], 7, 106, 1, 6)
theorem mp_X4_recordedIn : mpOk M_X4_recordedIn 1 := ⟨by decide +kernel, by decide +kernel, by decide +kernel⟩
theorem mv_X4_recordedIn : mvOk M_X4_recordedIn := ⟨tk5 (i := 162) (by decide +kernel) rfl, tk5 (i := 163) (by decide +kernel) rfl, tk1 (i := 1) (by decide +kernel) rfl, tk5 (i := 164) (by decide +kernel) rfl⟩
def M_L_recordedIn : MM := (yL_recordedIn, cL_recordedIn, 4, some .int, [(0, 9, 12, 13)], 8, 127, 1, 6)
theorem mp_L_recordedIn : mpOk M_L_recordedIn 3 := ⟨by decide +kernel, by decide +kernel, by decide +kernel⟩
theorem ms_L_recordedIn : msOk M_L_recordedIn := ⟨tk5 (i := 159) (by decide +kernel) rfl, tk1 (i := 0) (by decide +kernel) rfl, tk5 (i := 160) (by decide +kernel) rfl⟩
def M_X5_taken : MM := (yX5_taken, cX5_taken, 4, some .int, [], 2, 43, 0, 0)
theorem mp_X5_taken : mpOk M_X5_taken 1 := ⟨by decide +kernel, by decide +kernel, by decide +kernel⟩
theorem mv_X5_taken : mvOk M_X5_taken := ⟨tk7 (i := 179) (by decide +kernel) rfl, pk (q := (yX5_taken, 15)) (List.mem_of_getElem? (i := 65) (by decide +kernel)), tk1 (i := 6) (by decide +kernel) rfl, tk7 (i := 180) (by decide +kernel) rfl⟩
def M_X5_recordedIn : MM := (yX5_recordedIn, cX5_recordedIn, 2, some .int, [], 3, 66, 0, 0)
theorem mp_X5_recordedIn : mpOk M_X5_recordedIn 1 := ⟨by decide +kernel, by decide +kernel, by decide +kernel⟩
theorem mv_X5_recordedIn : mvOk M_X5_recordedIn := ⟨tk7 (i := 174) (by decide +kernel) rfl, tk7 (i := 175) (by decide +kernel) rfl, tk1 (i := 6) (by decide +kernel) rfl, tk7 (i := 176) (by decide +kernel) rfl⟩
def M_X3_readyTotal : MM := (yX3_readyTotal, cX3_readyTotal, 4, some .int, [], 3, 66, 0, 0)
theorem mp_X3_readyTotal : mpOk M_X3_readyTotal 1 := ⟨by decide +kernel, by decide +kernel, by decide +kernel⟩
theorem mv_X3_readyTotal : mvOk M_X3_readyTotal := ⟨tk3 (i := 8) (by decide +kernel) rfl, tk3 (i := 9) (by decide +kernel) rfl, tk1 (i := 2) (by decide +kernel) rfl, tk3 (i := 10) (by decide +kernel) rfl⟩
def M_X4_readyByClauses : MM := (yX4_readyByClauses, cX4_readyByClauses, 2, some .int, [], 7, 106, 1, 6)
theorem mp_X4_readyByClauses : mpOk M_X4_readyByClauses 1 := ⟨by decide +kernel, by decide +kernel, by decide +kernel⟩
theorem mv_X4_readyByClauses : mvOk M_X4_readyByClauses := ⟨tk5 (i := 169) (by decide +kernel) rfl, tk5 (i := 170) (by decide +kernel) rfl, tk1 (i := 1) (by decide +kernel) rfl, tk5 (i := 171) (by decide +kernel) rfl⟩
def M_L_readyByClauses : MM := (yL_readyByClauses, cL_readyByClauses, 4, some .int, [(0, 9, 12, 13)], 8, 127, 1, 6)
theorem mp_L_readyByClauses : mpOk M_L_readyByClauses 3 := ⟨by decide +kernel, by decide +kernel, by decide +kernel⟩
theorem ms_L_readyByClauses : msOk M_L_readyByClauses := ⟨tk5 (i := 166) (by decide +kernel) rfl, tk1 (i := 0) (by decide +kernel) rfl, tk5 (i := 167) (by decide +kernel) rfl⟩
def M_X5_ready : MM := (yX5_ready, cX5_ready, 4, some .int, [], 6, 132, 0, 0)
theorem mp_X5_ready : mpOk M_X5_ready 1 := ⟨by decide +kernel, by decide +kernel, by decide +kernel⟩
theorem mv_X5_ready : mvOk M_X5_ready := ⟨tk7 (i := 187) (by decide +kernel) rfl, pk (q := (yX5_ready, 15)) (List.mem_of_getElem? (i := 66) (by decide +kernel)), tk1 (i := 6) (by decide +kernel) rfl, tk7 (i := 188) (by decide +kernel) rfl⟩
def M_X5_readyByClauses : MM := (yX5_readyByClauses, cX5_readyByClauses, 2, some .int, [], 7, 155, 0, 0)
theorem mp_X5_readyByClauses : mpOk M_X5_readyByClauses 1 := ⟨by decide +kernel, by decide +kernel, by decide +kernel⟩
theorem mv_X5_readyByClauses : mvOk M_X5_readyByClauses := ⟨tk7 (i := 182) (by decide +kernel) rfl, tk7 (i := 183) (by decide +kernel) rfl, tk1 (i := 6) (by decide +kernel) rfl, tk7 (i := 184) (by decide +kernel) rfl⟩
def M_X3_readyOfVoice : MM := (yX3_readyOfVoice, cX3_readyOfVoice, 5, some .int, [], 3, 66, 0, 0)
theorem mp_X3_readyOfVoice : mpOk M_X3_readyOfVoice 2 := ⟨by decide +kernel, by decide +kernel, by decide +kernel⟩
theorem mv_X3_readyOfVoice : mvOk M_X3_readyOfVoice := ⟨tk3 (i := 17) (by decide +kernel) rfl, pk (q := (yX3_readyOfVoice, 16)) (List.mem_of_getElem? (i := 14) (by decide +kernel)), tk1 (i := 2) (by decide +kernel) rfl, tk3 (i := 18) (by decide +kernel) rfl⟩
def M_X3_readyOfAllVoices : MM := (yX3_readyOfAllVoices, cX3_readyOfAllVoices, 4, some .int, [], 4, 90, 0, 0)
theorem mp_X3_readyOfAllVoices : mpOk M_X3_readyOfAllVoices 1 := ⟨by decide +kernel, by decide +kernel, by decide +kernel⟩
theorem mv_X3_readyOfAllVoices : mvOk M_X3_readyOfAllVoices := ⟨tk3 (i := 12) (by decide +kernel) rfl, tk3 (i := 13) (by decide +kernel) rfl, tk1 (i := 2) (by decide +kernel) rfl, tk3 (i := 14) (by decide +kernel) rfl⟩
def M_X4_readyByVoices : MM := (yX4_readyByVoices, cX4_readyByVoices, 2, some .int, [], 7, 113, 1, 6)
theorem mp_X4_readyByVoices : mpOk M_X4_readyByVoices 1 := ⟨by decide +kernel, by decide +kernel, by decide +kernel⟩
theorem mv_X4_readyByVoices : mvOk M_X4_readyByVoices := ⟨tk5 (i := 176) (by decide +kernel) rfl, tk5 (i := 177) (by decide +kernel) rfl, tk1 (i := 1) (by decide +kernel) rfl, tk5 (i := 178) (by decide +kernel) rfl⟩
def M_L_readyByVoices : MM := (yL_readyByVoices, cL_readyByVoices, 4, some .int, [(0, 9, 12, 13)], 8, 134, 1, 6)
theorem mp_L_readyByVoices : mpOk M_L_readyByVoices 3 := ⟨by decide +kernel, by decide +kernel, by decide +kernel⟩
theorem ms_L_readyByVoices : msOk M_L_readyByVoices := ⟨tk5 (i := 173) (by decide +kernel) rfl, tk1 (i := 0) (by decide +kernel) rfl, tk5 (i := 174) (by decide +kernel) rfl⟩
def M_X5_readyByVoices : MM := (yX5_readyByVoices, cX5_readyByVoices, 2, some .int, [], 7, 155, 0, 0)
theorem mp_X5_readyByVoices : mpOk M_X5_readyByVoices 1 := ⟨by decide +kernel, by decide +kernel, by decide +kernel⟩
theorem mv_X5_readyByVoices : mvOk M_X5_readyByVoices := ⟨tk7 (i := 190) (by decide +kernel) rfl, tk7 (i := 191) (by decide +kernel) rfl, tk1 (i := 6) (by decide +kernel) rfl, tk7 (i := 192) (by decide +kernel) rfl⟩
def M_X5_ratified : MM := (yX5_ratified, cX5_ratified, 4, some .boolean, [], 3, 69, 0, 0)
theorem mp_X5_ratified : mpOk M_X5_ratified 1 := ⟨by decide +kernel, by decide +kernel, by decide +kernel⟩
theorem mv_X5_ratified : mvOk M_X5_ratified := ⟨tk7 (i := 199) (by decide +kernel) rfl, pk (q := (yX5_ratified, 15)) (List.mem_of_getElem? (i := 67) (by decide +kernel)), tk1 (i := 6) (by decide +kernel) rfl, tk7 (i := 200) (by decide +kernel) rfl⟩
def M_X5_isRatified : MM := (yX5_isRatified, cX5_isRatified, 2, some .boolean, [], 4, 92, 0, 0)
theorem mp_X5_isRatified : mpOk M_X5_isRatified 1 := ⟨by decide +kernel, by decide +kernel, by decide +kernel⟩
theorem mv_X5_isRatified : mvOk M_X5_isRatified := ⟨tk7 (i := 194) (by decide +kernel) rfl, tk7 (i := 195) (by decide +kernel) rfl, tk1 (i := 6) (by decide +kernel) rfl, tk7 (i := 196) (by decide +kernel) rfl⟩
def M_X3_misfitTotal : MM := (yX3_misfitTotal, cX3_misfitTotal, 4, some .int, [], 3, 65, 0, 0)
theorem mp_X3_misfitTotal : mpOk M_X3_misfitTotal 1 := ⟨by decide +kernel, by decide +kernel, by decide +kernel⟩
theorem mv_X3_misfitTotal : mvOk M_X3_misfitTotal := ⟨tk3 (i := 26) (by decide +kernel) rfl, tk3 (i := 27) (by decide +kernel) rfl, tk1 (i := 2) (by decide +kernel) rfl, tk3 (i := 28) (by decide +kernel) rfl⟩
def M_X4_misfitsIn : MM := (yX4_misfitsIn, cX4_misfitsIn, 2, some .int, [], 7, 106, 1, 6)
theorem mp_X4_misfitsIn : mpOk M_X4_misfitsIn 1 := ⟨by decide +kernel, by decide +kernel, by decide +kernel⟩
theorem mv_X4_misfitsIn : mvOk M_X4_misfitsIn := ⟨tk5 (i := 190) (by decide +kernel) rfl, tk5 (i := 191) (by decide +kernel) rfl, tk1 (i := 1) (by decide +kernel) rfl, tk5 (i := 192) (by decide +kernel) rfl⟩
def M_L_misfitsIn : MM := (yL_misfitsIn, cL_misfitsIn, 4, some .int, [(0, 9, 12, 13)], 8, 127, 1, 6)
theorem mp_L_misfitsIn : mpOk M_L_misfitsIn 3 := ⟨by decide +kernel, by decide +kernel, by decide +kernel⟩
theorem ms_L_misfitsIn : msOk M_L_misfitsIn := ⟨tk5 (i := 187) (by decide +kernel) rfl, tk1 (i := 0) (by decide +kernel) rfl, tk5 (i := 188) (by decide +kernel) rfl⟩
def M_X5_misfits : MM := (yX5_misfits, cX5_misfits, 4, some .int, [], 4, 87, 0, 0)
theorem mp_X5_misfits : mpOk M_X5_misfits 1 := ⟨by decide +kernel, by decide +kernel, by decide +kernel⟩
theorem mv_X5_misfits : mvOk M_X5_misfits := ⟨tk7 (i := 207) (by decide +kernel) rfl, pk (q := (yX5_misfits, 15)) (List.mem_of_getElem? (i := 68) (by decide +kernel)), tk1 (i := 6) (by decide +kernel) rfl, tk7 (i := 208) (by decide +kernel) rfl⟩
def M_X5_misfitsIn : MM := (yX5_misfitsIn, cX5_misfitsIn, 2, some .int, [], 5, 110, 0, 0)
theorem mp_X5_misfitsIn : mpOk M_X5_misfitsIn 1 := ⟨by decide +kernel, by decide +kernel, by decide +kernel⟩
theorem mv_X5_misfitsIn : mvOk M_X5_misfitsIn := ⟨tk7 (i := 202) (by decide +kernel) rfl, tk7 (i := 203) (by decide +kernel) rfl, tk1 (i := 6) (by decide +kernel) rfl, tk7 (i := 204) (by decide +kernel) rfl⟩
def M_X4_session : MM := (yX4_session, cX4_session, 1, some .int, [], 0, 0, 0, 0)
theorem mp_X4_session : mpOk M_X4_session 0 := ⟨by decide +kernel, by decide +kernel, by decide +kernel⟩
theorem mv_X4_session : mvOk M_X4_session := ⟨tk2 (i := 1) (by decide +kernel) rfl, tk2 (i := 2) (by decide +kernel) rfl, tk1 (i := 1) (by decide +kernel) rfl, tk2 (i := 3) (by decide +kernel) rfl⟩
def M_X5_session : MM := (yX5_session, cX5_session, 1, some .int, [], 1, 21, 0, 0)
theorem mp_X5_session : mpOk M_X5_session 0 := ⟨by decide +kernel, by decide +kernel, by decide +kernel⟩
theorem mv_X5_session : mvOk M_X5_session := ⟨tk7 (i := 210) (by decide +kernel) rfl, tk7 (i := 211) (by decide +kernel) rfl, tk1 (i := 6) (by decide +kernel) rfl, tk7 (i := 212) (by decide +kernel) rfl⟩
def M_X4_recordings : MM := (yX4_recordings, cX4_recordings, 1, some .int, [], 0, 0, 0, 0)
theorem mp_X4_recordings : mpOk M_X4_recordings 0 := ⟨by decide +kernel, by decide +kernel, by decide +kernel⟩
theorem mv_X4_recordings : mvOk M_X4_recordings := ⟨tk2 (i := 5) (by decide +kernel) rfl, tk2 (i := 6) (by decide +kernel) rfl, tk1 (i := 1) (by decide +kernel) rfl, tk2 (i := 7) (by decide +kernel) rfl⟩
def M_X5_recordings : MM := (yX5_recordings, cX5_recordings, 1, some .int, [], 1, 21, 0, 0)
theorem mp_X5_recordings : mpOk M_X5_recordings 0 := ⟨by decide +kernel, by decide +kernel, by decide +kernel⟩
theorem mv_X5_recordings : mvOk M_X5_recordings := ⟨tk7 (i := 214) (by decide +kernel) rfl, tk7 (i := 215) (by decide +kernel) rfl, tk1 (i := 6) (by decide +kernel) rfl, tk7 (i := 216) (by decide +kernel) rfl⟩
def M_X4_wiped : MM := (yX4_wiped, cX4_wiped, 1, some .int, [], 0, 0, 0, 0)
theorem mp_X4_wiped : mpOk M_X4_wiped 0 := ⟨by decide +kernel, by decide +kernel, by decide +kernel⟩
theorem mv_X4_wiped : mvOk M_X4_wiped := ⟨tk2 (i := 9) (by decide +kernel) rfl, tk2 (i := 10) (by decide +kernel) rfl, tk1 (i := 1) (by decide +kernel) rfl, tk2 (i := 11) (by decide +kernel) rfl⟩
def M_X5_wiped : MM := (yX5_wiped, cX5_wiped, 1, some .int, [], 1, 21, 0, 0)
theorem mp_X5_wiped : mpOk M_X5_wiped 0 := ⟨by decide +kernel, by decide +kernel, by decide +kernel⟩
theorem mv_X5_wiped : mvOk M_X5_wiped := ⟨tk7 (i := 218) (by decide +kernel) rfl, tk7 (i := 219) (by decide +kernel) rfl, tk1 (i := 6) (by decide +kernel) rfl, tk7 (i := 220) (by decide +kernel) rfl⟩
def M_X4_mixes : MM := (yX4_mixes, cX4_mixes, 1, some .int, [], 0, 0, 0, 0)
theorem mp_X4_mixes : mpOk M_X4_mixes 0 := ⟨by decide +kernel, by decide +kernel, by decide +kernel⟩
theorem mv_X4_mixes : mvOk M_X4_mixes := ⟨tk2 (i := 13) (by decide +kernel) rfl, tk2 (i := 14) (by decide +kernel) rfl, tk1 (i := 1) (by decide +kernel) rfl, tk2 (i := 15) (by decide +kernel) rfl⟩
def M_X5_mixes : MM := (yX5_mixes, cX5_mixes, 1, some .int, [], 1, 21, 0, 0)
theorem mp_X5_mixes : mpOk M_X5_mixes 0 := ⟨by decide +kernel, by decide +kernel, by decide +kernel⟩
theorem mv_X5_mixes : mvOk M_X5_mixes := ⟨tk7 (i := 222) (by decide +kernel) rfl, tk7 (i := 223) (by decide +kernel) rfl, tk1 (i := 6) (by decide +kernel) rfl, tk7 (i := 224) (by decide +kernel) rfl⟩
def M_X3_leastAnnexAt : MM := (yX3_leastAnnexAt, cX3_leastAnnexAt, 4, some .int, [], 3, 65, 0, 0)
theorem mp_X3_leastAnnexAt : mpOk M_X3_leastAnnexAt 2 := ⟨by decide +kernel, by decide +kernel, by decide +kernel⟩
theorem mv_X3_leastAnnexAt : mvOk M_X3_leastAnnexAt := ⟨tk2 (i := 141) (by decide +kernel) rfl, tk2 (i := 142) (by decide +kernel) rfl, tk1 (i := 2) (by decide +kernel) rfl, tk2 (i := 143) (by decide +kernel) rfl⟩
def M_X4_leastAnnex : MM := (yX4_leastAnnex, cX4_leastAnnex, 4, some .int, [], 8, 129, 4, 24)
theorem mp_X4_leastAnnex : mpOk M_X4_leastAnnex 2 := ⟨by decide +kernel, by decide +kernel, by decide +kernel⟩
theorem mv_X4_leastAnnex : mvOk M_X4_leastAnnex := ⟨tk5 (i := 197) (by decide +kernel) rfl, tk5 (i := 198) (by decide +kernel) rfl, tk1 (i := 1) (by decide +kernel) rfl, tk5 (i := 199) (by decide +kernel) rfl⟩
def M_L_leastAnnex : MM := (yL_leastAnnex, cL_leastAnnex, 5, some .int, [(0, 10, 13, 13), (0, 10, 17, 17)], 9, 152, 4, 24)
theorem mp_L_leastAnnex : mpOk M_L_leastAnnex 4 := ⟨by decide +kernel, by decide +kernel, by decide +kernel⟩
theorem ms_L_leastAnnex : msOk M_L_leastAnnex := ⟨tk5 (i := 194) (by decide +kernel) rfl, tk1 (i := 0) (by decide +kernel) rfl, tk5 (i := 195) (by decide +kernel) rfl⟩
end XM22
