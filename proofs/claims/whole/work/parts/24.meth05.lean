/-! the methods: their rows, and what the tables say of them -/
section XM25
theorem mp_X5_annexedOf : mpOk M_X5_annexedOf 2 := ⟨by decide +kernel, by decide +kernel, by decide +kernel⟩
theorem mv_X5_annexedOf : mvOk M_X5_annexedOf := ⟨tk7 (i := 54) (by decide +kernel) rfl, tk7 (i := 55) (by decide +kernel) rfl, tk1 (i := 6) (by decide +kernel) rfl, tk7 (i := 56) rfl rfl⟩
def M_X5_isRecorded : MM := (yX5_isRecorded, cX5_isRecorded, 3, some .boolean, [], 3, 65, 0, 0)
theorem mp_X5_isRecorded : mpOk M_X5_isRecorded 2 := ⟨by decide +kernel, by decide +kernel, by decide +kernel⟩
theorem mv_X5_isRecorded : mvOk M_X5_isRecorded := ⟨tk7 (i := 58) (by decide +kernel) rfl, tk7 (i := 59) (by decide +kernel) rfl, tk1 (i := 6) (by decide +kernel) rfl, tk7 (i := 60) rfl rfl⟩
def M_X4_sessionOf : MM := (yX4_sessionOf, cX4_sessionOf, 3, some .int, [], 8, 129, 3, 18)
theorem mp_X4_sessionOf : mpOk M_X4_sessionOf 2 := ⟨by decide +kernel, by decide +kernel, by decide +kernel⟩
theorem mv_X4_sessionOf : mvOk M_X4_sessionOf := ⟨tk5 (i := 23) (by decide +kernel) rfl, tk5 (i := 24) (by decide +kernel) rfl, tk1 (i := 1) (by decide +kernel) rfl, tk5 (i := 25) rfl rfl⟩
def M_L_sessionOf : MM := (yL_sessionOf, cL_sessionOf, 5, some .int, [(0, 10, 13, 13), (0, 10, 17, 17)], 9, 151, 3, 18)
theorem mp_L_sessionOf : mpOk M_L_sessionOf 4 := ⟨by decide +kernel, by decide +kernel, by decide +kernel⟩
theorem ms_L_sessionOf : msOk M_L_sessionOf := ⟨tk5 (i := 20) (by decide +kernel) rfl, tk1 (i := 0) (by decide +kernel) rfl, tk5 (i := 21) rfl rfl⟩
def M_X5_sessionOf : MM := (yX5_sessionOf, cX5_sessionOf, 3, some .int, [], 3, 65, 0, 0)
theorem mp_X5_sessionOf : mpOk M_X5_sessionOf 2 := ⟨by decide +kernel, by decide +kernel, by decide +kernel⟩
theorem mv_X5_sessionOf : mvOk M_X5_sessionOf := ⟨tk7 (i := 62) (by decide +kernel) rfl, tk7 (i := 63) (by decide +kernel) rfl, tk1 (i := 6) (by decide +kernel) rfl, tk7 (i := 64) rfl rfl⟩
def M_X4_roomFor : MM := (yX4_roomFor, cX4_roomFor, 3, some .int, [], 8, 129, 3, 18)
theorem mp_X4_roomFor : mpOk M_X4_roomFor 2 := ⟨by decide +kernel, by decide +kernel, by decide +kernel⟩
theorem mv_X4_roomFor : mvOk M_X4_roomFor := ⟨tk5 (i := 30) (by decide +kernel) rfl, tk5 (i := 31) (by decide +kernel) rfl, tk1 (i := 1) (by decide +kernel) rfl, tk5 (i := 32) rfl rfl⟩
def M_L_roomFor : MM := (yL_roomFor, cL_roomFor, 5, some .int, [(0, 10, 13, 13), (0, 10, 17, 17)], 9, 151, 3, 18)
theorem mp_L_roomFor : mpOk M_L_roomFor 4 := ⟨by decide +kernel, by decide +kernel, by decide +kernel⟩
theorem ms_L_roomFor : msOk M_L_roomFor := ⟨tk5 (i := 27) (by decide +kernel) rfl, tk1 (i := 0) (by decide +kernel) rfl, tk5 (i := 28) rfl rfl⟩
def M_X5_room : MM := (yX5_room, cX5_room, 3, some .int, [], 3, 65, 0, 0)
theorem mp_X5_room : mpOk M_X5_room 2 := ⟨by decide +kernel, by decide +kernel, by decide +kernel⟩
theorem mv_X5_room : mvOk M_X5_room := ⟨tk7 (i := 71) (by decide +kernel) rfl, pk (q := (yX5_room, 15)) (List.mem_of_getElem? (i := 56) (by decide +kernel)), tk1 (i := 6) (by decide +kernel) rfl, tk7 (i := 72) rfl rfl⟩
def M_X5_roomFor : MM := (yX5_roomFor, cX5_roomFor, 3, some .int, [], 4, 87, 0, 0)
theorem mp_X5_roomFor : mpOk M_X5_roomFor 2 := ⟨by decide +kernel, by decide +kernel, by decide +kernel⟩
theorem mv_X5_roomFor : mvOk M_X5_roomFor := ⟨tk7 (i := 66) (by decide +kernel) rfl, tk7 (i := 67) (by decide +kernel) rfl, tk1 (i := 6) (by decide +kernel) rfl, tk7 (i := 68) rfl rfl⟩
def M_X5_fits : MM := (yX5_fits, cX5_fits, 3, some .boolean, [], 4, 87, 0, 0)
theorem mp_X5_fits : mpOk M_X5_fits 2 := ⟨by decide +kernel, by decide +kernel, by decide +kernel⟩
theorem mv_X5_fits : mvOk M_X5_fits := ⟨tk7 (i := 74) (by decide +kernel) rfl, tk7 (i := 75) (by decide +kernel) rfl, tk1 (i := 6) (by decide +kernel) rfl, tk7 (i := 76) rfl rfl⟩
def M_X5_hundredths : MM := (yX5_hundredths, cX5_hundredths, 3, some .int, [], 3, 65, 0, 0)
theorem mp_X5_hundredths : mpOk M_X5_hundredths 2 := ⟨by decide +kernel, by decide +kernel, by decide +kernel⟩
theorem mv_X5_hundredths : mvOk M_X5_hundredths := ⟨tk7 (i := 83) (by decide +kernel) rfl, pk (q := (yX5_hundredths, 15)) (List.mem_of_getElem? (i := 57) (by decide +kernel)), tk1 (i := 6) (by decide +kernel) rfl, tk7 (i := 84) rfl rfl⟩
def M_X5_hundredthsOf : MM := (yX5_hundredthsOf, cX5_hundredthsOf, 3, some .int, [], 4, 87, 0, 0)
theorem mp_X5_hundredthsOf : mpOk M_X5_hundredthsOf 2 := ⟨by decide +kernel, by decide +kernel, by decide +kernel⟩
theorem mv_X5_hundredthsOf : mvOk M_X5_hundredthsOf := ⟨tk7 (i := 78) (by decide +kernel) rfl, tk7 (i := 79) (by decide +kernel) rfl, tk1 (i := 6) (by decide +kernel) rfl, tk7 (i := 80) rfl rfl⟩
def M_X4_reasonAgainst : MM := (yX4_reasonAgainst, cX4_reasonAgainst, 3, some .int, [], 8, 129, 2, 12)
theorem mp_X4_reasonAgainst : mpOk M_X4_reasonAgainst 2 := ⟨by decide +kernel, by decide +kernel, by decide +kernel⟩
theorem mv_X4_reasonAgainst : mvOk M_X4_reasonAgainst := ⟨tk5 (i := 52) (by decide +kernel) rfl, tk5 (i := 53) (by decide +kernel) rfl, tk1 (i := 1) (by decide +kernel) rfl, tk5 (i := 54) rfl rfl⟩
def M_L_reasonAgainst : MM := (yL_reasonAgainst, cL_reasonAgainst, 5, some .int, [(0, 10, 13, 13)], 9, 151, 2, 12)
theorem mp_L_reasonAgainst : mpOk M_L_reasonAgainst 4 := ⟨by decide +kernel, by decide +kernel, by decide +kernel⟩
theorem ms_L_reasonAgainst : msOk M_L_reasonAgainst := ⟨tk5 (i := 49) (by decide +kernel) rfl, tk1 (i := 0) (by decide +kernel) rfl, tk5 (i := 50) rfl rfl⟩
def M_X5_reasonAgainst : MM := (yX5_reasonAgainst, cX5_reasonAgainst, 3, some .int, [], 5, 109, 0, 0)
theorem mp_X5_reasonAgainst : mpOk M_X5_reasonAgainst 2 := ⟨by decide +kernel, by decide +kernel, by decide +kernel⟩
theorem mv_X5_reasonAgainst : mvOk M_X5_reasonAgainst := ⟨tk7 (i := 86) (by decide +kernel) rfl, tk7 (i := 87) (by decide +kernel) rfl, tk1 (i := 6) (by decide +kernel) rfl, tk7 (i := 88) rfl rfl⟩
def M_X4_staminaOf : MM := (yX4_staminaOf, cX4_staminaOf, 3, some .int, [], 8, 127, 2, 12)
theorem mp_X4_staminaOf : mpOk M_X4_staminaOf 2 := ⟨by decide +kernel, by decide +kernel, by decide +kernel⟩
theorem mv_X4_staminaOf : mvOk M_X4_staminaOf := ⟨tk5 (i := 59) (by decide +kernel) rfl, tk5 (i := 60) (by decide +kernel) rfl, tk1 (i := 1) (by decide +kernel) rfl, tk5 (i := 61) rfl rfl⟩
def M_L_staminaOf : MM := (yL_staminaOf, cL_staminaOf, 5, some .int, [(0, 10, 13, 13)], 9, 149, 2, 12)
theorem mp_L_staminaOf : mpOk M_L_staminaOf 4 := ⟨by decide +kernel, by decide +kernel, by decide +kernel⟩
theorem ms_L_staminaOf : msOk M_L_staminaOf := ⟨tk5 (i := 56) (by decide +kernel) rfl, tk1 (i := 0) (by decide +kernel) rfl, tk5 (i := 57) rfl rfl⟩
def M_X5_staminaOf : MM := (yX5_staminaOf, cX5_staminaOf, 3, some .int, [], 3, 63, 0, 0)
theorem mp_X5_staminaOf : mpOk M_X5_staminaOf 2 := ⟨by decide +kernel, by decide +kernel, by decide +kernel⟩
theorem mv_X5_staminaOf : mvOk M_X5_staminaOf := ⟨tk7 (i := 90) (by decide +kernel) rfl, tk7 (i := 91) (by decide +kernel) rfl, tk1 (i := 6) (by decide +kernel) rfl, tk7 (i := 92) rfl rfl⟩
def M_X4_strengthLeft : MM := (yX4_strengthLeft, cX4_strengthLeft, 3, some .int, [], 8, 127, 2, 12)
theorem mp_X4_strengthLeft : mpOk M_X4_strengthLeft 2 := ⟨by decide +kernel, by decide +kernel, by decide +kernel⟩
theorem mv_X4_strengthLeft : mvOk M_X4_strengthLeft := ⟨tk5 (i := 66) (by decide +kernel) rfl, tk5 (i := 67) (by decide +kernel) rfl, tk1 (i := 1) (by decide +kernel) rfl, tk5 (i := 68) rfl rfl⟩
def M_L_strengthLeft : MM := (yL_strengthLeft, cL_strengthLeft, 5, some .int, [(0, 10, 13, 13)], 9, 149, 2, 12)
theorem mp_L_strengthLeft : mpOk M_L_strengthLeft 4 := ⟨by decide +kernel, by decide +kernel, by decide +kernel⟩
theorem ms_L_strengthLeft : msOk M_L_strengthLeft := ⟨tk5 (i := 63) (by decide +kernel) rfl, tk1 (i := 0) (by decide +kernel) rfl, tk5 (i := 64) rfl rfl⟩
def M_X5_strengthLeft : MM := (yX5_strengthLeft, cX5_strengthLeft, 3, some .int, [], 3, 63, 0, 0)
theorem mp_X5_strengthLeft : mpOk M_X5_strengthLeft 2 := ⟨by decide +kernel, by decide +kernel, by decide +kernel⟩
theorem mv_X5_strengthLeft : mvOk M_X5_strengthLeft := ⟨tk7 (i := 94) (by decide +kernel) rfl, tk7 (i := 95) (by decide +kernel) rfl, tk1 (i := 6) (by decide +kernel) rfl, tk7 (i := 96) rfl rfl⟩
def M_X5_voiced : MM := (yX5_voiced, cX5_voiced, 5, some .int, [], 3, 65, 0, 0)
theorem mp_X5_voiced : mpOk M_X5_voiced 2 := ⟨by decide +kernel, by decide +kernel, by decide +kernel⟩
theorem mv_X5_voiced : mvOk M_X5_voiced := ⟨tk7 (i := 103) (by decide +kernel) rfl, pk (q := (yX5_voiced, 15)) (List.mem_of_getElem? (i := 58) (by decide +kernel)), tk1 (i := 6) (by decide +kernel) rfl, tk7 (i := 104) rfl rfl⟩
def M_X5_framesOfVoice : MM := (yX5_framesOfVoice, cX5_framesOfVoice, 3, some .int, [], 4, 89, 0, 0)
theorem mp_X5_framesOfVoice : mpOk M_X5_framesOfVoice 2 := ⟨by decide +kernel, by decide +kernel, by decide +kernel⟩
theorem mv_X5_framesOfVoice : mvOk M_X5_framesOfVoice := ⟨tk7 (i := 98) (by decide +kernel) rfl, tk7 (i := 99) (by decide +kernel) rfl, tk1 (i := 6) (by decide +kernel) rfl, tk7 (i := 100) rfl rfl⟩
def M_X2_start : MM := (yX2_start, cX2_start, 3, none, [], 0, 0, 0, 0)
theorem mp_X2_start : mpOk M_X2_start 2 := ⟨by decide +kernel, by decide +kernel, by decide +kernel⟩
theorem mv_X2_start : mvOk M_X2_start := ⟨tk2 (i := 163) (by decide +kernel) rfl, tk2 (i := 164) (by decide +kernel) rfl, tk1 (i := 5) (by decide +kernel) rfl, tk2 (i := 165) rfl rfl⟩
def M_X3_isReady : MM := (yX3_isReady, cX3_isReady, 3, some .boolean, [], 2, 44, 0, 0)
theorem mp_X3_isReady : mpOk M_X3_isReady 2 := ⟨by decide +kernel, by decide +kernel, by decide +kernel⟩
theorem mv_X3_isReady : mvOk M_X3_isReady := ⟨tk2 (i := 167) (by decide +kernel) rfl, tk2 (i := 168) (by decide +kernel) rfl, tk1 (i := 2) (by decide +kernel) rfl, tk2 (i := 169) rfl rfl⟩
def M_X2_add : MM := (yX2_add, cX2_add, 2, none, [], 1, 22, 0, 0)
theorem mp_X2_add : mpOk M_X2_add 1 := ⟨by decide +kernel, by decide +kernel, by decide +kernel⟩
theorem mv_X2_add : mvOk M_X2_add := ⟨tk2 (i := 171) (by decide +kernel) rfl, tk2 (i := 172) (by decide +kernel) rfl, tk1 (i := 5) (by decide +kernel) rfl, tk2 (i := 173) rfl rfl⟩
def M_X3_fillPlan : MM := (yX3_fillPlan, cX3_fillPlan, 5, none, [], 3, 66, 0, 0)
theorem mp_X3_fillPlan : mpOk M_X3_fillPlan 3 := ⟨by decide +kernel, by decide +kernel, by decide +kernel⟩
theorem mv_X3_fillPlan : mvOk M_X3_fillPlan := ⟨tk2 (i := 159) (by decide +kernel) rfl, tk2 (i := 160) (by decide +kernel) rfl, tk1 (i := 2) (by decide +kernel) rfl, tk2 (i := 161) rfl rfl⟩
def M_X2_hasTooLong : MM := (yX2_hasTooLong, cX2_hasTooLong, 2, some .boolean, [], 1, 21, 0, 0)
theorem mp_X2_hasTooLong : mpOk M_X2_hasTooLong 0 := ⟨by decide +kernel, by decide +kernel, by decide +kernel⟩
theorem mv_X2_hasTooLong : mvOk M_X2_hasTooLong := ⟨tk2 (i := 176) (by decide +kernel) rfl, tk2 (i := 177) (by decide +kernel) rfl, tk1 (i := 5) (by decide +kernel) rfl, tk2 (i := 178) rfl rfl⟩
def M_X4_checkPlan : MM := (yX4_checkPlan, cX4_checkPlan, 3, none, [], 6, 90, 1, 6)
theorem mp_X4_checkPlan : mpOk M_X4_checkPlan 2 := ⟨by decide +kernel, by decide +kernel, by decide +kernel⟩
theorem mv_X4_checkPlan : mvOk M_X4_checkPlan := ⟨tk5 (i := 85) (by decide +kernel) rfl, pk (q := (yX4_checkPlan, 6)) (List.mem_of_getElem? (i := 25) (by decide +kernel)), tk1 (i := 1) (by decide +kernel) rfl, tk5 (i := 86) rfl rfl⟩
def M_X2_goThrough : MM := (yX2_goThrough, cX2_goThrough, 5, some .int, [], 1, 21, 0, 0)
theorem mp_X2_goThrough : mpOk M_X2_goThrough 0 := ⟨by decide +kernel, by decide +kernel, by decide +kernel⟩
theorem mv_X2_goThrough : mvOk M_X2_goThrough := ⟨tk2 (i := 181) (by decide +kernel) rfl, tk2 (i := 182) (by decide +kernel) rfl, tk1 (i := 5) (by decide +kernel) rfl, tk2 (i := 183) rfl rfl⟩
def M_X4_sessionsByGoing : MM := (yX4_sessionsByGoing, cX4_sessionsByGoing, 3, some .int, [], 8, 127, 3, 18)
theorem mp_X4_sessionsByGoing : mpOk M_X4_sessionsByGoing 2 := ⟨by decide +kernel, by decide +kernel, by decide +kernel⟩
theorem mv_X4_sessionsByGoing : mvOk M_X4_sessionsByGoing := ⟨tk5 (i := 80) (by decide +kernel) rfl, tk5 (i := 81) (by decide +kernel) rfl, tk1 (i := 1) (by decide +kernel) rfl, tk5 (i := 82) rfl rfl⟩
def M_L_sessionsByGoing : MM := (yL_sessionsByGoing, cL_sessionsByGoing, 5, some .int, [(0, 10, 13, 13), (0, 10, 17, 17)], 9, 149, 3, 18)
theorem mp_L_sessionsByGoing : mpOk M_L_sessionsByGoing 4 := ⟨by decide +kernel, by decide +kernel, by decide +kernel⟩
theorem ms_L_sessionsByGoing : msOk M_L_sessionsByGoing := ⟨tk5 (i := 77) (by decide +kernel) rfl, tk1 (i := 0) (by decide +kernel) rfl, tk5 (i := 78) rfl rfl⟩
def M_X5_isReady : MM := (yX5_isReady, cX5_isReady, 4, some .boolean, [], 5, 109, 0, 0)
theorem mp_X5_isReady : mpOk M_X5_isReady 2 := ⟨by decide +kernel, by decide +kernel, by decide +kernel⟩
theorem mv_X5_isReady : mvOk M_X5_isReady := ⟨tk7 (i := 119) (by decide +kernel) rfl, pk (q := (yX5_isReady, 15)) (List.mem_of_getElem? (i := 61) (by decide +kernel)), tk1 (i := 6) (by decide +kernel) rfl, tk7 (i := 120) rfl rfl⟩
def M_X5_sessions : MM := (yX5_sessions, cX5_sessions, 8, some .int, [], 6, 132, 0, 0)
theorem mp_X5_sessions : mpOk M_X5_sessions 2 := ⟨by decide +kernel, by decide +kernel, by decide +kernel⟩
theorem mv_X5_sessions : mvOk M_X5_sessions := ⟨tk7 (i := 115) (by decide +kernel) rfl, pk (q := (yX5_sessions, 15)) (List.mem_of_getElem? (i := 60) (by decide +kernel)), tk1 (i := 6) (by decide +kernel) rfl, tk7 (i := 116) rfl rfl⟩
def M_X5_inSessions : MM := (yX5_inSessions, cX5_inSessions, 3, some .int, [], 7, 159, 0, 0)
theorem mp_X5_inSessions : mpOk M_X5_inSessions 2 := ⟨by decide +kernel, by decide +kernel, by decide +kernel⟩
theorem mv_X5_inSessions : mvOk M_X5_inSessions := ⟨tk7 (i := 111) (by decide +kernel) rfl, pk (q := (yX5_inSessions, 15)) (List.mem_of_getElem? (i := 59) (by decide +kernel)), tk1 (i := 6) (by decide +kernel) rfl, tk7 (i := 112) rfl rfl⟩
def M_X5_sessionsByGoing : MM := (yX5_sessionsByGoing, cX5_sessionsByGoing, 3, some .int, [], 8, 181, 0, 0)
theorem mp_X5_sessionsByGoing : mpOk M_X5_sessionsByGoing 2 := ⟨by decide +kernel, by decide +kernel, by decide +kernel⟩
theorem mv_X5_sessionsByGoing : mvOk M_X5_sessionsByGoing := ⟨tk7 (i := 106) (by decide +kernel) rfl, tk7 (i := 107) (by decide +kernel) rfl, tk1 (i := 6) (by decide +kernel) rfl, tk7 (i := 108) rfl rfl⟩
def M_X2_fewestFor : MM := (yX2_fewestFor, cX2_fewestFor, 5, some .int, [], 1, 21, 0, 0)
theorem mp_X2_fewestFor : mpOk M_X2_fewestFor 1 := ⟨by decide +kernel, by decide +kernel, by decide +kernel⟩
theorem mv_X2_fewestFor : mvOk M_X2_fewestFor := ⟨tk2 (i := 190) (by decide +kernel) rfl, pk (q := (yX2_fewestFor, 5)) (List.mem_of_getElem? (i := 11) (by decide +kernel)), tk1 (i := 5) (by decide +kernel) rfl, tk2 (i := 191) rfl rfl⟩
def M_X2_fillTable : MM := (yX2_fillTable, cX2_fillTable, 2, some .int, [], 2, 45, 0, 0)
theorem mp_X2_fillTable : mpOk M_X2_fillTable 0 := ⟨by decide +kernel, by decide +kernel, by decide +kernel⟩
theorem mv_X2_fillTable : mvOk M_X2_fillTable := ⟨tk2 (i := 185) (by decide +kernel) rfl, tk2 (i := 186) (by decide +kernel) rfl, tk1 (i := 5) (by decide +kernel) rfl, tk2 (i := 187) rfl rfl⟩
def M_X4_sessionsByTable : MM := (yX4_sessionsByTable, cX4_sessionsByTable, 3, some .int, [], 8, 127, 3, 18)
theorem mp_X4_sessionsByTable : mpOk M_X4_sessionsByTable 2 := ⟨by decide +kernel, by decide +kernel, by decide +kernel⟩
theorem mv_X4_sessionsByTable : mvOk M_X4_sessionsByTable := ⟨tk5 (i := 92) (by decide +kernel) rfl, tk5 (i := 93) (by decide +kernel) rfl, tk1 (i := 1) (by decide +kernel) rfl, tk5 (i := 94) rfl rfl⟩
def M_L_sessionsByTable : MM := (yL_sessionsByTable, cL_sessionsByTable, 5, some .int, [(0, 10, 13, 13), (0, 10, 17, 17)], 9, 149, 3, 18)
theorem mp_L_sessionsByTable : mpOk M_L_sessionsByTable 4 := ⟨by decide +kernel, by decide +kernel, by decide +kernel⟩
theorem ms_L_sessionsByTable : msOk M_L_sessionsByTable := ⟨tk5 (i := 89) (by decide +kernel) rfl, tk1 (i := 0) (by decide +kernel) rfl, tk5 (i := 90) rfl rfl⟩
def M_X5_sessionsByTable : MM := (yX5_sessionsByTable, cX5_sessionsByTable, 3, some .int, [], 8, 181, 0, 0)
theorem mp_X5_sessionsByTable : mpOk M_X5_sessionsByTable 2 := ⟨by decide +kernel, by decide +kernel, by decide +kernel⟩
theorem mv_X5_sessionsByTable : mvOk M_X5_sessionsByTable := ⟨tk7 (i := 122) (by decide +kernel) rfl, tk7 (i := 123) (by decide +kernel) rfl, tk1 (i := 6) (by decide +kernel) rfl, tk7 (i := 124) rfl rfl⟩
def M_X5_many : MM := (yX5_many, cX5_many, 4, some .int, [], 1, 21, 0, 0)
theorem mp_X5_many : mpOk M_X5_many 1 := ⟨by decide +kernel, by decide +kernel, by decide +kernel⟩
theorem mv_X5_many : mvOk M_X5_many := ⟨tk7 (i := 131) (by decide +kernel) rfl, pk (q := (yX5_many, 15)) (List.mem_of_getElem? (i := 62) (by decide +kernel)), tk1 (i := 6) (by decide +kernel) rfl, tk7 (i := 132) rfl rfl⟩
def M_X5_clausesIn : MM := (yX5_clausesIn, cX5_clausesIn, 2, some .int, [], 2, 44, 0, 0)
theorem mp_X5_clausesIn : mpOk M_X5_clausesIn 1 := ⟨by decide +kernel, by decide +kernel, by decide +kernel⟩
theorem mv_X5_clausesIn : mvOk M_X5_clausesIn := ⟨tk7 (i := 126) (by decide +kernel) rfl, tk7 (i := 127) (by decide +kernel) rfl, tk1 (i := 6) (by decide +kernel) rfl, tk7 (i := 128) rfl rfl⟩
def M_X3_lipsOn : MM := (yX3_lipsOn, cX3_lipsOn, 4, some .int, [], 2, 42, 0, 0)
theorem mp_X3_lipsOn : mpOk M_X3_lipsOn 1 := ⟨by decide +kernel, by decide +kernel, by decide +kernel⟩
theorem mv_X3_lipsOn : mvOk M_X3_lipsOn := ⟨tk2 (i := 203) (by decide +kernel) rfl, tk2 (i := 204) (by decide +kernel) rfl, tk1 (i := 2) (by decide +kernel) rfl, tk2 (i := 205) rfl rfl⟩
end XM25
