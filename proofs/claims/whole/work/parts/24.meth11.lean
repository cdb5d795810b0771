/-! the methods: their rows, and what the tables say of them -/
section XM211
def M_X3_isReady : MM := (yX3_isReady, cX3_isReady, 3, some .boolean, [], 2, 44, 0, 0)
theorem mp_X3_isReady : mpOk M_X3_isReady 2 := ⟨by decide +kernel, by decide +kernel, by decide +kernel⟩
theorem mv_X3_isReady : mvOk M_X3_isReady := ⟨tk2 (i := 167) (by decide +kernel) rfl, tk2 (i := 168) (by decide +kernel) rfl, tk1 (i := 2) (by decide +kernel) rfl, tk2 (i := 169) (by decide +kernel) rfl⟩
def M_X2_add : MM := (yX2_add, cX2_add, 2, none, [], 1, 22, 0, 0)
theorem mp_X2_add : mpOk M_X2_add 1 := ⟨by decide +kernel, by decide +kernel, by decide +kernel⟩
theorem mv_X2_add : mvOk M_X2_add := ⟨tk2 (i := 171) (by decide +kernel) rfl, tk2 (i := 172) (by decide +kernel) rfl, tk1 (i := 5) (by decide +kernel) rfl, tk2 (i := 173) (by decide +kernel) rfl⟩
def M_X3_fillPlan : MM := (yX3_fillPlan, cX3_fillPlan, 5, none, [], 3, 66, 0, 0)
theorem mp_X3_fillPlan : mpOk M_X3_fillPlan 3 := ⟨by decide +kernel, by decide +kernel, by decide +kernel⟩
theorem mv_X3_fillPlan : mvOk M_X3_fillPlan := ⟨tk2 (i := 159) (by decide +kernel) rfl, tk2 (i := 160) (by decide +kernel) rfl, tk1 (i := 2) (by decide +kernel) rfl, tk2 (i := 161) (by decide +kernel) rfl⟩
def M_X2_hasTooLong : MM := (yX2_hasTooLong, cX2_hasTooLong, 2, some .boolean, [], 1, 21, 0, 0)
theorem mp_X2_hasTooLong : mpOk M_X2_hasTooLong 0 := ⟨by decide +kernel, by decide +kernel, by decide +kernel⟩
theorem mv_X2_hasTooLong : mvOk M_X2_hasTooLong := ⟨tk2 (i := 176) (by decide +kernel) rfl, tk2 (i := 177) (by decide +kernel) rfl, tk1 (i := 5) (by decide +kernel) rfl, tk2 (i := 178) (by decide +kernel) rfl⟩
def M_X4_checkPlan : MM := (yX4_checkPlan, cX4_checkPlan, 3, none, [], 6, 90, 1, 6)
theorem mp_X4_checkPlan : mpOk M_X4_checkPlan 2 := ⟨by decide +kernel, by decide +kernel, by decide +kernel⟩
theorem mv_X4_checkPlan : mvOk M_X4_checkPlan := ⟨tk5 (i := 85) (by decide +kernel) rfl, pk (q := (yX4_checkPlan, 6)) (List.mem_of_getElem? (i := 25) (by decide +kernel)), tk1 (i := 1) (by decide +kernel) rfl, tk5 (i := 86) (by decide +kernel) rfl⟩
def M_X2_goThrough : MM := (yX2_goThrough, cX2_goThrough, 5, some .int, [], 1, 21, 0, 0)
theorem mp_X2_goThrough : mpOk M_X2_goThrough 0 := ⟨by decide +kernel, by decide +kernel, by decide +kernel⟩
theorem mv_X2_goThrough : mvOk M_X2_goThrough := ⟨tk2 (i := 181) (by decide +kernel) rfl, tk2 (i := 182) (by decide +kernel) rfl, tk1 (i := 5) (by decide +kernel) rfl, tk2 (i := 183) (by decide +kernel) rfl⟩
def M_X4_sessionsByGoing : MM := (yX4_sessionsByGoing, cX4_sessionsByGoing, 3, some .int, [], 8, 127, 3, 18)
theorem mp_X4_sessionsByGoing : mpOk M_X4_sessionsByGoing 2 := ⟨by decide +kernel, by decide +kernel, by decide +kernel⟩
theorem mv_X4_sessionsByGoing : mvOk M_X4_sessionsByGoing := ⟨tk5 (i := 80) (by decide +kernel) rfl, tk5 (i := 81) (by decide +kernel) rfl, tk1 (i := 1) (by decide +kernel) rfl, tk5 (i := 82) (by decide +kernel) rfl⟩
def M_L_sessionsByGoing : MM := (yL_sessionsByGoing, cL_sessionsByGoing, 5, some .int, [(0, 10, 13, 13), (0, 10, 17, 17)], 9, 149, 3, 18)
theorem mp_L_sessionsByGoing : mpOk M_L_sessionsByGoing 4 := ⟨by decide +kernel, by decide +kernel, by decide +kernel⟩
theorem ms_L_sessionsByGoing : msOk M_L_sessionsByGoing := ⟨tk5 (i := 77) (by decide +kernel) rfl, tk1 (i := 0) (by decide +kernel) rfl, tk5 (i := 78) (by decide +kernel) rfl⟩
def M_X5_isReady : MM := (yX5_isReady, cX5_isReady, 4, some .boolean, [], 5, 109, 0, 0)
theorem mp_X5_isReady : mpOk M_X5_isReady 2 := ⟨by decide +kernel, by decide +kernel, by decide +kernel⟩
theorem mv_X5_isReady : mvOk M_X5_isReady := ⟨tk7 (i := 119) (by decide +kernel) rfl, pk (q := (yX5_isReady, 15)) (List.mem_of_getElem? (i := 61) (by decide +kernel)), tk1 (i := 6) (by decide +kernel) rfl, tk7 (i := 120) (by decide +kernel) rfl⟩
def M_X5_sessions : MM := (yX5_sessions, cX5_sessions, 8, some .int, [], 6, 132, 0, 0)
theorem mp_X5_sessions : mpOk M_X5_sessions 2 := ⟨by decide +kernel, by decide +kernel, by decide +kernel⟩
theorem mv_X5_sessions : mvOk M_X5_sessions := ⟨tk7 (i := 115) (by decide +kernel) rfl, pk (q := (yX5_sessions, 15)) (List.mem_of_getElem? (i := 60) (by decide +kernel)), tk1 (i := 6) (by decide +kernel) rfl, tk7 (i := 116) (by decide +kernel) rfl⟩
def M_X5_inSessions : MM := (yX5_inSessions, cX5_inSessions, 3, some .int, [], 7, 159, 0, 0)
theorem mp_X5_inSessions : mpOk M_X5_inSessions 2 := ⟨by decide +kernel, by decide +kernel, by decide +kernel⟩
theorem mv_X5_inSessions : mvOk M_X5_inSessions := ⟨tk7 (i := 111) (by decide +kernel) rfl, pk (q := (yX5_inSessions, 15)) (List.mem_of_getElem? (i := 59) (by decide +kernel)), tk1 (i := 6) (by decide +kernel) rfl, tk7 (i := 112) (by decide +kernel) rfl⟩
def M_X5_sessionsByGoing : MM := (yX5_sessionsByGoing, cX5_sessionsByGoing, 3, some .int, [], 8, 181, 0, 0)
theorem mp_X5_sessionsByGoing : mpOk M_X5_sessionsByGoing 2 := ⟨by decide +kernel, by decide +kernel, by decide +kernel⟩
theorem mv_X5_sessionsByGoing : mvOk M_X5_sessionsByGoing := ⟨tk7 (i := 106) (by decide +kernel) rfl, tk7 (i := 107) (by decide +kernel) rfl, tk1 (i := 6) (by decide +kernel) rfl, tk7 (i := 108) (by decide +kernel) rfl⟩
def M_X2_fewestFor : MM := (yX2_fewestFor, cX2_fewestFor, 5, some .int, [], 1, 21, 0, 0)
theorem mp_X2_fewestFor : mpOk M_X2_fewestFor 1 := ⟨by decide +kernel, by decide +kernel, by decide +kernel⟩
theorem mv_X2_fewestFor : mvOk M_X2_fewestFor := ⟨tk2 (i := 190) (by decide +kernel) rfl, pk (q := (yX2_fewestFor, 5)) (List.mem_of_getElem? (i := 11) (by decide +kernel)), tk1 (i := 5) (by decide +kernel) rfl, tk2 (i := 191) (by decide +kernel) rfl⟩
def M_X2_fillTable : MM := (yX2_fillTable, cX2_fillTable, 2, some .int, [], 2, 45, 0, 0)
theorem mp_X2_fillTable : mpOk M_X2_fillTable 0 := ⟨by decide +kernel, by decide +kernel, by decide +kernel⟩
theorem mv_X2_fillTable : mvOk M_X2_fillTable := ⟨tk2 (i := 185) (by decide +kernel) rfl, tk2 (i := 186) (by decide +kernel) rfl, tk1 (i := 5) (by decide +kernel) rfl, tk2 (i := 187) (by decide +kernel) rfl⟩
def M_X4_sessionsByTable : MM := (yX4_sessionsByTable, cX4_sessionsByTable, 3, some .int, [], 8, 127, 3, 18)
theorem mp_X4_sessionsByTable : mpOk M_X4_sessionsByTable 2 := ⟨by decide +kernel, by decide +kernel, by decide +kernel⟩
theorem mv_X4_sessionsByTable : mvOk M_X4_sessionsByTable := ⟨tk5 (i := 92) (by decide +kernel) rfl, tk5 (i := 93) (by decide +kernel) rfl, tk1 (i := 1) (by decide +kernel) rfl, tk5 (i := 94) (by decide +kernel) rfl⟩
def M_L_sessionsByTable : MM := (yL_sessionsByTable, cL_sessionsByTable, 5, some .int, [(0, 10, 13, 13), (0, 10, 17, 17)], 9, 149, 3, 18)
theorem mp_L_sessionsByTable : mpOk M_L_sessionsByTable 4 := ⟨by decide +kernel, by decide +kernel, by decide +kernel⟩
theorem ms_L_sessionsByTable : msOk M_L_sessionsByTable := ⟨tk5 (i := 89) (by decide +kernel) rfl, tk1 (i := 0) (by decide +kernel) rfl, tk5 (i := 90) (by decide +kernel) rfl⟩
def M_X5_sessionsByTable : MM := (yX5_sessionsByTable, cX5_sessionsByTable, 3, some .int, [], 8, 181, 0, 0)
theorem mp_X5_sessionsByTable : mpOk M_X5_sessionsByTable 2 := ⟨by decide +kernel, by decide +kernel, by decide +kernel⟩
theorem mv_X5_sessionsByTable : mvOk M_X5_sessionsByTable := ⟨tk7 (i := 122) (by decide +kernel) rfl, tk7 (i := 123) (by decide +kernel) rfl, tk1 (i := 6) (by decide +kernel) rfl, tk7 (i := 124) (by decide +kernel) rfl⟩
def M_X5_many : MM := (yX5_many, cX5_many, 4, some .int, [], 1, 21, 0, 0)
theorem mp_X5_many : mpOk M_X5_many 1 := ⟨by decide +kernel, by decide +kernel, by decide +kernel⟩
theorem mv_X5_many : mvOk M_X5_many := ⟨tk7 (i := 131) (by decide +kernel) rfl, pk (q := (yX5_many, 15)) (List.mem_of_getElem? (i := 62) (by decide +kernel)), tk1 (i := 6) (by decide +kernel) rfl, tk7 (i := 132) (by decide +kernel) rfl⟩
def M_X5_clausesIn : MM := (yX5_clausesIn, cX5_clausesIn, 2, some .int, [], 2, 44, 0, 0)
theorem mp_X5_clausesIn : mpOk M_X5_clausesIn 1 := ⟨by decide +kernel, by decide +kernel, by decide +kernel⟩
theorem mv_X5_clausesIn : mvOk M_X5_clausesIn := ⟨tk7 (i := 126) (by decide +kernel) rfl, tk7 (i := 127) (by decide +kernel) rfl, tk1 (i := 6) (by decide +kernel) rfl, tk7 (i := 128) (by decide +kernel) rfl⟩
def M_X3_lipsOn : MM := (yX3_lipsOn, cX3_lipsOn, 4, some .int, [], 2, 42, 0, 0)
theorem mp_X3_lipsOn : mpOk M_X3_lipsOn 1 := ⟨by decide +kernel, by decide +kernel, by decide +kernel⟩
theorem mv_X3_lipsOn : mvOk M_X3_lipsOn := ⟨tk2 (i := 203) (by decide +kernel) rfl, tk2 (i := 204) (by decide +kernel) rfl, tk1 (i := 2) (by decide +kernel) rfl, tk2 (i := 205) (by decide +kernel) rfl⟩
def M_X4_lengthOf : MM := (yX4_lengthOf, cX4_lengthOf, 2, some .int, [], 7, 106, 1, 6)
theorem mp_X4_lengthOf : mpOk M_X4_lengthOf 1 := ⟨by decide +kernel, by decide +kernel, by decide +kernel⟩
theorem mv_X4_lengthOf : mvOk M_X4_lengthOf := ⟨tk5 (i := 106) (by decide +kernel) rfl, tk5 (i := 107) (by decide +kernel) rfl, tk1 (i := 1) (by decide +kernel) rfl, tk5 (i := 108) (by decide +kernel) rfl⟩
def M_L_lengthOf : MM := (yL_lengthOf, cL_lengthOf, 4, some .int, [(0, 9, 12, 13)], 8, 127, 1, 6)
theorem mp_L_lengthOf : mpOk M_L_lengthOf 3 := ⟨by decide +kernel, by decide +kernel, by decide +kernel⟩
theorem ms_L_lengthOf : msOk M_L_lengthOf := ⟨tk5 (i := 103) (by decide +kernel) rfl, tk1 (i := 0) (by decide +kernel) rfl, tk5 (i := 104) (by decide +kernel) rfl⟩
end XM211
