/-! the methods: their rows, and what the tables say of them -/
section XM25
theorem mp_L_isTranslated : mpOk M_L_isTranslated 3 := ⟨by decide +kernel, by decide +kernel, by decide +kernel⟩
theorem ms_L_isTranslated : msOk M_L_isTranslated := ⟨tk5 (i := 70) (by decide +kernel) rfl, tk1 (i := 0) (by decide +kernel) rfl, tk5 (i := 71) rfl rfl⟩
def M_X4_isRecorded : MM := (yX4_isRecorded, cX4_isRecorded, 3, some .boolean, [], 8, 129, 2, 12)
theorem mp_X4_isRecorded : mpOk M_X4_isRecorded 2 := ⟨by decide +kernel, by decide +kernel, by decide +kernel⟩
theorem mv_X4_isRecorded : mvOk M_X4_isRecorded := ⟨tk5 (i := 80) (by decide +kernel) rfl, tk5 (i := 81) (by decide +kernel) rfl, tk1 (i := 1) (by decide +kernel) rfl, tk5 (i := 82) rfl rfl⟩
def M_L_isRecorded : MM := (yL_isRecorded, cL_isRecorded, 4, some .int, [(0, 14, 15, 15)], 9, 151, 2, 12)
theorem mp_L_isRecorded : mpOk M_L_isRecorded 3 := ⟨by decide +kernel, by decide +kernel, by decide +kernel⟩
theorem ms_L_isRecorded : msOk M_L_isRecorded := ⟨tk5 (i := 77) (by decide +kernel) rfl, tk1 (i := 0) (by decide +kernel) rfl, tk5 (i := 78) rfl rfl⟩
def M_X2_start : MM := (yX2_start, cX2_start, 3, none, [], 0, 0, 0, 0)
theorem mp_X2_start : mpOk M_X2_start 2 := ⟨by decide +kernel, by decide +kernel, by decide +kernel⟩
theorem mv_X2_start : mvOk M_X2_start := ⟨tk2 (i := 121) (by decide +kernel) rfl, tk2 (i := 122) (by decide +kernel) rfl, tk1 (i := 5) (by decide +kernel) rfl, tk2 (i := 123) rfl rfl⟩
def M_X3_isReady : MM := (yX3_isReady, cX3_isReady, 3, some .boolean, [], 2, 44, 0, 0)
theorem mp_X3_isReady : mpOk M_X3_isReady 2 := ⟨by decide +kernel, by decide +kernel, by decide +kernel⟩
theorem mv_X3_isReady : mvOk M_X3_isReady := ⟨tk2 (i := 125) (by decide +kernel) rfl, tk2 (i := 126) (by decide +kernel) rfl, tk1 (i := 2) (by decide +kernel) rfl, tk2 (i := 127) rfl rfl⟩
def M_X2_add : MM := (yX2_add, cX2_add, 2, none, [], 1, 22, 0, 0)
theorem mp_X2_add : mpOk M_X2_add 1 := ⟨by decide +kernel, by decide +kernel, by decide +kernel⟩
theorem mv_X2_add : mvOk M_X2_add := ⟨tk2 (i := 129) (by decide +kernel) rfl, tk2 (i := 130) (by decide +kernel) rfl, tk1 (i := 5) (by decide +kernel) rfl, tk2 (i := 131) rfl rfl⟩
def M_X3_fillPlan : MM := (yX3_fillPlan, cX3_fillPlan, 5, none, [], 3, 66, 0, 0)
theorem mp_X3_fillPlan : mpOk M_X3_fillPlan 3 := ⟨by decide +kernel, by decide +kernel, by decide +kernel⟩
theorem mv_X3_fillPlan : mvOk M_X3_fillPlan := ⟨tk2 (i := 117) (by decide +kernel) rfl, tk2 (i := 118) (by decide +kernel) rfl, tk1 (i := 2) (by decide +kernel) rfl, tk2 (i := 119) rfl rfl⟩
def M_X2_hasTooLong : MM := (yX2_hasTooLong, cX2_hasTooLong, 2, some .boolean, [], 1, 21, 0, 0)
theorem mp_X2_hasTooLong : mpOk M_X2_hasTooLong 0 := ⟨by decide +kernel, by decide +kernel, by decide +kernel⟩
theorem mv_X2_hasTooLong : mvOk M_X2_hasTooLong := ⟨tk2 (i := 134) (by decide +kernel) rfl, tk2 (i := 135) (by decide +kernel) rfl, tk1 (i := 5) (by decide +kernel) rfl, tk2 (i := 136) rfl rfl⟩
def M_X4_checkPlan : MM := (yX4_checkPlan, cX4_checkPlan, 3, none, [], 6, 90, 1, 6)
theorem mp_X4_checkPlan : mpOk M_X4_checkPlan 2 := ⟨by decide +kernel, by decide +kernel, by decide +kernel⟩
theorem mv_X4_checkPlan : mvOk M_X4_checkPlan := ⟨tk5 (i := 99) (by decide +kernel) rfl, pk (q := (yX4_checkPlan, 6)) (List.mem_of_getElem? (i := 25) (by decide +kernel)), tk1 (i := 1) (by decide +kernel) rfl, tk5 (i := 100) rfl rfl⟩
def M_X2_goThrough : MM := (yX2_goThrough, cX2_goThrough, 5, some .int, [], 1, 21, 0, 0)
theorem mp_X2_goThrough : mpOk M_X2_goThrough 0 := ⟨by decide +kernel, by decide +kernel, by decide +kernel⟩
theorem mv_X2_goThrough : mvOk M_X2_goThrough := ⟨tk2 (i := 139) (by decide +kernel) rfl, tk2 (i := 140) (by decide +kernel) rfl, tk1 (i := 5) (by decide +kernel) rfl, tk2 (i := 141) rfl rfl⟩
def M_X4_sessionsByGoing : MM := (yX4_sessionsByGoing, cX4_sessionsByGoing, 3, some .int, [], 8, 127, 3, 18)
theorem mp_X4_sessionsByGoing : mpOk M_X4_sessionsByGoing 2 := ⟨by decide +kernel, by decide +kernel, by decide +kernel⟩
theorem mv_X4_sessionsByGoing : mvOk M_X4_sessionsByGoing := ⟨tk5 (i := 94) (by decide +kernel) rfl, tk5 (i := 95) (by decide +kernel) rfl, tk1 (i := 1) (by decide +kernel) rfl, tk5 (i := 96) rfl rfl⟩
def M_L_sessionsByGoing : MM := (yL_sessionsByGoing, cL_sessionsByGoing, 4, some .int, [(0, 6, 7, 15), (0, 6, 11, 19)], 9, 149, 3, 18)
theorem mp_L_sessionsByGoing : mpOk M_L_sessionsByGoing 3 := ⟨by decide +kernel, by decide +kernel, by decide +kernel⟩
theorem ms_L_sessionsByGoing : msOk M_L_sessionsByGoing := ⟨tk5 (i := 91) (by decide +kernel) rfl, tk1 (i := 0) (by decide +kernel) rfl, tk5 (i := 92) rfl rfl⟩
def M_X4_staminaOf : MM := (yX4_staminaOf, cX4_staminaOf, 3, some .int, [], 8, 127, 2, 12)
theorem mp_X4_staminaOf : mpOk M_X4_staminaOf 2 := ⟨by decide +kernel, by decide +kernel, by decide +kernel⟩
theorem mv_X4_staminaOf : mvOk M_X4_staminaOf := ⟨tk5 (i := 106) (by decide +kernel) rfl, tk5 (i := 107) (by decide +kernel) rfl, tk1 (i := 1) (by decide +kernel) rfl, tk5 (i := 108) rfl rfl⟩
def M_L_staminaOf : MM := (yL_staminaOf, cL_staminaOf, 4, some .int, [(0, 6, 7, 15)], 9, 149, 2, 12)
theorem mp_L_staminaOf : mpOk M_L_staminaOf 3 := ⟨by decide +kernel, by decide +kernel, by decide +kernel⟩
theorem ms_L_staminaOf : msOk M_L_staminaOf := ⟨tk5 (i := 103) (by decide +kernel) rfl, tk1 (i := 0) (by decide +kernel) rfl, tk5 (i := 104) rfl rfl⟩
def M_X4_strengthLeft : MM := (yX4_strengthLeft, cX4_strengthLeft, 3, some .int, [], 8, 127, 2, 12)
theorem mp_X4_strengthLeft : mpOk M_X4_strengthLeft 2 := ⟨by decide +kernel, by decide +kernel, by decide +kernel⟩
theorem mv_X4_strengthLeft : mvOk M_X4_strengthLeft := ⟨tk5 (i := 113) (by decide +kernel) rfl, tk5 (i := 114) (by decide +kernel) rfl, tk1 (i := 1) (by decide +kernel) rfl, tk5 (i := 115) rfl rfl⟩
def M_L_strengthLeft : MM := (yL_strengthLeft, cL_strengthLeft, 4, some .int, [(0, 6, 7, 15)], 9, 149, 2, 12)
theorem mp_L_strengthLeft : mpOk M_L_strengthLeft 3 := ⟨by decide +kernel, by decide +kernel, by decide +kernel⟩
theorem ms_L_strengthLeft : msOk M_L_strengthLeft := ⟨tk5 (i := 110) (by decide +kernel) rfl, tk1 (i := 0) (by decide +kernel) rfl, tk5 (i := 111) rfl rfl⟩
def M_X2_fewestFor : MM := (yX2_fewestFor, cX2_fewestFor, 5, some .int, [], 1, 21, 0, 0)
theorem mp_X2_fewestFor : mpOk M_X2_fewestFor 1 := ⟨by decide +kernel, by decide +kernel, by decide +kernel⟩
theorem mv_X2_fewestFor : mvOk M_X2_fewestFor := ⟨tk2 (i := 148) (by decide +kernel) rfl, pk (q := (yX2_fewestFor, 5)) (List.mem_of_getElem? (i := 10) (by decide +kernel)), tk1 (i := 5) (by decide +kernel) rfl, tk2 (i := 149) rfl rfl⟩
def M_X2_fillTable : MM := (yX2_fillTable, cX2_fillTable, 2, some .int, [], 2, 45, 0, 0)
theorem mp_X2_fillTable : mpOk M_X2_fillTable 0 := ⟨by decide +kernel, by decide +kernel, by decide +kernel⟩
theorem mv_X2_fillTable : mvOk M_X2_fillTable := ⟨tk2 (i := 143) (by decide +kernel) rfl, tk2 (i := 144) (by decide +kernel) rfl, tk1 (i := 5) (by decide +kernel) rfl, tk2 (i := 145) rfl rfl⟩
def M_X4_sessionsByTable : MM := (yX4_sessionsByTable, cX4_sessionsByTable, 3, some .int, [], 8, 127, 3, 18)
theorem mp_X4_sessionsByTable : mpOk M_X4_sessionsByTable 2 := ⟨by decide +kernel, by decide +kernel, by decide +kernel⟩
theorem mv_X4_sessionsByTable : mvOk M_X4_sessionsByTable := ⟨tk5 (i := 120) (by decide +kernel) rfl, tk5 (i := 121) (by decide +kernel) rfl, tk1 (i := 1) (by decide +kernel) rfl, tk5 (i := 122) rfl rfl⟩
def M_L_sessionsByTable : MM := (yL_sessionsByTable, cL_sessionsByTable, 4, some .int, [(0, 6, 7, 15), (0, 6, 11, 19)], 9, 149, 3, 18)
theorem mp_L_sessionsByTable : mpOk M_L_sessionsByTable 3 := ⟨by decide +kernel, by decide +kernel, by decide +kernel⟩
theorem ms_L_sessionsByTable : msOk M_L_sessionsByTable := ⟨tk5 (i := 117) (by decide +kernel) rfl, tk1 (i := 0) (by decide +kernel) rfl, tk5 (i := 118) rfl rfl⟩
def M_X4_isComplete : MM := (yX4_isComplete, cX4_isComplete, 3, some .boolean, [], 7, 106, 2, 12)
theorem mp_X4_isComplete : mpOk M_X4_isComplete 2 := ⟨by decide +kernel, by decide +kernel, by decide +kernel⟩
theorem mv_X4_isComplete : mvOk M_X4_isComplete := ⟨tk5 (i := 134) (by decide +kernel) rfl, tk5 (i := 135) (by decide +kernel) rfl, tk1 (i := 1) (by decide +kernel) rfl, tk5 (i := 136) rfl rfl⟩
def M_X4_isMixed : MM := (yX4_isMixed, cX4_isMixed, 3, some .boolean, [], 7, 106, 2, 12)
theorem mp_X4_isMixed : mpOk M_X4_isMixed 2 := ⟨by decide +kernel, by decide +kernel, by decide +kernel⟩
theorem mv_X4_isMixed : mvOk M_X4_isMixed := ⟨tk5 (i := 138) (by decide +kernel) rfl, tk5 (i := 139) (by decide +kernel) rfl, tk1 (i := 1) (by decide +kernel) rfl, tk5 (i := 140) rfl rfl⟩
def M_X3_signaturesAt : MM := (yX3_signaturesAt, cX3_signaturesAt, 3, some .int, [], 1, 21, 0, 0)
theorem mp_X3_signaturesAt : mpOk M_X3_signaturesAt 2 := ⟨by decide +kernel, by decide +kernel, by decide +kernel⟩
theorem mv_X3_signaturesAt : mvOk M_X3_signaturesAt := ⟨tk2 (i := 174) (by decide +kernel) rfl, tk2 (i := 175) (by decide +kernel) rfl, tk1 (i := 2) (by decide +kernel) rfl, tk2 (i := 176) rfl rfl⟩
def M_X4_signaturesOn : MM := (yX4_signaturesOn, cX4_signaturesOn, 3, some .int, [], 7, 106, 2, 12)
theorem mp_X4_signaturesOn : mpOk M_X4_signaturesOn 2 := ⟨by decide +kernel, by decide +kernel, by decide +kernel⟩
theorem mv_X4_signaturesOn : mvOk M_X4_signaturesOn := ⟨tk5 (i := 142) (by decide +kernel) rfl, tk5 (i := 143) (by decide +kernel) rfl, tk1 (i := 1) (by decide +kernel) rfl, tk5 (i := 144) rfl rfl⟩
def M_X4_missingOn : MM := (yX4_missingOn, cX4_missingOn, 3, some .int, [], 7, 106, 2, 12)
theorem mp_X4_missingOn : mpOk M_X4_missingOn 2 := ⟨by decide +kernel, by decide +kernel, by decide +kernel⟩
theorem mv_X4_missingOn : mvOk M_X4_missingOn := ⟨tk5 (i := 146) (by decide +kernel) rfl, tk5 (i := 147) (by decide +kernel) rfl, tk1 (i := 1) (by decide +kernel) rfl, tk5 (i := 148) rfl rfl⟩
def M_L_mixOf : MM := (yL_mixOf, cL_mixOf, 4, some .int, [(0, 49, 50, 15)], 8, 128, 8, 48)
theorem mp_L_mixOf : mpOk M_L_mixOf 3 := ⟨by decide +kernel, by decide +kernel, by decide +kernel⟩
theorem ms_L_mixOf : msOk M_L_mixOf := ⟨tk5 (i := 131) (by decide +kernel) rfl, tk1 (i := 0) (by decide +kernel) rfl, tk5 (i := 132) rfl rfl⟩
def M_X4_hasSigned : MM := (yX4_hasSigned, cX4_hasSigned, 4, some .boolean, [], 7, 106, 3, 18)
theorem mp_X4_hasSigned : mpOk M_X4_hasSigned 3 := ⟨by decide +kernel, by decide +kernel, by decide +kernel⟩
theorem mv_X4_hasSigned : mvOk M_X4_hasSigned := ⟨tk5 (i := 153) (by decide +kernel) rfl, tk5 (i := 154) (by decide +kernel) rfl, tk1 (i := 1) (by decide +kernel) rfl, tk5 (i := 155) rfl rfl⟩
def M_L_hasSigned : MM := (yL_hasSigned, cL_hasSigned, 5, some .int, [(0, 15, 16, 15)], 8, 129, 3, 18)
theorem mp_L_hasSigned : mpOk M_L_hasSigned 4 := ⟨by decide +kernel, by decide +kernel, by decide +kernel⟩
theorem ms_L_hasSigned : msOk M_L_hasSigned := ⟨tk5 (i := 150) (by decide +kernel) rfl, tk1 (i := 0) (by decide +kernel) rfl, tk5 (i := 151) rfl rfl⟩
def M_X4_speaksIn : MM := (yX4_speaksIn, cX4_speaksIn, 3, some .boolean, [], 7, 106, 2, 12)
theorem mp_X4_speaksIn : mpOk M_X4_speaksIn 2 := ⟨by decide +kernel, by decide +kernel, by decide +kernel⟩
theorem mv_X4_speaksIn : mvOk M_X4_speaksIn := ⟨tk5 (i := 160) (by decide +kernel) rfl, tk5 (i := 161) (by decide +kernel) rfl, tk1 (i := 1) (by decide +kernel) rfl, tk5 (i := 162) rfl rfl⟩
end XM25
