/-! the methods: their rows, and what the tables say of them -/
section XM26
def M_X4_lengthOf : MM := (yX4_lengthOf, cX4_lengthOf, 2, some .int, [], 7, 106, 1, 6)
theorem mp_X4_lengthOf : mpOk M_X4_lengthOf 1 := ⟨by decide +kernel, by decide +kernel, by decide +kernel⟩
theorem mv_X4_lengthOf : mvOk M_X4_lengthOf := ⟨tk5 (i := 106) (by decide +kernel) rfl, tk5 (i := 107) (by decide +kernel) rfl, tk1 (i := 1) (by decide +kernel) rfl, tk5 (i := 108) rfl rfl⟩
def M_L_lengthOf : MM := (yL_lengthOf, cL_lengthOf, 4, some .int, [(0, 9, 12, 13)], 8, 127, 1, 6)
theorem mp_L_lengthOf : mpOk M_L_lengthOf 3 := ⟨by decide +kernel, by decide +kernel, by decide +kernel⟩
theorem ms_L_lengthOf : msOk M_L_lengthOf := ⟨tk5 (i := 103) (by decide +kernel) rfl, tk1 (i := 0) (by decide +kernel) rfl, tk5 (i := 104) rfl rfl⟩
def M_X5_long1 : MM := (yX5_long1, cX5_long1, 4, some .int, [], 1, 21, 0, 0)
theorem mp_X5_long1 : mpOk M_X5_long1 1 := ⟨by decide +kernel, by decide +kernel, by decide +kernel⟩
theorem mv_X5_long1 : mvOk M_X5_long1 := ⟨tk7 (i := 139) (by decide +kernel) rfl, pk (q := (yX5_long1, 15)) (List.mem_of_getElem? (i := 63) (by decide +kernel)), tk1 (i := 6) (by decide +kernel) rfl, tk7 (i := 140) rfl rfl⟩
def M_X5_lengthOf : MM := (yX5_lengthOf, cX5_lengthOf, 2, some .int, [], 2, 44, 0, 0)
theorem mp_X5_lengthOf : mpOk M_X5_lengthOf 1 := ⟨by decide +kernel, by decide +kernel, by decide +kernel⟩
theorem mv_X5_lengthOf : mvOk M_X5_lengthOf := ⟨tk7 (i := 134) (by decide +kernel) rfl, tk7 (i := 135) (by decide +kernel) rfl, tk1 (i := 6) (by decide +kernel) rfl, tk7 (i := 136) rfl rfl⟩
def M_X4_speaksIn : MM := (yX4_speaksIn, cX4_speaksIn, 3, some .boolean, [], 7, 106, 2, 12)
theorem mp_X4_speaksIn : mpOk M_X4_speaksIn 2 := ⟨by decide +kernel, by decide +kernel, by decide +kernel⟩
theorem mv_X4_speaksIn : mvOk M_X4_speaksIn := ⟨tk5 (i := 113) (by decide +kernel) rfl, tk5 (i := 114) (by decide +kernel) rfl, tk1 (i := 1) (by decide +kernel) rfl, tk5 (i := 115) rfl rfl⟩
def M_L_speaksIn : MM := (yL_speaksIn, cL_speaksIn, 5, some .int, [(0, 17, 20, 13)], 8, 128, 2, 12)
theorem mp_L_speaksIn : mpOk M_L_speaksIn 4 := ⟨by decide +kernel, by decide +kernel, by decide +kernel⟩
theorem ms_L_speaksIn : msOk M_L_speaksIn := ⟨tk5 (i := 110) (by decide +kernel) rfl, tk1 (i := 0) (by decide +kernel) rfl, tk5 (i := 111) rfl rfl⟩
def M_X5_speaksIn : MM := (yX5_speaksIn, cX5_speaksIn, 3, some .boolean, [], 2, 45, 0, 0)
theorem mp_X5_speaksIn : mpOk M_X5_speaksIn 2 := ⟨by decide +kernel, by decide +kernel, by decide +kernel⟩
theorem mv_X5_speaksIn : mvOk M_X5_speaksIn := ⟨tk7 (i := 142) (by decide +kernel) rfl, tk7 (i := 143) (by decide +kernel) rfl, tk1 (i := 6) (by decide +kernel) rfl, tk7 (i := 144) rfl rfl⟩
def M_X5_isComplete : MM := (yX5_isComplete, cX5_isComplete, 3, some .boolean, [], 3, 69, 0, 0)
theorem mp_X5_isComplete : mpOk M_X5_isComplete 2 := ⟨by decide +kernel, by decide +kernel, by decide +kernel⟩
theorem mv_X5_isComplete : mvOk M_X5_isComplete := ⟨tk7 (i := 146) (by decide +kernel) rfl, tk7 (i := 147) (by decide +kernel) rfl, tk1 (i := 6) (by decide +kernel) rfl, tk7 (i := 148) rfl rfl⟩
def M_X5_isMixed : MM := (yX5_isMixed, cX5_isMixed, 3, some .boolean, [], 3, 63, 0, 0)
theorem mp_X5_isMixed : mpOk M_X5_isMixed 2 := ⟨by decide +kernel, by decide +kernel, by decide +kernel⟩
theorem mv_X5_isMixed : mvOk M_X5_isMixed := ⟨tk7 (i := 150) (by decide +kernel) rfl, tk7 (i := 151) (by decide +kernel) rfl, tk1 (i := 6) (by decide +kernel) rfl, tk7 (i := 152) rfl rfl⟩
def M_X5_hasSigned : MM := (yX5_hasSigned, cX5_hasSigned, 4, some .boolean, [], 3, 63, 0, 0)
theorem mp_X5_hasSigned : mpOk M_X5_hasSigned 3 := ⟨by decide +kernel, by decide +kernel, by decide +kernel⟩
theorem mv_X5_hasSigned : mvOk M_X5_hasSigned := ⟨tk7 (i := 154) (by decide +kernel) rfl, tk7 (i := 155) (by decide +kernel) rfl, tk1 (i := 6) (by decide +kernel) rfl, tk7 (i := 156) rfl rfl⟩
def M_X3_signaturesAt : MM := (yX3_signaturesAt, cX3_signaturesAt, 3, some .int, [], 1, 21, 0, 0)
theorem mp_X3_signaturesAt : mpOk M_X3_signaturesAt 2 := ⟨by decide +kernel, by decide +kernel, by decide +kernel⟩
theorem mv_X3_signaturesAt : mvOk M_X3_signaturesAt := ⟨tk2 (i := 216) (by decide +kernel) rfl, tk2 (i := 217) (by decide +kernel) rfl, tk1 (i := 2) (by decide +kernel) rfl, tk2 (i := 218) rfl rfl⟩
def M_X4_signaturesOn : MM := (yX4_signaturesOn, cX4_signaturesOn, 3, some .int, [], 7, 106, 2, 12)
theorem mp_X4_signaturesOn : mpOk M_X4_signaturesOn 2 := ⟨by decide +kernel, by decide +kernel, by decide +kernel⟩
theorem mv_X4_signaturesOn : mvOk M_X4_signaturesOn := ⟨tk5 (i := 141) (by decide +kernel) rfl, tk5 (i := 142) (by decide +kernel) rfl, tk1 (i := 1) (by decide +kernel) rfl, tk5 (i := 143) rfl rfl⟩
def M_L_signaturesOn : MM := (yL_signaturesOn, cL_signaturesOn, 5, some .int, [(0, 10, 13, 13)], 8, 128, 2, 12)
theorem mp_L_signaturesOn : mpOk M_L_signaturesOn 4 := ⟨by decide +kernel, by decide +kernel, by decide +kernel⟩
theorem ms_L_signaturesOn : msOk M_L_signaturesOn := ⟨tk5 (i := 138) (by decide +kernel) rfl, tk1 (i := 0) (by decide +kernel) rfl, tk5 (i := 139) rfl rfl⟩
def M_X5_signatures : MM := (yX5_signatures, cX5_signatures, 5, some .int, [], 1, 23, 0, 0)
theorem mp_X5_signatures : mpOk M_X5_signatures 2 := ⟨by decide +kernel, by decide +kernel, by decide +kernel⟩
theorem mv_X5_signatures : mvOk M_X5_signatures := ⟨tk7 (i := 163) (by decide +kernel) rfl, pk (q := (yX5_signatures, 15)) (List.mem_of_getElem? (i := 64) (by decide +kernel)), tk1 (i := 6) (by decide +kernel) rfl, tk7 (i := 164) rfl rfl⟩
def M_X5_signaturesOn : MM := (yX5_signaturesOn, cX5_signaturesOn, 3, some .int, [], 3, 63, 0, 0)
theorem mp_X5_signaturesOn : mpOk M_X5_signaturesOn 2 := ⟨by decide +kernel, by decide +kernel, by decide +kernel⟩
theorem mv_X5_signaturesOn : mvOk M_X5_signaturesOn := ⟨tk7 (i := 158) (by decide +kernel) rfl, tk7 (i := 159) (by decide +kernel) rfl, tk1 (i := 6) (by decide +kernel) rfl, tk7 (i := 160) rfl rfl⟩
def M_X4_missingOn : MM := (yX4_missingOn, cX4_missingOn, 3, some .int, [], 7, 106, 2, 12)
theorem mp_X4_missingOn : mpOk M_X4_missingOn 2 := ⟨by decide +kernel, by decide +kernel, by decide +kernel⟩
theorem mv_X4_missingOn : mvOk M_X4_missingOn := ⟨tk5 (i := 148) (by decide +kernel) rfl, tk5 (i := 149) (by decide +kernel) rfl, tk1 (i := 1) (by decide +kernel) rfl, tk5 (i := 150) rfl rfl⟩
def M_L_missingOn : MM := (yL_missingOn, cL_missingOn, 5, some .int, [(0, 10, 13, 13)], 8, 128, 2, 12)
theorem mp_L_missingOn : mpOk M_L_missingOn 4 := ⟨by decide +kernel, by decide +kernel, by decide +kernel⟩
theorem ms_L_missingOn : msOk M_L_missingOn := ⟨tk5 (i := 145) (by decide +kernel) rfl, tk1 (i := 0) (by decide +kernel) rfl, tk5 (i := 146) rfl rfl⟩
def M_X5_missingOn : MM := (yX5_missingOn, cX5_missingOn, 3, some .int, [], 3, 69, 0, 0)
theorem mp_X5_missingOn : mpOk M_X5_missingOn 2 := ⟨by decide +kernel, by decide +kernel, by decide +kernel⟩
theorem mv_X5_missingOn : mvOk M_X5_missingOn := ⟨tk7 (i := 166) (by decide +kernel) rfl, tk7 (i := 167) (by decide +kernel) rfl, tk1 (i := 6) (by decide +kernel) rfl, tk7 (i := 168) rfl rfl⟩
def M_X5_annexOf : MM := (yX5_annexOf, cX5_annexOf, 2, some .int, [], 2, 44, 0, 0)
theorem mp_X5_annexOf : mpOk M_X5_annexOf 1 := ⟨by decide +kernel, by decide +kernel, by decide +kernel⟩
theorem mv_X5_annexOf : mvOk M_X5_annexOf := ⟨tk7 (i := 170) (by decide +kernel) rfl, tk7 (i := 171) (by decide +kernel) rfl, tk1 (i := 6) (by decide +kernel) rfl, tk7 (i := 172) rfl rfl⟩
def M_X3_takenTotal : MM := (yX3_takenTotal, cX3_takenTotal, 4, some .int, [], 2, 43, 0, 0)
theorem mp_X3_takenTotal : mpOk M_X3_takenTotal 1 := ⟨by decide +kernel, by decide +kernel, by decide +kernel⟩
theorem mv_X3_takenTotal : mvOk M_X3_takenTotal := ⟨tk2 (i := 25) (by decide +kernel) rfl, tk2 (i := 26) (by decide +kernel) rfl, tk1 (i := 2) (by decide +kernel) rfl, tk2 (i := 27) rfl rfl⟩
def M_X4_recordedIn : MM := (yX4_recordedIn, cX4_recordedIn, 2, some .int, [], 7, 106, 1, 6)
theorem mp_X4_recordedIn : mpOk M_X4_recordedIn 1 := ⟨by decide +kernel, by decide +kernel, by decide +kernel⟩
theorem mv_X4_recordedIn : mvOk M_X4_recordedIn := ⟨tk5 (i := 162) (by decide +kernel) rfl, tk5 (i := 163) (by decide +kernel) rfl, tk1 (i := 1) (by decide +kernel) rfl, tk5 (i := 164) rfl rfl⟩
def M_L_recordedIn : MM := (yL_recordedIn, cL_recordedIn, 4, some .int, [(0, 9, 12, 13)], 8, 127, 1, 6)
theorem mp_L_recordedIn : mpOk M_L_recordedIn 3 := ⟨by decide +kernel, by decide +kernel, by decide +kernel⟩
theorem ms_L_recordedIn : msOk M_L_recordedIn := ⟨tk5 (i := 159) (by decide +kernel) rfl, tk1 (i := 0) (by decide +kernel) rfl, tk5 (i := 160) rfl rfl⟩
def M_X5_taken : MM := (yX5_taken, cX5_taken, 4, some .int, [], 2, 43, 0, 0)
theorem mp_X5_taken : mpOk M_X5_taken 1 := ⟨by decide +kernel, by decide +kernel, by decide +kernel⟩
theorem mv_X5_taken : mvOk M_X5_taken := ⟨tk7 (i := 179) (by decide +kernel) rfl, pk (q := (yX5_taken, 15)) (List.mem_of_getElem? (i := 65) (by decide +kernel)), tk1 (i := 6) (by decide +kernel) rfl, tk7 (i := 180) rfl rfl⟩
def M_X5_recordedIn : MM := (yX5_recordedIn, cX5_recordedIn, 2, some .int, [], 3, 66, 0, 0)
theorem mp_X5_recordedIn : mpOk M_X5_recordedIn 1 := ⟨by decide +kernel, by decide +kernel, by decide +kernel⟩
theorem mv_X5_recordedIn : mvOk M_X5_recordedIn := ⟨tk7 (i := 174) (by decide +kernel) rfl, tk7 (i := 175) (by decide +kernel) rfl, tk1 (i := 6) (by decide +kernel) rfl, tk7 (i := 176) rfl rfl⟩
def M_X3_readyTotal : MM := (yX3_readyTotal, cX3_readyTotal, 4, some .int, [], 3, 66, 0, 0)
theorem mp_X3_readyTotal : mpOk M_X3_readyTotal 1 := ⟨by decide +kernel, by decide +kernel, by decide +kernel⟩
theorem mv_X3_readyTotal : mvOk M_X3_readyTotal := ⟨tk3 (i := 8) (by decide +kernel) rfl, tk3 (i := 9) (by decide +kernel) rfl, tk1 (i := 2) (by decide +kernel) rfl, tk3 (i := 10) rfl rfl⟩
def M_X4_readyByClauses : MM := (yX4_readyByClauses, cX4_readyByClauses, 2, some .int, [], 7, 106, 1, 6)
theorem mp_X4_readyByClauses : mpOk M_X4_readyByClauses 1 := ⟨by decide +kernel, by decide +kernel, by decide +kernel⟩
theorem mv_X4_readyByClauses : mvOk M_X4_readyByClauses := ⟨tk5 (i := 169) (by decide +kernel) rfl, tk5 (i := 170) (by decide +kernel) rfl, tk1 (i := 1) (by decide +kernel) rfl, tk5 (i := 171) rfl rfl⟩
def M_L_readyByClauses : MM := (yL_readyByClauses, cL_readyByClauses, 4, some .int, [(0, 9, 12, 13)], 8, 127, 1, 6)
theorem mp_L_readyByClauses : mpOk M_L_readyByClauses 3 := ⟨by decide +kernel, by decide +kernel, by decide +kernel⟩
theorem ms_L_readyByClauses : msOk M_L_readyByClauses := ⟨tk5 (i := 166) (by decide +kernel) rfl, tk1 (i := 0) (by decide +kernel) rfl, tk5 (i := 167) rfl rfl⟩
def M_X5_ready : MM := (yX5_ready, cX5_ready, 4, some .int, [], 6, 132, 0, 0)
theorem mp_X5_ready : mpOk M_X5_ready 1 := ⟨by decide +kernel, by decide +kernel, by decide +kernel⟩
theorem mv_X5_ready : mvOk M_X5_ready := ⟨tk7 (i := 187) (by decide +kernel) rfl, pk (q := (yX5_ready, 15)) (List.mem_of_getElem? (i := 66) (by decide +kernel)), tk1 (i := 6) (by decide +kernel) rfl, tk7 (i := 188) rfl rfl⟩
def M_X5_readyByClauses : MM := (yX5_readyByClauses, cX5_readyByClauses, 2, some .int, [], 7, 155, 0, 0)
theorem mp_X5_readyByClauses : mpOk M_X5_readyByClauses 1 := ⟨by decide +kernel, by decide +kernel, by decide +kernel⟩
theorem mv_X5_readyByClauses : mvOk M_X5_readyByClauses := ⟨tk7 (i := 182) (by decide +kernel) rfl, tk7 (i := 183) (by decide +kernel) rfl, tk1 (i := 6) (by decide +kernel) rfl, tk7 (i := 184) rfl rfl⟩
def M_X3_readyOfVoice : MM := (yX3_readyOfVoice, cX3_readyOfVoice, 5, some .int, [], 3, 66, 0, 0)
theorem mp_X3_readyOfVoice : mpOk M_X3_readyOfVoice 2 := ⟨by decide +kernel, by decide +kernel, by decide +kernel⟩
theorem mv_X3_readyOfVoice : mvOk M_X3_readyOfVoice := ⟨tk3 (i := 17) (by decide +kernel) rfl, pk (q := (yX3_readyOfVoice, 16)) (List.mem_of_getElem? (i := 14) (by decide +kernel)), tk1 (i := 2) (by decide +kernel) rfl, tk3 (i := 18) rfl rfl⟩
def M_X3_readyOfAllVoices : MM := (yX3_readyOfAllVoices, cX3_readyOfAllVoices, 4, some .int, [], 4, 90, 0, 0)
theorem mp_X3_readyOfAllVoices : mpOk M_X3_readyOfAllVoices 1 := ⟨by decide +kernel, by decide +kernel, by decide +kernel⟩
theorem mv_X3_readyOfAllVoices : mvOk M_X3_readyOfAllVoices := ⟨tk3 (i := 12) (by decide +kernel) rfl, tk3 (i := 13) (by decide +kernel) rfl, tk1 (i := 2) (by decide +kernel) rfl, tk3 (i := 14) rfl rfl⟩
def M_X4_readyByVoices : MM := (yX4_readyByVoices, cX4_readyByVoices, 2, some .int, [], 7, 113, 1, 6)
theorem mp_X4_readyByVoices : mpOk M_X4_readyByVoices 1 := ⟨by decide +kernel, by decide +kernel, by decide +kernel⟩
theorem mv_X4_readyByVoices : mvOk M_X4_readyByVoices := ⟨tk5 (i := 176) (by decide +kernel) rfl, tk5 (i := 177) (by decide +kernel) rfl, tk1 (i := 1) (by decide +kernel) rfl, tk5 (i := 178) rfl rfl⟩
def M_L_readyByVoices : MM := (yL_readyByVoices, cL_readyByVoices, 4, some .int, [(0, 9, 12, 13)], 8, 134, 1, 6)
theorem mp_L_readyByVoices : mpOk M_L_readyByVoices 3 := ⟨by decide +kernel, by decide +kernel, by decide +kernel⟩
theorem ms_L_readyByVoices : msOk M_L_readyByVoices := ⟨tk5 (i := 173) (by decide +kernel) rfl, tk1 (i := 0) (by decide +kernel) rfl, tk5 (i := 174) rfl rfl⟩
def M_X5_readyByVoices : MM := (yX5_readyByVoices, cX5_readyByVoices, 2, some .int, [], 7, 155, 0, 0)
theorem mp_X5_readyByVoices : mpOk M_X5_readyByVoices 1 := ⟨by decide +kernel, by decide +kernel, by decide +kernel⟩
theorem mv_X5_readyByVoices : mvOk M_X5_readyByVoices := ⟨tk7 (i := 190) (by decide +kernel) rfl, tk7 (i := 191) (by decide +kernel) rfl, tk1 (i := 6) (by decide +kernel) rfl, tk7 (i := 192) rfl rfl⟩
def M_X5_ratified : MM := (yX5_ratified, cX5_ratified, 4, some .boolean, [], 3, 69, 0, 0)
theorem mp_X5_ratified : mpOk M_X5_ratified 1 := ⟨by decide +kernel, by decide +kernel, by decide +kernel⟩
theorem mv_X5_ratified : mvOk M_X5_ratified := ⟨tk7 (i := 199) (by decide +kernel) rfl, pk (q := (yX5_ratified, 15)) (List.mem_of_getElem? (i := 67) (by decide +kernel)), tk1 (i := 6) (by decide +kernel) rfl, tk7 (i := 200) rfl rfl⟩
def M_X5_isRatified : MM := (yX5_isRatified, cX5_isRatified, 2, some .boolean, [], 4, 92, 0, 0)
theorem mp_X5_isRatified : mpOk M_X5_isRatified 1 := ⟨by decide +kernel, by decide +kernel, by decide +kernel⟩
theorem mv_X5_isRatified : mvOk M_X5_isRatified := ⟨tk7 (i := 194) (by decide +kernel) rfl, tk7 (i := 195) (by decide +kernel) rfl, tk1 (i := 6) (by decide +kernel) rfl, tk7 (i := 196) rfl rfl⟩
def M_X3_misfitTotal : MM := (yX3_misfitTotal, cX3_misfitTotal, 4, some .int, [], 3, 65, 0, 0)
theorem mp_X3_misfitTotal : mpOk M_X3_misfitTotal 1 := ⟨by decide +kernel, by decide +kernel, by decide +kernel⟩
theorem mv_X3_misfitTotal : mvOk M_X3_misfitTotal := ⟨tk3 (i := 26) (by decide +kernel) rfl, tk3 (i := 27) (by decide +kernel) rfl, tk1 (i := 2) (by decide +kernel) rfl, tk3 (i := 28) rfl rfl⟩
def M_X4_misfitsIn : MM := (yX4_misfitsIn, cX4_misfitsIn, 2, some .int, [], 7, 106, 1, 6)
theorem mp_X4_misfitsIn : mpOk M_X4_misfitsIn 1 := ⟨by decide +kernel, by decide +kernel, by decide +kernel⟩
theorem mv_X4_misfitsIn : mvOk M_X4_misfitsIn := ⟨tk5 (i := 190) (by decide +kernel) rfl, tk5 (i := 191) (by decide +kernel) rfl, tk1 (i := 1) (by decide +kernel) rfl, tk5 (i := 192) rfl rfl⟩
def M_L_misfitsIn : MM := (yL_misfitsIn, cL_misfitsIn, 4, some .int, [(0, 9, 12, 13)], 8, 127, 1, 6)
theorem mp_L_misfitsIn : mpOk M_L_misfitsIn 3 := ⟨by decide +kernel, by decide +kernel, by decide +kernel⟩
theorem ms_L_misfitsIn : msOk M_L_misfitsIn := ⟨tk5 (i := 187) (by decide +kernel) rfl, tk1 (i := 0) (by decide +kernel) rfl, tk5 (i := 188) rfl rfl⟩
def M_X5_misfits : MM := (yX5_misfits, cX5_misfits, 4, some .int, [], 4, 87, 0, 0)
theorem mp_X5_misfits : mpOk M_X5_misfits 1 := ⟨by decide +kernel, by decide +kernel, by decide +kernel⟩
theorem mv_X5_misfits : mvOk M_X5_misfits := ⟨tk7 (i := 207) (by decide +kernel) rfl, pk (q := (yX5_misfits, 15)) (List.mem_of_getElem? (i := 68) (by decide +kernel)), tk1 (i := 6) (by decide +kernel) rfl, tk7 (i := 208) rfl rfl⟩
def M_X5_misfitsIn : MM := (yX5_misfitsIn, cX5_misfitsIn, 2, some .int, [], 5, 110, 0, 0)
theorem mp_X5_misfitsIn : mpOk M_X5_misfitsIn 1 := ⟨by decide +kernel, by decide +kernel, by decide +kernel⟩
theorem mv_X5_misfitsIn : mvOk M_X5_misfitsIn := ⟨tk7 (i := 202) (by decide +kernel) rfl, tk7 (i := 203) (by decide +kernel) rfl, tk1 (i := 6) (by decide +kernel) rfl, tk7 (i := 204) rfl rfl⟩
def M_X4_session : MM := (yX4_session, cX4_session, 1, some .int, [], 0, 0, 0, 0)
theorem mp_X4_session : mpOk M_X4_session 0 := ⟨by decide +kernel, by decide +kernel, by decide +kernel⟩
theorem mv_X4_session : mvOk M_X4_session := ⟨tk2 (i := 1) (by decide +kernel) rfl, tk2 (i := 2) (by decide +kernel) rfl, tk1 (i := 1) (by decide +kernel) rfl, tk2 (i := 3) rfl rfl⟩
def M_X5_session : MM := (yX5_session, cX5_session, 1, some .int, [], 1, 21, 0, 0)
theorem mp_X5_session : mpOk M_X5_session 0 := ⟨by decide +kernel, by decide +kernel, by decide +kernel⟩
theorem mv_X5_session : mvOk M_X5_session := ⟨tk7 (i := 210) (by decide +kernel) rfl, tk7 (i := 211) (by decide +kernel) rfl, tk1 (i := 6) (by decide +kernel) rfl, tk7 (i := 212) rfl rfl⟩
def M_X4_recordings : MM := (yX4_recordings, cX4_recordings, 1, some .int, [], 0, 0, 0, 0)
theorem mp_X4_recordings : mpOk M_X4_recordings 0 := ⟨by decide +kernel, by decide +kernel, by decide +kernel⟩
end XM26
