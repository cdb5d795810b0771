/-! the methods: their rows, and what the tables say of them -/
section XM212
def M_X5_long1 : MM := (yX5_long1, cX5_long1, 4, some .int, [], 1, 21, 0, 0)
theorem mp_X5_long1 : mpOk M_X5_long1 1 := ⟨by decide +kernel, by decide +kernel, by decide +kernel⟩
theorem mv_X5_long1 : mvOk M_X5_long1 := ⟨tk7 (i := 139) (by decide +kernel) rfl, pk (q := (yX5_long1, 15)) (List.mem_of_getElem? (i := 63) (by decide +kernel)), tk1 (i := 6) (by decide +kernel) rfl, tk7 (i := 140) (by decide +kernel) rfl⟩
def M_X5_lengthOf : MM := (yX5_lengthOf, cX5_lengthOf, 2, some .int, [], 2, 44, 0, 0)
theorem mp_X5_lengthOf : mpOk M_X5_lengthOf 1 := ⟨by decide +kernel, by decide +kernel, by decide +kernel⟩
theorem mv_X5_lengthOf : mvOk M_X5_lengthOf := ⟨tk7 (i := 134) (by decide +kernel) rfl, tk7 (i := 135) (by decide +kernel) rfl, tk1 (i := 6) (by decide +kernel) rfl, tk7 (i := 136) (by decide +kernel) rfl⟩
def M_X4_speaksIn : MM := (yX4_speaksIn, cX4_speaksIn, 3, some .boolean, [], 7, 106, 2, 12)
theorem mp_X4_speaksIn : mpOk M_X4_speaksIn 2 := ⟨by decide +kernel, by decide +kernel, by decide +kernel⟩
theorem mv_X4_speaksIn : mvOk M_X4_speaksIn := ⟨tk5 (i := 113) (by decide +kernel) rfl, tk5 (i := 114) (by decide +kernel) rfl, tk1 (i := 1) (by decide +kernel) rfl, tk5 (i := 115) (by decide +kernel) rfl⟩
def M_L_speaksIn : MM := (yL_speaksIn, cL_speaksIn, 5, some .int, [(0, 17, 20, 13)], 8, 128, 2, 12)
theorem mp_L_speaksIn : mpOk M_L_speaksIn 4 := ⟨by decide +kernel, by decide +kernel, by decide +kernel⟩
theorem ms_L_speaksIn : msOk M_L_speaksIn := ⟨tk5 (i := 110) (by decide +kernel) rfl, tk1 (i := 0) (by decide +kernel) rfl, tk5 (i := 111) (by decide +kernel) rfl⟩
def M_X5_speaksIn : MM := (yX5_speaksIn, cX5_speaksIn, 3, some .boolean, [], 2, 45, 0, 0)
theorem mp_X5_speaksIn : mpOk M_X5_speaksIn 2 := ⟨by decide +kernel, by decide +kernel, by decide +kernel⟩
theorem mv_X5_speaksIn : mvOk M_X5_speaksIn := ⟨tk7 (i := 142) (by decide +kernel) rfl, tk7 (i := 143) (by decide +kernel) rfl, tk1 (i := 6) (by decide +kernel) rfl, tk7 (i := 144) (by decide +kernel) rfl⟩
def M_X5_isComplete : MM := (yX5_isComplete, cX5_isComplete, 3, some .boolean, [], 3, 69, 0, 0)
theorem mp_X5_isComplete : mpOk M_X5_isComplete 2 := ⟨by decide +kernel, by decide +kernel, by decide +kernel⟩
theorem mv_X5_isComplete : mvOk M_X5_isComplete := ⟨tk7 (i := 146) (by decide +kernel) rfl, tk7 (i := 147) (by decide +kernel) rfl, tk1 (i := 6) (by decide +kernel) rfl, tk7 (i := 148) (by decide +kernel) rfl⟩
def M_X5_isMixed : MM := (yX5_isMixed, cX5_isMixed, 3, some .boolean, [], 3, 63, 0, 0)
theorem mp_X5_isMixed : mpOk M_X5_isMixed 2 := ⟨by decide +kernel, by decide +kernel, by decide +kernel⟩
theorem mv_X5_isMixed : mvOk M_X5_isMixed := ⟨tk7 (i := 150) (by decide +kernel) rfl, tk7 (i := 151) (by decide +kernel) rfl, tk1 (i := 6) (by decide +kernel) rfl, tk7 (i := 152) (by decide +kernel) rfl⟩
def M_X5_hasSigned : MM := (yX5_hasSigned, cX5_hasSigned, 4, some .boolean, [], 3, 63, 0, 0)
theorem mp_X5_hasSigned : mpOk M_X5_hasSigned 3 := ⟨by decide +kernel, by decide +kernel, by decide +kernel⟩
theorem mv_X5_hasSigned : mvOk M_X5_hasSigned := ⟨tk7 (i := 154) (by decide +kernel) rfl, tk7 (i := 155) (by decide +kernel) rfl, tk1 (i := 6) (by decide +kernel) rfl, tk7 (i := 156) (by decide +kernel) rfl⟩
def M_X3_signaturesAt : MM := (yX3_signaturesAt, cX3_signaturesAt, 3, some .int, [], 1, 21, 0, 0)
theorem mp_X3_signaturesAt : mpOk M_X3_signaturesAt 2 := ⟨by decide +kernel, by decide +kernel, by decide +kernel⟩
theorem mv_X3_signaturesAt : mvOk M_X3_signaturesAt := ⟨tk2 (i := 216) (by decide +kernel) rfl, tk2 (i := 217) (by decide +kernel) rfl, tk1 (i := 2) (by decide +kernel) rfl, tk2 (i := 218) (by decide +kernel) rfl⟩
def M_X4_signaturesOn : MM := (yX4_signaturesOn, cX4_signaturesOn, 3, some .int, [], 7, 106, 2, 12)
theorem mp_X4_signaturesOn : mpOk M_X4_signaturesOn 2 := ⟨by decide +kernel, by decide +kernel, by decide +kernel⟩
theorem mv_X4_signaturesOn : mvOk M_X4_signaturesOn := ⟨tk5 (i := 141) (by decide +kernel) rfl, tk5 (i := 142) (by decide +kernel) rfl, tk1 (i := 1) (by decide +kernel) rfl, tk5 (i := 143) (by decide +kernel) rfl⟩
def M_L_signaturesOn : MM := (yL_signaturesOn, cL_signaturesOn, 5, some .int, [(0, 10, 13, 13)], 8, 128, 2, 12)
theorem mp_L_signaturesOn : mpOk M_L_signaturesOn 4 := ⟨by decide +kernel, by decide +kernel, by decide +kernel⟩
theorem ms_L_signaturesOn : msOk M_L_signaturesOn := ⟨tk5 (i := 138) (by decide +kernel) rfl, tk1 (i := 0) (by decide +kernel) rfl, tk5 (i := 139) (by decide +kernel) rfl⟩
def M_X5_signatures : MM := (yX5_signatures, cX5_signatures, 5, some .int, [], 1, 23, 0, 0)
theorem mp_X5_signatures : mpOk M_X5_signatures 2 := ⟨by decide +kernel, by decide +kernel, by decide +kernel⟩
theorem mv_X5_signatures : mvOk M_X5_signatures := ⟨tk7 (i := 163) (by decide +kernel) rfl, pk (q := (yX5_signatures, 15)) (List.mem_of_getElem? (i := 64) (by decide +kernel)), tk1 (i := 6) (by decide +kernel) rfl, tk7 (i := 164) (by decide +kernel) rfl⟩
def M_X5_signaturesOn : MM := (yX5_signaturesOn, cX5_signaturesOn, 3, some .int, [], 3, 63, 0, 0)
theorem mp_X5_signaturesOn : mpOk M_X5_signaturesOn 2 := ⟨by decide +kernel, by decide +kernel, by decide +kernel⟩
theorem mv_X5_signaturesOn : mvOk M_X5_signaturesOn := ⟨tk7 (i := 158) (by decide +kernel) rfl, tk7 (i := 159) (by decide +kernel) rfl, tk1 (i := 6) (by decide +kernel) rfl, tk7 (i := 160) (by decide +kernel) rfl⟩
def M_X4_missingOn : MM := (yX4_missingOn, cX4_missingOn, 3, some .int, [], 7, 106, 2, 12)
theorem mp_X4_missingOn : mpOk M_X4_missingOn 2 := ⟨by decide +kernel, by decide +kernel, by decide +kernel⟩
theorem mv_X4_missingOn : mvOk M_X4_missingOn := ⟨tk5 (i := 148) (by decide +kernel) rfl, tk5 (i := 149) (by decide +kernel) rfl, tk1 (i := 1) (by decide +kernel) rfl, tk5 (i := 150) (by decide +kernel) rfl⟩
def M_L_missingOn : MM := (yL_missingOn, cL_missingOn, 5, some .int, [(0, 10, 13, 13)], 8, 128, 2, 12)
theorem mp_L_missingOn : mpOk M_L_missingOn 4 := ⟨by decide +kernel, by decide +kernel, by decide +kernel⟩
theorem ms_L_missingOn : msOk M_L_missingOn := ⟨tk5 (i := 145) (by decide +kernel) rfl, tk1 (i := 0) (by decide +kernel) rfl, tk5 (i := 146) (by decide +kernel) rfl⟩
def M_X5_missingOn : MM := (yX5_missingOn, cX5_missingOn, 3, some .int, [], 3, 69, 0, 0)
theorem mp_X5_missingOn : mpOk M_X5_missingOn 2 := ⟨by decide +kernel, by decide +kernel, by decide +kernel⟩
theorem mv_X5_missingOn : mvOk M_X5_missingOn := ⟨tk7 (i := 166) (by decide +kernel) rfl, tk7 (i := 167) (by decide +kernel) rfl, tk1 (i := 6) (by decide +kernel) rfl, tk7 (i := 168) (by decide +kernel) rfl⟩
def M_X5_annexOf : MM := (yX5_annexOf, cX5_annexOf, 2, some .int, [], 2, 44, 0, 0)
theorem mp_X5_annexOf : mpOk M_X5_annexOf 1 := ⟨by decide +kernel, by decide +kernel, by decide +kernel⟩
theorem mv_X5_annexOf : mvOk M_X5_annexOf := ⟨tk7 (i := 170) (by decide +kernel) rfl, tk7 (i := 171) (by decide +kernel) rfl, tk1 (i := 6) (by decide +kernel) rfl, tk7 (i := 172) (by decide +kernel) rfl⟩
def M_X3_takenTotal : MM := (yX3_takenTotal, cX3_takenTotal, 4, some .int, [], 2, 43, 0, 0)
theorem mp_X3_takenTotal : mpOk M_X3_takenTotal 1 := ⟨by decide +kernel, by decide +kernel, by decide +kernel⟩
theorem mv_X3_takenTotal : mvOk M_X3_takenTotal := ⟨tk2 (i := 25) (by decide +kernel) rfl, tk2 (i := 26) (by decide +kernel) rfl, tk1 (i := 2) (by decide +kernel) rfl, tk2 (i := 27) (by decide +kernel) rfl⟩
def M_X4_recordedIn : MM := (yX4_recordedIn, cX4_recordedIn, 2, some .int, [], 7, 106, 1, 6)
theorem mp_X4_recordedIn : mpOk M_X4_recordedIn 1 := ⟨by decide +kernel, by decide +kernel, by decide +kernel⟩
theorem mv_X4_recordedIn : mvOk M_X4_recordedIn := ⟨tk5 (i := 162) (by decide +kernel) rfl, tk5 (i := 163) (by decide +kernel) rfl, tk1 (i := 1) (by decide +kernel) rfl, tk5 (i := 164) (by decide +kernel) rfl⟩
def M_L_recordedIn : MM := (yL_recordedIn, cL_recordedIn, 4, some .int, [(0, 9, 12, 13)], 8, 127, 1, 6)
theorem mp_L_recordedIn : mpOk M_L_recordedIn 3 := ⟨by decide +kernel, by decide +kernel, by decide +kernel⟩
theorem ms_L_recordedIn : msOk M_L_recordedIn := ⟨tk5 (i := 159) (by decide +kernel) rfl, tk1 (i := 0) (by decide +kernel) rfl, tk5 (i := 160) (by decide +kernel) rfl⟩
def M_X5_taken : MM := (yX5_taken, cX5_taken, 4, some .int, [], 2, 43, 0, 0)
theorem mp_X5_taken : mpOk M_X5_taken 1 := ⟨by decide +kernel, by decide +kernel, by decide +kernel⟩
theorem mv_X5_taken : mvOk M_X5_taken := ⟨tk7 (i := 179) (by decide +kernel) rfl, pk (q := (yX5_taken, 15)) (List.mem_of_getElem? (i := 65) (by decide +kernel)), tk1 (i := 6) (by decide +kernel) rfl, tk7 (i := 180) (by decide +kernel) rfl⟩
def M_X5_recordedIn : MM := (yX5_recordedIn, cX5_recordedIn, 2, some .int, [], 3, 66, 0, 0)
theorem mp_X5_recordedIn : mpOk M_X5_recordedIn 1 := ⟨by decide +kernel, by decide +kernel, by decide +kernel⟩
theorem mv_X5_recordedIn : mvOk M_X5_recordedIn := ⟨tk7 (i := 174) (by decide +kernel) rfl, tk7 (i := 175) (by decide +kernel) rfl, tk1 (i := 6) (by decide +kernel) rfl, tk7 (i := 176) (by decide +kernel) rfl⟩
end XM212
