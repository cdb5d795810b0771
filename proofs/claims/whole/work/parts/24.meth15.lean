/-! the methods: their rows, and what the tables say of them -/
section XM215
def M_X3_lipsBy : MM := (yX3_lipsBy, cX3_lipsBy, 4, some .int, [], 2, 42, 0, 0)
theorem mp_X3_lipsBy : mpOk M_X3_lipsBy 1 := ⟨by decide +kernel, by decide +kernel, by decide +kernel⟩
theorem mv_X3_lipsBy : mvOk M_X3_lipsBy := ⟨tk2 (i := 46) (by decide +kernel) rfl, pk (q := (yX3_lipsBy, 16)) (List.mem_of_getElem? (i := 7) (by decide +kernel)), tk1 (i := 2) (by decide +kernel) rfl, tk2 (i := 47) (by decide +kernel) rfl⟩
def M_X3_mostLipsState : MM := (yX3_mostLipsState, cX3_mostLipsState, 3, some .int, [], 3, 65, 0, 0)
theorem mp_X3_mostLipsState : mpOk M_X3_mostLipsState 0 := ⟨by decide +kernel, by decide +kernel, by decide +kernel⟩
theorem mv_X3_mostLipsState : mvOk M_X3_mostLipsState := ⟨tk2 (i := 41) (by decide +kernel) rfl, tk2 (i := 42) (by decide +kernel) rfl, tk1 (i := 2) (by decide +kernel) rfl, tk2 (i := 43) (by decide +kernel) rfl⟩
def M_X4_loudestState : MM := (yX4_loudestState, cX4_loudestState, 1, some .int, [], 4, 87, 0, 0)
theorem mp_X4_loudestState : mpOk M_X4_loudestState 0 := ⟨by decide +kernel, by decide +kernel, by decide +kernel⟩
theorem mv_X4_loudestState : mvOk M_X4_loudestState := ⟨tk2 (i := 37) (by decide +kernel) rfl, tk2 (i := 38) (by decide +kernel) rfl, tk1 (i := 1) (by decide +kernel) rfl, tk2 (i := 39) (by decide +kernel) rfl⟩
def M_X5_spoken : MM := (yX5_spoken, cX5_spoken, 4, some .int, [], 1, 21, 0, 0)
theorem mp_X5_spoken : mpOk M_X5_spoken 1 := ⟨by decide +kernel, by decide +kernel, by decide +kernel⟩
theorem mv_X5_spoken : mvOk M_X5_spoken := ⟨tk8 (i := 27) (by decide +kernel) rfl, pk (q := (yX5_spoken, 15)) (List.mem_of_getElem? (i := 74) (by decide +kernel)), tk1 (i := 6) (by decide +kernel) rfl, tk8 (i := 28) (by decide +kernel) rfl⟩
def M_X5_loudest : MM := (yX5_loudest, cX5_loudest, 3, some .int, [], 2, 44, 0, 0)
theorem mp_X5_loudest : mpOk M_X5_loudest 0 := ⟨by decide +kernel, by decide +kernel, by decide +kernel⟩
theorem mv_X5_loudest : mvOk M_X5_loudest := ⟨tk8 (i := 23) (by decide +kernel) rfl, pk (q := (yX5_loudest, 15)) (List.mem_of_getElem? (i := 73) (by decide +kernel)), tk1 (i := 6) (by decide +kernel) rfl, tk8 (i := 24) (by decide +kernel) rfl⟩
def M_X5_loudestState : MM := (yX5_loudestState, cX5_loudestState, 1, some .int, [], 3, 66, 0, 0)
theorem mp_X5_loudestState : mpOk M_X5_loudestState 0 := ⟨by decide +kernel, by decide +kernel, by decide +kernel⟩
theorem mv_X5_loudestState : mvOk M_X5_loudestState := ⟨tk8 (i := 18) (by decide +kernel) rfl, tk8 (i := 19) (by decide +kernel) rfl, tk1 (i := 6) (by decide +kernel) rfl, tk8 (i := 20) (by decide +kernel) rfl⟩
def M_X3_meanHundredths : MM := (yX3_meanHundredths, cX3_meanHundredths, 5, some .double, [], 3, 66, 0, 0)
theorem mp_X3_meanHundredths : mpOk M_X3_meanHundredths 1 := ⟨by decide +kernel, by decide +kernel, by decide +kernel⟩
theorem mv_X3_meanHundredths : mvOk M_X3_meanHundredths := ⟨tk3 (i := 35) (by decide +kernel) rfl, tk3 (i := 36) (by decide +kernel) rfl, tk1 (i := 2) (by decide +kernel) rfl, tk3 (i := 37) (by decide +kernel) rfl⟩
def M_X4_meanFit : MM := (yX4_meanFit, cX4_meanFit, 2, some .double, [], 7, 106, 1, 6)
theorem mp_X4_meanFit : mpOk M_X4_meanFit 1 := ⟨by decide +kernel, by decide +kernel, by decide +kernel⟩
theorem mv_X4_meanFit : mvOk M_X4_meanFit := ⟨tk5 (i := 221) (by decide +kernel) rfl, tk5 (i := 222) (by decide +kernel) rfl, tk1 (i := 1) (by decide +kernel) rfl, tk5 (i := 223) (by decide +kernel) rfl⟩
def M_L_meanFit : MM := (yL_meanFit, cL_meanFit, 4, some .int, [(0, 8, 11, 13)], 8, 127, 1, 6)
theorem mp_L_meanFit : mpOk M_L_meanFit 3 := ⟨by decide +kernel, by decide +kernel, by decide +kernel⟩
theorem ms_L_meanFit : msOk M_L_meanFit := ⟨tk5 (i := 218) (by decide +kernel) rfl, tk1 (i := 0) (by decide +kernel) rfl, tk5 (i := 219) (by decide +kernel) rfl⟩
def M_X5_mean : MM := (yX5_mean, cX5_mean, 6, some .double, [], 4, 87, 0, 0)
theorem mp_X5_mean : mpOk M_X5_mean 1 := ⟨by decide +kernel, by decide +kernel, by decide +kernel⟩
theorem mv_X5_mean : mvOk M_X5_mean := ⟨tk8 (i := 35) (by decide +kernel) rfl, pk (q := (yX5_mean, 15)) (List.mem_of_getElem? (i := 75) (by decide +kernel)), tk1 (i := 6) (by decide +kernel) rfl, tk8 (i := 36) (by decide +kernel) rfl⟩
def M_X5_meanFit : MM := (yX5_meanFit, cX5_meanFit, 2, some .double, [], 5, 112, 0, 0)
theorem mp_X5_meanFit : mpOk M_X5_meanFit 1 := ⟨by decide +kernel, by decide +kernel, by decide +kernel⟩
theorem mv_X5_meanFit : mvOk M_X5_meanFit := ⟨tk8 (i := 30) (by decide +kernel) rfl, tk8 (i := 31) (by decide +kernel) rfl, tk1 (i := 6) (by decide +kernel) rfl, tk8 (i := 32) (by decide +kernel) rfl⟩
def M_X4_chain : MM := (yX4_chain, cX4_chain, 4, some .long, [], 0, 0, 0, 0)
theorem mp_X4_chain : mpOk M_X4_chain 2 := ⟨by decide +kernel, by decide +kernel, by decide +kernel⟩
theorem ms_X4_chain : msOk M_X4_chain := ⟨tk2 (i := 62) (by decide +kernel) rfl, tk1 (i := 1) (by decide +kernel) rfl, tk2 (i := 63) (by decide +kernel) rfl⟩
def M_X4_chainFlag : MM := (yX4_chainFlag, cX4_chainFlag, 3, some .long, [], 1, 23, 0, 0)
theorem mp_X4_chainFlag : mpOk M_X4_chainFlag 2 := ⟨by decide +kernel, by decide +kernel, by decide +kernel⟩
theorem ms_X4_chainFlag : msOk M_X4_chainFlag := ⟨tk2 (i := 101) (by decide +kernel) rfl, tk1 (i := 1) (by decide +kernel) rfl, tk2 (i := 102) (by decide +kernel) rfl⟩
def M_X4_chainTranslation : MM := (yX4_chainTranslation, cX4_chainTranslation, 7, some .long, [], 4, 88, 0, 0)
theorem mp_X4_chainTranslation : mpOk M_X4_chainTranslation 3 := ⟨by decide +kernel, by decide +kernel, by decide +kernel⟩
theorem mv_X4_chainTranslation : mvOk M_X4_chainTranslation := ⟨tk2 (i := 92) (by decide +kernel) rfl, pk (q := (yX4_chainTranslation, 6)) (List.mem_of_getElem? (i := 9) (by decide +kernel)), tk1 (i := 1) (by decide +kernel) rfl, tk2 (i := 93) (by decide +kernel) rfl⟩
def M_X4_chainClause : MM := (yX4_chainClause, cX4_chainClause, 7, some .long, [], 5, 114, 0, 0)
theorem mp_X4_chainClause : mpOk M_X4_chainClause 2 := ⟨by decide +kernel, by decide +kernel, by decide +kernel⟩
theorem mv_X4_chainClause : mvOk M_X4_chainClause := ⟨tk2 (i := 67) (by decide +kernel) rfl, pk (q := (yX4_chainClause, 6)) (List.mem_of_getElem? (i := 8) (by decide +kernel)), tk1 (i := 1) (by decide +kernel) rfl, tk2 (i := 68) (by decide +kernel) rfl⟩
def M_X4_chainVoice : MM := (yX4_chainVoice, cX4_chainVoice, 7, some .long, [], 4, 90, 0, 0)
theorem mp_X4_chainVoice : mpOk M_X4_chainVoice 3 := ⟨by decide +kernel, by decide +kernel, by decide +kernel⟩
theorem mv_X4_chainVoice : mvOk M_X4_chainVoice := ⟨tk2 (i := 150) (by decide +kernel) rfl, pk (q := (yX4_chainVoice, 6)) (List.mem_of_getElem? (i := 10) (by decide +kernel)), tk1 (i := 1) (by decide +kernel) rfl, tk2 (i := 151) (by decide +kernel) rfl⟩
def M_X4_chainReel : MM := (yX4_chainReel, cX4_chainReel, 7, some .long, [], 4, 89, 0, 0)
theorem mp_X4_chainReel : mpOk M_X4_chainReel 2 := ⟨by decide +kernel, by decide +kernel, by decide +kernel⟩
theorem mv_X4_chainReel : mvOk M_X4_chainReel := ⟨tk2 (i := 195) (by decide +kernel) rfl, pk (q := (yX4_chainReel, 6)) (List.mem_of_getElem? (i := 12) (by decide +kernel)), tk1 (i := 1) (by decide +kernel) rfl, tk2 (i := 196) (by decide +kernel) rfl⟩
def M_X4_bitsOf : MM := (yX4_bitsOf, cX4_bitsOf, 8, some .long, [], 0, 0, 0, 0)
theorem mp_X4_bitsOf : mpOk M_X4_bitsOf 1 := ⟨by decide +kernel, by decide +kernel, by decide +kernel⟩
theorem ms_X4_bitsOf : msOk M_X4_bitsOf := ⟨tk3 (i := 40) (by decide +kernel) rfl, tk1 (i := 1) (by decide +kernel) rfl, tk3 (i := 41) (by decide +kernel) rfl⟩
def M_X4_chainTongue : MM := (yX4_chainTongue, cX4_chainTongue, 6, some .long, [], 5, 113, 0, 0)
theorem mp_X4_chainTongue : mpOk M_X4_chainTongue 2 := ⟨by decide +kernel, by decide +kernel, by decide +kernel⟩
theorem mv_X4_chainTongue : mvOk M_X4_chainTongue := ⟨tk2 (i := 239) (by decide +kernel) rfl, pk (q := (yX4_chainTongue, 6)) (List.mem_of_getElem? (i := 13) (by decide +kernel)), tk1 (i := 1) (by decide +kernel) rfl, tk3 (i := 0) (by decide +kernel) rfl⟩
def M_X4_chainAccounts : MM := (yX4_chainAccounts, cX4_chainAccounts, 6, some .long, [], 4, 88, 0, 0)
theorem mp_X4_chainAccounts : mpOk M_X4_chainAccounts 1 := ⟨by decide +kernel, by decide +kernel, by decide +kernel⟩
theorem mv_X4_chainAccounts : mvOk M_X4_chainAccounts := ⟨tk3 (i := 47) (by decide +kernel) rfl, pk (q := (yX4_chainAccounts, 6)) (List.mem_of_getElem? (i := 15) (by decide +kernel)), tk1 (i := 1) (by decide +kernel) rfl, tk3 (i := 48) (by decide +kernel) rfl⟩
def M_X4_chainBuffer : MM := (yX4_chainBuffer, cX4_chainBuffer, 6, some .long, [], 1, 23, 0, 0)
theorem mp_X4_chainBuffer : mpOk M_X4_chainBuffer 1 := ⟨by decide +kernel, by decide +kernel, by decide +kernel⟩
theorem mv_X4_chainBuffer : mvOk M_X4_chainBuffer := ⟨tk3 (i := 55) (by decide +kernel) rfl, pk (q := (yX4_chainBuffer, 6)) (List.mem_of_getElem? (i := 17) (by decide +kernel)), tk1 (i := 1) (by decide +kernel) rfl, tk3 (i := 56) (by decide +kernel) rfl⟩
def M_X4_digest : MM := (yX4_digest, cX4_digest, 5, some .long, [], 6, 140, 0, 0)
theorem mp_X4_digest : mpOk M_X4_digest 0 := ⟨by decide +kernel, by decide +kernel, by decide +kernel⟩
theorem mv_X4_digest : mvOk M_X4_digest := ⟨tk2 (i := 57) (by decide +kernel) rfl, tk2 (i := 58) (by decide +kernel) rfl, tk1 (i := 1) (by decide +kernel) rfl, tk2 (i := 59) (by decide +kernel) rfl⟩
end XM215
