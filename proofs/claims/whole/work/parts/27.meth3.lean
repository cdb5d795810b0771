/-! the methods: their rows, and what the tables say of them -/
section XM23
def M_X5_needed : MM := (yX5_needed, cX5_needed, 4, some .int, [], 4, 87, 0, 0)
theorem mp_X5_needed : mpOk M_X5_needed 2 := ⟨by decide +kernel, by decide +kernel, by decide +kernel⟩
theorem mv_X5_needed : mvOk M_X5_needed := ⟨tk7 (i := 231) (by decide +kernel) rfl, pk (q := (yX5_needed, 15)) (List.mem_of_getElem? (i := 69) (by decide +kernel)), tk1 (i := 6) (by decide +kernel) rfl, tk7 (i := 232) (by decide +kernel) rfl⟩
def M_X5_leastAnnex : MM := (yX5_leastAnnex, cX5_leastAnnex, 4, some .int, [], 5, 110, 0, 0)
theorem mp_X5_leastAnnex : mpOk M_X5_leastAnnex 2 := ⟨by decide +kernel, by decide +kernel, by decide +kernel⟩
theorem mv_X5_leastAnnex : mvOk M_X5_leastAnnex := ⟨tk7 (i := 226) (by decide +kernel) rfl, tk7 (i := 227) (by decide +kernel) rfl, tk1 (i := 6) (by decide +kernel) rfl, tk7 (i := 228) (by decide +kernel) rfl⟩
def M_X3_longestSighAt : MM := (yX3_longestSighAt, cX3_longestSighAt, 4, some .int, [], 2, 43, 0, 0)
theorem mp_X3_longestSighAt : mpOk M_X3_longestSighAt 1 := ⟨by decide +kernel, by decide +kernel, by decide +kernel⟩
theorem mv_X3_longestSighAt : mvOk M_X3_longestSighAt := ⟨tk2 (i := 80) (by decide +kernel) rfl, tk2 (i := 81) (by decide +kernel) rfl, tk1 (i := 2) (by decide +kernel) rfl, tk2 (i := 82) (by decide +kernel) rfl⟩
def M_X4_longestSigh : MM := (yX4_longestSigh, cX4_longestSigh, 3, some .int, [], 7, 107, 2, 12)
theorem mp_X4_longestSigh : mpOk M_X4_longestSigh 1 := ⟨by decide +kernel, by decide +kernel, by decide +kernel⟩
theorem mv_X4_longestSigh : mvOk M_X4_longestSigh := ⟨tk5 (i := 205) (by decide +kernel) rfl, tk5 (i := 206) (by decide +kernel) rfl, tk1 (i := 1) (by decide +kernel) rfl, tk5 (i := 207) (by decide +kernel) rfl⟩
def M_L_longestSigh : MM := (yL_longestSigh, cL_longestSigh, 4, some .int, [(0, 9, 12, 13), (0, 9, 15, 17)], 8, 129, 2, 12)
theorem mp_L_longestSigh : mpOk M_L_longestSigh 3 := ⟨by decide +kernel, by decide +kernel, by decide +kernel⟩
theorem ms_L_longestSigh : msOk M_L_longestSigh := ⟨tk5 (i := 202) (by decide +kernel) rfl, tk1 (i := 0) (by decide +kernel) rfl, tk5 (i := 203) (by decide +kernel) rfl⟩
def M_X5_longest : MM := (yX5_longest, cX5_longest, 5, some .int, [], 2, 43, 0, 0)
theorem mp_X5_longest : mpOk M_X5_longest 1 := ⟨by decide +kernel, by decide +kernel, by decide +kernel⟩
theorem mv_X5_longest : mvOk M_X5_longest := ⟨tk7 (i := 239) (by decide +kernel) rfl, pk (q := (yX5_longest, 15)) (List.mem_of_getElem? (i := 70) (by decide +kernel)), tk1 (i := 6) (by decide +kernel) rfl, tk8 (i := 0) (by decide +kernel) rfl⟩
def M_X5_longestSigh : MM := (yX5_longestSigh, cX5_longestSigh, 2, some .int, [], 3, 67, 0, 0)
theorem mp_X5_longestSigh : mpOk M_X5_longestSigh 1 := ⟨by decide +kernel, by decide +kernel, by decide +kernel⟩
theorem mv_X5_longestSigh : mvOk M_X5_longestSigh := ⟨tk7 (i := 234) (by decide +kernel) rfl, tk7 (i := 235) (by decide +kernel) rfl, tk1 (i := 6) (by decide +kernel) rfl, tk7 (i := 236) (by decide +kernel) rfl⟩
def M_X3_longestToTake : MM := (yX3_longestToTake, cX3_longestToTake, 4, some .int, [], 4, 88, 0, 0)
theorem mp_X3_longestToTake : mpOk M_X3_longestToTake 1 := ⟨by decide +kernel, by decide +kernel, by decide +kernel⟩
theorem mv_X3_longestToTake : mvOk M_X3_longestToTake := ⟨tk3 (i := 30) (by decide +kernel) rfl, tk3 (i := 31) (by decide +kernel) rfl, tk1 (i := 2) (by decide +kernel) rfl, tk3 (i := 32) (by decide +kernel) rfl⟩
def M_X4_nextClause : MM := (yX4_nextClause, cX4_nextClause, 3, some .int, [], 7, 111, 2, 12)
theorem mp_X4_nextClause : mpOk M_X4_nextClause 1 := ⟨by decide +kernel, by decide +kernel, by decide +kernel⟩
theorem mv_X4_nextClause : mvOk M_X4_nextClause := ⟨tk5 (i := 213) (by decide +kernel) rfl, tk5 (i := 214) (by decide +kernel) rfl, tk1 (i := 1) (by decide +kernel) rfl, tk5 (i := 215) (by decide +kernel) rfl⟩
def M_L_nextClause : MM := (yL_nextClause, cL_nextClause, 4, some .int, [(0, 9, 12, 13), (0, 9, 15, 17)], 8, 133, 2, 12)
theorem mp_L_nextClause : mpOk M_L_nextClause 3 := ⟨by decide +kernel, by decide +kernel, by decide +kernel⟩
theorem ms_L_nextClause : msOk M_L_nextClause := ⟨tk5 (i := 210) (by decide +kernel) rfl, tk1 (i := 0) (by decide +kernel) rfl, tk5 (i := 211) (by decide +kernel) rfl⟩
def M_X5_nextOne : MM := (yX5_nextOne, cX5_nextOne, 4, some .int, [], 5, 109, 0, 0)
theorem mp_X5_nextOne : mpOk M_X5_nextOne 1 := ⟨by decide +kernel, by decide +kernel, by decide +kernel⟩
theorem mv_X5_nextOne : mvOk M_X5_nextOne := ⟨tk8 (i := 7) (by decide +kernel) rfl, pk (q := (yX5_nextOne, 15)) (List.mem_of_getElem? (i := 71) (by decide +kernel)), tk1 (i := 6) (by decide +kernel) rfl, tk8 (i := 8) (by decide +kernel) rfl⟩
def M_X5_nextClause : MM := (yX5_nextClause, cX5_nextClause, 2, some .int, [], 6, 132, 0, 0)
theorem mp_X5_nextClause : mpOk M_X5_nextClause 1 := ⟨by decide +kernel, by decide +kernel, by decide +kernel⟩
theorem mv_X5_nextClause : mvOk M_X5_nextClause := ⟨tk8 (i := 2) (by decide +kernel) rfl, tk8 (i := 3) (by decide +kernel) rfl, tk1 (i := 6) (by decide +kernel) rfl, tk8 (i := 4) (by decide +kernel) rfl⟩
def M_X3_mostTakenTongue : MM := (yX3_mostTakenTongue, cX3_mostTakenTongue, 3, some .int, [], 3, 66, 0, 0)
theorem mp_X3_mostTakenTongue : mpOk M_X3_mostTakenTongue 0 := ⟨by decide +kernel, by decide +kernel, by decide +kernel⟩
theorem mv_X3_mostTakenTongue : mvOk M_X3_mostTakenTongue := ⟨tk2 (i := 21) (by decide +kernel) rfl, tk2 (i := 22) (by decide +kernel) rfl, tk1 (i := 2) (by decide +kernel) rfl, tk2 (i := 23) (by decide +kernel) rfl⟩
def M_X4_bestTongue : MM := (yX4_bestTongue, cX4_bestTongue, 1, some .int, [], 4, 88, 0, 0)
theorem mp_X4_bestTongue : mpOk M_X4_bestTongue 0 := ⟨by decide +kernel, by decide +kernel, by decide +kernel⟩
theorem mv_X4_bestTongue : mvOk M_X4_bestTongue := ⟨tk2 (i := 17) (by decide +kernel) rfl, tk2 (i := 18) (by decide +kernel) rfl, tk1 (i := 1) (by decide +kernel) rfl, tk2 (i := 19) (by decide +kernel) rfl⟩
def M_X5_best : MM := (yX5_best, cX5_best, 3, some .int, [], 3, 66, 0, 0)
theorem mp_X5_best : mpOk M_X5_best 0 := ⟨by decide +kernel, by decide +kernel, by decide +kernel⟩
theorem mv_X5_best : mvOk M_X5_best := ⟨tk8 (i := 15) (by decide +kernel) rfl, pk (q := (yX5_best, 15)) (List.mem_of_getElem? (i := 72) (by decide +kernel)), tk1 (i := 6) (by decide +kernel) rfl, tk8 (i := 16) (by decide +kernel) rfl⟩
def M_X5_bestTongue : MM := (yX5_bestTongue, cX5_bestTongue, 1, some .int, [], 4, 88, 0, 0)
theorem mp_X5_bestTongue : mpOk M_X5_bestTongue 0 := ⟨by decide +kernel, by decide +kernel, by decide +kernel⟩
theorem mv_X5_bestTongue : mvOk M_X5_bestTongue := ⟨tk8 (i := 10) (by decide +kernel) rfl, tk8 (i := 11) (by decide +kernel) rfl, tk1 (i := 6) (by decide +kernel) rfl, tk8 (i := 12) (by decide +kernel) rfl⟩
def M_X3_lipsBy : MM := (yX3_lipsBy, cX3_lipsBy, 4, some .int, [], 2, 42, 0, 0)
theorem mp_X3_lipsBy : mpOk M_X3_lipsBy 1 := ⟨by decide +kernel, by decide +kernel, by decide +kernel⟩
theorem mv_X3_lipsBy : mvOk M_X3_lipsBy := ⟨tk2 (i := 46) (by decide +kernel) rfl, pk (q := (yX3_lipsBy, 16)) (List.mem_of_getElem? (i := 7) (by decide +kernel)), tk1 (i := 2) (by decide +kernel) rfl, tk2 (i := 47) (by decide +kernel) rfl⟩
def M_X3_mostLipsState : MM := (yX3_mostLipsState, cX3_mostLipsState, 3, some .int, [], 3, 65, 0, 0)
theorem mp_X3_mostLipsState : mpOk M_X3_mostLipsState 0 := ⟨by decide +kernel, by decide +kernel, by decide +kernel⟩
theorem mv_X3_mostLipsState : mvOk M_X3_mostLipsState := ⟨tk2 (i := 41) (by decide +kernel) rfl, tk2 (i := 42) (by decide +kernel) rfl, tk1 (i := 2) (by decide +kernel) rfl, tk2 (i := 43) (by decide +kernel) rfl⟩
def M_X4_loudestState : MM := (yX4_loudestState, cX4_loudestState, 1, some .int, [], 4, 87, 0, 0)
theorem mp_X4_loudestState : mpOk M_X4_loudestState 0 := ⟨by decide +kernel, by decide +kernel, by decide +kernel⟩
theorem mv_X4_loudestState : mvOk M_X4_loudestState := ⟨tk2 (i := 37) (by decide +kernel) rfl, tk2 (i := 38) (by decide +kernel) rfl, tk1 (i := 1) (by decide +kernel) rfl, tk2 (i := 39) (by decide +kernel) rfl⟩
def M_X5_spoken : MM := (yX5_spoken, cX5_spoken, 4, some .int, [], 1, 21, 0, 0)
theorem mp_X5_spoken : mpOk M_X5_spoken 1 := ⟨by decide +kernel, by decide +kernel, by decide +kernel⟩
theorem mv_X5_spoken : mvOk M_X5_spoken := ⟨tk8 (i := 27) (by decide +kernel) rfl, pk (q := (yX5_spoken, 15)) (List.mem_of_getElem? (i := 74) (by decide +kernel)), tk1 (i := 6) (by decide +kernel) rfl, tk8 (i := 28) (by decide +kernel) rfl⟩
def M_X5_loudest : MM := (yX5_loudest, cX5_loudest, 3, some .int, [], 2, 44, 0, 0)
theorem mp_X5_loudest : mpOk M_X5_loudest 0 := ⟨by decide +kernel, by decide +kernel, by decide +kernel⟩
theorem mv_X5_loudest : mvOk M_X5_loudest := ⟨tk8 (i := 23) (by decide +kernel) rfl, pk (q := (yX5_loudest, 15)) (List.mem_of_getElem? (i := 73) (by decide +kernel)), tk1 (i := 6) (by decide +kernel) rfl, tk8 (i := 24) (by decide +kernel) rfl⟩
def M_X5_loudestState : MM := (yX5_loudestState, cX5_loudestState, 1, some .int, [], 3, 66, 0, 0)
theorem mp_X5_loudestState : mpOk M_X5_loudestState 0 := ⟨by decide +kernel, by decide +kernel, by decide +kernel⟩
theorem mv_X5_loudestState : mvOk M_X5_loudestState := ⟨tk8 (i := 18) (by decide +kernel) rfl, tk8 (i := 19) (by decide +kernel) rfl, tk1 (i := 6) (by decide +kernel) rfl, tk8 (i := 20) (by decide +kernel) rfl⟩
def M_X3_meanHundredths : MM := (yX3_meanHundredths, cX3_meanHundredths, 5, some .double, [], 3, 66, 0, 0)
theorem mp_X3_meanHundredths : mpOk M_X3_meanHundredths 1 := ⟨by decide +kernel, by decide +kernel, by decide +kernel⟩
theorem mv_X3_meanHundredths : mvOk M_X3_meanHundredths := ⟨tk3 (i := 35) (by decide +kernel) rfl, tk3 (i := 36) (by decide +kernel) rfl, tk1 (i := 2) (by decide +kernel) rfl, tk3 (i := 37) (by decide +kernel) rfl⟩
def M_X4_meanFit : MM := (yX4_meanFit, cX4_meanFit, 2, some .double, [], 7, 106, 1, 6)
theorem mp_X4_meanFit : mpOk M_X4_meanFit 1 := ⟨by decide +kernel, by decide +kernel, by decide +kernel⟩
theorem mv_X4_meanFit : mvOk M_X4_meanFit := ⟨tk5 (i := 221) (by decide +kernel) rfl, tk5 (i := 222) (by decide +kernel) rfl, tk1 (i := 1) (by decide +kernel) rfl, tk5 (i := 223) (by decide +kernel) rfl⟩
def M_L_meanFit : MM := (yL_meanFit, cL_meanFit, 4, some .int, [(0, 8, 11, 13)], 8, 127, 1, 6)
theorem mp_L_meanFit : mpOk M_L_meanFit 3 := ⟨by decide +kernel, by decide +kernel, by decide +kernel⟩
theorem ms_L_meanFit : msOk M_L_meanFit := ⟨tk5 (i := 218) (by decide +kernel) rfl, tk1 (i := 0) (by decide +kernel) rfl, tk5 (i := 219) (by decide +kernel) rfl⟩
def M_X5_mean : MM := (yX5_mean, cX5_mean, 6, some .double, [], 4, 87, 0, 0)
theorem mp_X5_mean : mpOk M_X5_mean 1 := ⟨by decide +kernel, by decide +kernel, by decide +kernel⟩
theorem mv_X5_mean : mvOk M_X5_mean := ⟨tk8 (i := 35) (by decide +kernel) rfl, pk (q := (yX5_mean, 15)) (List.mem_of_getElem? (i := 75) (by decide +kernel)), tk1 (i := 6) (by decide +kernel) rfl, tk8 (i := 36) (by decide +kernel) rfl⟩
def M_X5_meanFit : MM := (yX5_meanFit, cX5_meanFit, 2, some .double, [], 5, 112, 0, 0)
theorem mp_X5_meanFit : mpOk M_X5_meanFit 1 := ⟨by decide +kernel, by decide +kernel, by decide +kernel⟩
theorem mv_X5_meanFit : mvOk M_X5_meanFit := ⟨tk8 (i := 30) (by decide +kernel) rfl, tk8 (i := 31) (by decide +kernel) rfl, tk1 (i := 6) (by decide +kernel) rfl, tk8 (i := 32) (by decide +kernel) rfl⟩
def M_X4_chain : MM := (yX4_chain, cX4_chain, 4, some .long, [], 0, 0, 0, 0)
theorem mp_X4_chain : mpOk M_X4_chain 2 := ⟨by decide +kernel, by decide +kernel, by decide +kernel⟩
theorem ms_X4_chain : msOk M_X4_chain := ⟨tk2 (i := 62) (by decide +kernel) rfl, tk1 (i := 1) (by decide +kernel) rfl, tk2 (i := 63) (by decide +kernel) rfl⟩
def M_X4_chainFlag : MM := (yX4_chainFlag, cX4_chainFlag, 3, some .long, [], 1, 23, 0, 0)
theorem mp_X4_chainFlag : mpOk M_X4_chainFlag 2 := ⟨by decide +kernel, by decide +kernel, by decide +kernel⟩
theorem ms_X4_chainFlag : msOk M_X4_chainFlag := ⟨tk2 (i := 101) (by decide +kernel) rfl, tk1 (i := 1) (by decide +kernel) rfl, tk2 (i := 102) (by decide +kernel) rfl⟩
def M_X4_chainTranslation : MM := (yX4_chainTranslation, cX4_chainTranslation, 7, some .long, [], 4, 88, 0, 0)
theorem mp_X4_chainTranslation : mpOk M_X4_chainTranslation 3 := ⟨by decide +kernel, by decide +kernel, by decide +kernel⟩
theorem mv_X4_chainTranslation : mvOk M_X4_chainTranslation := ⟨tk2 (i := 92) (by decide +kernel) rfl, pk (q := (yX4_chainTranslation, 6)) (List.mem_of_getElem? (i := 9) (by decide +kernel)), tk1 (i := 1) (by decide +kernel) rfl, tk2 (i := 93) (by decide +kernel) rfl⟩
def M_X4_chainClause : MM := (yX4_chainClause, cX4_chainClause, 7, some .long, [], 5, 114, 0, 0)
theorem mp_X4_chainClause : mpOk M_X4_chainClause 2 := ⟨by decide +kernel, by decide +kernel, by decide +kernel⟩
theorem mv_X4_chainClause : mvOk M_X4_chainClause := ⟨tk2 (i := 67) (by decide +kernel) rfl, pk (q := (yX4_chainClause, 6)) (List.mem_of_getElem? (i := 8) (by decide +kernel)), tk1 (i := 1) (by decide +kernel) rfl, tk2 (i := 68) (by decide +kernel) rfl⟩
def M_X4_chainVoice : MM := (yX4_chainVoice, cX4_chainVoice, 7, some .long, [], 4, 90, 0, 0)
theorem mp_X4_chainVoice : mpOk M_X4_chainVoice 3 := ⟨by decide +kernel, by decide +kernel, by decide +kernel⟩
theorem mv_X4_chainVoice : mvOk M_X4_chainVoice := ⟨tk2 (i := 150) (by decide +kernel) rfl, pk (q := (yX4_chainVoice, 6)) (List.mem_of_getElem? (i := 10) (by decide +kernel)), tk1 (i := 1) (by decide +kernel) rfl, tk2 (i := 151) (by decide +kernel) rfl⟩
def M_X4_chainReel : MM := (yX4_chainReel, cX4_chainReel, 7, some .long, [], 4, 89, 0, 0)
theorem mp_X4_chainReel : mpOk M_X4_chainReel 2 := ⟨by decide +kernel, by decide +kernel, by decide +kernel⟩
theorem mv_X4_chainReel : mvOk M_X4_chainReel := ⟨tk2 (i := 195) (by decide +kernel) rfl, pk (q := (yX4_chainReel, 6)) (List.mem_of_getElem? (i := 12) (by decide +kernel)), tk1 (i := 1) (by decide +kernel) rfl, tk2 (i := 196) (by decide +kernel) rfl⟩
def M_X4_bitsOf : MM := (yX4_bitsOf, cX4_bitsOf, 8, some .long, [], 0, 0, 0, 0)
theorem mp_X4_bitsOf : mpOk M_X4_bitsOf 1 := ⟨by decide +kernel, by decide +kernel, by decide +kernel⟩
theorem ms_X4_bitsOf : msOk M_X4_bitsOf := ⟨tk3 (i := 40) (by decide +kernel) rfl, tk1 (i := 1) (by decide +kernel) rfl, tk3 (i := 41) (by decide +kernel) rfl⟩
def M_X4_chainTongue : MM := (yX4_chainTongue, cX4_chainTongue, 6, some .long, [], 5, 113, 0, 0)
theorem mp_X4_chainTongue : mpOk M_X4_chainTongue 2 := ⟨by decide +kernel, by decide +kernel, by decide +kernel⟩
theorem mv_X4_chainTongue : mvOk M_X4_chainTongue := ⟨tk2 (i := 239) (by decide +kernel) rfl, pk (q := (yX4_chainTongue, 6)) (List.mem_of_getElem? (i := 13) (by decide +kernel)), tk1 (i := 1) (by decide +kernel) rfl, tk3 (i := 0) (by decide +kernel) rfl⟩
def M_X4_chainAccounts : MM := (yX4_chainAccounts, cX4_chainAccounts, 6, some .long, [], 4, 88, 0, 0)
theorem mp_X4_chainAccounts : mpOk M_X4_chainAccounts 1 := ⟨by decide +kernel, by decide +kernel, by decide +kernel⟩
theorem mv_X4_chainAccounts : mvOk M_X4_chainAccounts := ⟨tk3 (i := 47) (by decide +kernel) rfl, pk (q := (yX4_chainAccounts, 6)) (List.mem_of_getElem? (i := 15) (by decide +kernel)), tk1 (i := 1) (by decide +kernel) rfl, tk3 (i := 48) (by decide +kernel) rfl⟩
def M_X4_chainBuffer : MM := (yX4_chainBuffer, cX4_chainBuffer, 6, some .long, [], 1, 23, 0, 0)
theorem mp_X4_chainBuffer : mpOk M_X4_chainBuffer 1 := ⟨by decide +kernel, by decide +kernel, by decide +kernel⟩
theorem mv_X4_chainBuffer : mvOk M_X4_chainBuffer := ⟨tk3 (i := 55) (by decide +kernel) rfl, pk (q := (yX4_chainBuffer, 6)) (List.mem_of_getElem? (i := 17) (by decide +kernel)), tk1 (i := 1) (by decide +kernel) rfl, tk3 (i := 56) (by decide +kernel) rfl⟩
def M_X4_digest : MM := (yX4_digest, cX4_digest, 5, some .long, [], 6, 140, 0, 0)
theorem mp_X4_digest : mpOk M_X4_digest 0 := ⟨by decide +kernel, by decide +kernel, by decide +kernel⟩
theorem mv_X4_digest : mvOk M_X4_digest := ⟨tk2 (i := 57) (by decide +kernel) rfl, tk2 (i := 58) (by decide +kernel) rfl, tk1 (i := 1) (by decide +kernel) rfl, tk2 (i := 59) (by decide +kernel) rfl⟩
def M_X5_mixIn : MM := (yX5_mixIn, cX5_mixIn, 3, none, [], 0, 0, 0, 0)
theorem mp_X5_mixIn : mpOk M_X5_mixIn 1 := ⟨by decide +kernel, by decide +kernel, by decide +kernel⟩
theorem mv_X5_mixIn : mvOk M_X5_mixIn := ⟨tk8 (i := 44) (by decide +kernel) rfl, pk (q := (yX5_mixIn, 15)) (List.mem_of_getElem? (i := 76) (by decide +kernel)), tk1 (i := 6) (by decide +kernel) rfl, tk8 (i := 45) (by decide +kernel) rfl⟩
def M_X5_digest : MM := (yX5_digest, cX5_digest, 3, some .long, [], 7, 159, 0, 0)
theorem mp_X5_digest : mpOk M_X5_digest 0 := ⟨by decide +kernel, by decide +kernel, by decide +kernel⟩
theorem mv_X5_digest : mvOk M_X5_digest := ⟨tk8 (i := 38) (by decide +kernel) rfl, tk8 (i := 39) (by decide +kernel) rfl, tk1 (i := 6) (by decide +kernel) rfl, tk8 (i := 40) (by decide +kernel) rfl⟩
def M_L_law : MM := (yL_law, cL_law, 9, some .boolean, [], 12, 434, 601024, 7293034)
theorem fl_RX0_9 : flOk RX0 9 0 0 := ⟨tk1 (i := 112) (by decide +kernel) rfl, by decide, by decide, rfl⟩
theorem fl_RX0_15 : flOk RX0 15 0 2 := ⟨tk1 (i := 116) (by decide +kernel) rfl, by decide, by decide, rfl⟩
theorem fl_RX0_18 : flOk RX0 18 0 3 := ⟨tk1 (i := 118) (by decide +kernel) rfl, by decide, by decide, rfl⟩
theorem fl_RX0_21 : flOk RX0 21 0 4 := ⟨tk1 (i := 120) (by decide +kernel) rfl, by decide, by decide, rfl⟩
theorem fl_RX0_24 : flOk RX0 24 0 5 := ⟨tk1 (i := 122) (by decide +kernel) rfl, by decide, by decide, rfl⟩
theorem fl_RX0_27 : flOk RX0 27 0 1 := ⟨tk1 (i := 114) (by decide +kernel) rfl, by decide, by decide, rfl⟩
theorem fl_RX0_35 : flOk RX0 35 0 6 := ⟨tk1 (i := 124) (by decide +kernel) rfl, by decide, by decide, rfl⟩
theorem fl_RX0_38 : flOk RX0 38 0 7 := ⟨tk1 (i := 126) (by decide +kernel) rfl, by decide, by decide, rfl⟩
theorem fl_RX1_11 : flOk RX1 11 1 0 := ⟨tk1 (i := 98) (by decide +kernel) rfl, by decide, by decide, rfl⟩
theorem fl_RX1_18 : flOk RX1 18 1 1 := ⟨tk1 (i := 99) (by decide +kernel) rfl, by decide, by decide, rfl⟩
theorem fl_RX2_9 : flOk RX2 9 2 0 := ⟨tk1 (i := 151) (by decide +kernel) rfl, by decide, by decide, rfl⟩
theorem fl_RX2_15 : flOk RX2 15 2 1 := ⟨tk1 (i := 152) (by decide +kernel) rfl, by decide, by decide, rfl⟩
theorem fl_RX2_18 : flOk RX2 18 2 2 := ⟨tk1 (i := 153) (by decide +kernel) rfl, by decide, by decide, rfl⟩
theorem fl_RX2_22 : flOk RX2 22 2 3 := ⟨tk1 (i := 154) (by decide +kernel) rfl, by decide, by decide, rfl⟩
theorem fl_RX2_25 : flOk RX2 25 2 4 := ⟨tk1 (i := 155) (by decide +kernel) rfl, by decide, by decide, rfl⟩
theorem fl_RX3_9 : flOk RX3 9 3 1 := ⟨tk1 (i := 33) (by decide +kernel) rfl, by decide, by decide, rfl⟩
theorem fl_RX3_15 : flOk RX3 15 3 2 := ⟨tk1 (i := 35) (by decide +kernel) rfl, by decide, by decide, rfl⟩
theorem fl_RX3_18 : flOk RX3 18 3 3 := ⟨tk1 (i := 36) (by decide +kernel) rfl, by decide, by decide, rfl⟩
theorem fl_RX3_21 : flOk RX3 21 3 4 := ⟨tk1 (i := 38) (by decide +kernel) rfl, by decide, by decide, rfl⟩
theorem fl_RX3_24 : flOk RX3 24 3 5 := ⟨tk1 (i := 40) (by decide +kernel) rfl, by decide, by decide, rfl⟩
theorem fl_RX3_27 : flOk RX3 27 3 6 := ⟨tk1 (i := 41) (by decide +kernel) rfl, by decide, by decide, rfl⟩
theorem fl_RX3_30 : flOk RX3 30 3 7 := ⟨tk1 (i := 42) (by decide +kernel) rfl, by decide, by decide, rfl⟩
theorem fl_RX3_33 : flOk RX3 33 3 8 := ⟨tk1 (i := 43) (by decide +kernel) rfl, by decide, by decide, rfl⟩
theorem fl_RX3_36 : flOk RX3 36 3 9 := ⟨tk1 (i := 44) (by decide +kernel) rfl, by decide, by decide, rfl⟩
theorem fl_RX3_39 : flOk RX3 39 3 10 := ⟨tk1 (i := 45) (by decide +kernel) rfl, by decide, by decide, rfl⟩
theorem fl_RX3_42 : flOk RX3 42 3 11 := ⟨tk1 (i := 46) (by decide +kernel) rfl, by decide, by decide, rfl⟩
theorem fl_RX3_45 : flOk RX3 45 3 0 := ⟨tk1 (i := 31) (by decide +kernel) rfl, by decide, by decide, rfl⟩
theorem fl_RX3_53 : flOk RX3 53 3 12 := ⟨tk1 (i := 47) (by decide +kernel) rfl, by decide, by decide, rfl⟩
theorem fl_RX3_56 : flOk RX3 56 3 13 := ⟨tk1 (i := 49) (by decide +kernel) rfl, by decide, by decide, rfl⟩
theorem fl_RX3_59 : flOk RX3 59 3 14 := ⟨tk1 (i := 51) (by decide +kernel) rfl, by decide, by decide, rfl⟩
theorem fl_RX3_62 : flOk RX3 62 3 15 := ⟨tk1 (i := 53) (by decide +kernel) rfl, by decide, by decide, rfl⟩
theorem fl_RX4_10 : flOk RX4 10 4 0 := ⟨tk1 (i := 167) (by decide +kernel) rfl, by decide, by decide, rfl⟩
theorem fl_RX4_19 : flOk RX4 19 4 1 := ⟨tk1 (i := 168) (by decide +kernel) rfl, by decide, by decide, rfl⟩
theorem fl_RX4_23 : flOk RX4 23 4 2 := ⟨tk1 (i := 169) (by decide +kernel) rfl, by decide, by decide, rfl⟩
theorem fl_RX4_27 : flOk RX4 27 4 3 := ⟨tk1 (i := 170) (by decide +kernel) rfl, by decide, by decide, rfl⟩
theorem fl_RX4_34 : flOk RX4 34 4 4 := ⟨tk1 (i := 171) (by decide +kernel) rfl, by decide, by decide, rfl⟩
theorem fl_RX4_41 : flOk RX4 41 4 5 := ⟨tk1 (i := 172) (by decide +kernel) rfl, by decide, by decide, rfl⟩
theorem fl_RX4_56 : flOk RX4 56 3 0 := ⟨tk1 (i := 32) (by decide +kernel) rfl, by decide, by decide, rfl⟩
theorem fl_RX4_91 : flOk RX4 91 3 3 := ⟨tk1 (i := 37) (by decide +kernel) rfl, by decide, by decide, rfl⟩
theorem fl_RX4_101 : flOk RX4 101 3 4 := ⟨tk1 (i := 39) (by decide +kernel) rfl, by decide, by decide, rfl⟩
theorem fl_RX4_109 : flOk RX4 109 3 1 := ⟨tk1 (i := 34) (by decide +kernel) rfl, by decide, by decide, rfl⟩
theorem fl_RX4_187 : flOk RX4 187 3 12 := ⟨tk1 (i := 48) (by decide +kernel) rfl, by decide, by decide, rfl⟩
theorem fl_RX4_226 : flOk RX4 226 0 1 := ⟨tk1 (i := 115) (by decide +kernel) rfl, by decide, by decide, rfl⟩
theorem fl_RX4_247 : flOk RX4 247 0 6 := ⟨tk1 (i := 125) (by decide +kernel) rfl, by decide, by decide, rfl⟩
theorem fl_RX4_255 : flOk RX4 255 0 2 := ⟨tk1 (i := 117) (by decide +kernel) rfl, by decide, by decide, rfl⟩
theorem fl_RX4_260 : flOk RX4 260 0 3 := ⟨tk1 (i := 119) (by decide +kernel) rfl, by decide, by decide, rfl⟩
theorem fl_RX4_263 : flOk RX4 263 0 4 := ⟨tk1 (i := 121) (by decide +kernel) rfl, by decide, by decide, rfl⟩
theorem fl_RX4_264 : flOk RX4 264 0 5 := ⟨tk1 (i := 123) (by decide +kernel) rfl, by decide, by decide, rfl⟩
theorem fl_RX4_277 : flOk RX4 277 1 1 := ⟨tk1 (i := 100) (by decide +kernel) rfl, by decide, by decide, rfl⟩
theorem fl_RX4_331 : flOk RX4 331 3 13 := ⟨tk1 (i := 50) (by decide +kernel) rfl, by decide, by decide, rfl⟩
theorem fl_RX4_334 : flOk RX4 334 3 14 := ⟨tk1 (i := 52) (by decide +kernel) rfl, by decide, by decide, rfl⟩
theorem fl_RX4_337 : flOk RX4 337 3 15 := ⟨tk1 (i := 54) (by decide +kernel) rfl, by decide, by decide, rfl⟩
theorem fl_RX4_412 : flOk RX4 412 0 0 := ⟨tk1 (i := 113) (by decide +kernel) rfl, by decide, by decide, rfl⟩
theorem fl_RX5_7 : flOk RX5 7 5 0 := ⟨tk5 (i := 230) (by decide +kernel) rfl, by decide, by decide, rfl⟩
theorem fl_RX5_13 : flOk RX5 13 5 1 := ⟨tk5 (i := 231) (by decide +kernel) rfl, by decide, by decide, rfl⟩
theorem fl_RX5_16 : flOk RX5 16 5 3 := ⟨tk5 (i := 233) (by decide +kernel) rfl, by decide, by decide, rfl⟩
theorem fl_RX5_19 : flOk RX5 19 5 4 := ⟨tk5 (i := 234) (by decide +kernel) rfl, by decide, by decide, rfl⟩
theorem fl_RX5_23 : flOk RX5 23 5 5 := ⟨tk5 (i := 235) (by decide +kernel) rfl, by decide, by decide, rfl⟩
theorem fl_RX5_26 : flOk RX5 26 5 7 := ⟨tk5 (i := 237) (by decide +kernel) rfl, by decide, by decide, rfl⟩
theorem fl_RX5_41 : flOk RX5 41 5 2 := ⟨tk5 (i := 232) (by decide +kernel) rfl, by decide, by decide, rfl⟩
theorem fl_RX5_125 : flOk RX5 125 5 6 := ⟨tk5 (i := 236) (by decide +kernel) rfl, by decide, by decide, rfl⟩
theorem fl_RX5_128 : flOk RX5 128 5 8 := ⟨tk5 (i := 238) (by decide +kernel) rfl, by decide, by decide, rfl⟩
theorem fl_RX5_135 : flOk RX5 135 5 9 := ⟨tk5 (i := 239) (by decide +kernel) rfl, by decide, by decide, rfl⟩
theorem fl_RX5_142 : flOk RX5 142 5 10 := ⟨tk6 (i := 0) (by decide +kernel) rfl, by decide, by decide, rfl⟩
theorem fl_RX5_145 : flOk RX5 145 5 11 := ⟨tk6 (i := 1) (by decide +kernel) rfl, by decide, by decide, rfl⟩
theorem fl_RX5_151 : flOk RX5 151 5 12 := ⟨tk6 (i := 2) (by decide +kernel) rfl, by decide, by decide, rfl⟩
theorem fl_RX5_154 : flOk RX5 154 5 13 := ⟨tk6 (i := 3) (by decide +kernel) rfl, by decide, by decide, rfl⟩
theorem fl_RX5_239 : flOk RX5 239 5 14 := ⟨tk6 (i := 4) (by decide +kernel) rfl, by decide, by decide, rfl⟩
theorem lk_RJxe99ae_122 : Cond.methodLink RJxe99ae 122 yJxe99ae_isNaN_b9ae7 ∈ lwG := tk8 (i := 50) (by decide +kernel) rfl
theorem lk_RL_7 : Cond.methodLink RL 7 yX4_addClause ∈ lwG := tk3 (i := 64) (by decide +kernel) rfl
theorem lk_RL_19 : Cond.methodLink RL 19 yX4_changeLips ∈ lwG := tk3 (i := 216) (by decide +kernel) rfl
theorem lk_RL_23 : Cond.methodLink RL 23 yX4_changeSigh ∈ lwG := tk3 (i := 234) (by decide +kernel) rfl
theorem lk_RL_26 : Cond.methodLink RL 26 yX4_moveClause ∈ lwG := tk4 (i := 2) (by decide +kernel) rfl
theorem lk_RL_29 : Cond.methodLink RL 29 yX4_translate ∈ lwG := tk4 (i := 11) (by decide +kernel) rfl
theorem lk_RL_32 : Cond.methodLink RL 32 yX4_annex ∈ lwG := tk4 (i := 31) (by decide +kernel) rfl
theorem lk_RL_35 : Cond.methodLink RL 35 yX4_bringBack ∈ lwG := tk4 (i := 44) (by decide +kernel) rfl
theorem lk_RL_38 : Cond.methodLink RL 38 yX4_cast ∈ lwG := tk4 (i := 52) (by decide +kernel) rfl
theorem lk_RL_41 : Cond.methodLink RL 41 yX4_record ∈ lwG := tk4 (i := 68) (by decide +kernel) rfl
theorem lk_RL_44 : Cond.methodLink RL 44 yX4_wipe ∈ lwG := tk4 (i := 80) (by decide +kernel) rfl
theorem lk_RL_47 : Cond.methodLink RL 47 yX4_nextSession ∈ lwG := tk4 (i := 100) (by decide +kernel) rfl
theorem lk_RL_51 : Cond.methodLink RL 51 yX4_mix ∈ lwG := tk4 (i := 112) (by decide +kernel) rfl
theorem lk_RL_54 : Cond.methodLink RL 54 yX4_sign ∈ lwG := tk4 (i := 128) (by decide +kernel) rfl
theorem lk_RL_57 : Cond.methodLink RL 57 yX4_append ∈ lwG := tk4 (i := 142) (by decide +kernel) rfl
theorem lk_RL_61 : Cond.methodLink RL 61 yX4_load ∈ lwG := tk4 (i := 154) (by decide +kernel) rfl
theorem lk_RL_64 : Cond.methodLink RL 64 yX4_keep ∈ lwG := tk4 (i := 172) (by decide +kernel) rfl
theorem lk_RL_68 : Cond.methodLink RL 68 yX4_goBack ∈ lwG := tk4 (i := 181) (by decide +kernel) rfl
theorem lk_RL_71 : Cond.methodLink RL 71 yX4_undo ∈ lwG := tk4 (i := 189) (by decide +kernel) rfl
theorem lk_RL_74 : Cond.methodLink RL 74 yX4_reelOf ∈ lwG := tk4 (i := 201) (by decide +kernel) rfl
theorem lk_RL_77 : Cond.methodLink RL 77 yX4_speakerOf ∈ lwG := tk4 (i := 208) (by decide +kernel) rfl
theorem lk_RL_80 : Cond.methodLink RL 80 yX4_lipsOf ∈ lwG := tk4 (i := 215) (by decide +kernel) rfl
theorem lk_RL_83 : Cond.methodLink RL 83 yX4_sighOf ∈ lwG := tk4 (i := 222) (by decide +kernel) rfl
theorem lk_RL_86 : Cond.methodLink RL 86 yX4_isTranslated ∈ lwG := tk4 (i := 229) (by decide +kernel) rfl
theorem lk_RL_90 : Cond.methodLink RL 90 yX4_framesOf ∈ lwG := tk4 (i := 236) (by decide +kernel) rfl
theorem lk_RL_93 : Cond.methodLink RL 93 yX4_annexedOf ∈ lwG := tk5 (i := 8) (by decide +kernel) rfl
theorem lk_RL_96 : Cond.methodLink RL 96 yX4_isRecorded ∈ lwG := tk5 (i := 15) (by decide +kernel) rfl
theorem lk_RL_99 : Cond.methodLink RL 99 yX4_sessionOf ∈ lwG := tk5 (i := 22) (by decide +kernel) rfl
theorem lk_RL_102 : Cond.methodLink RL 102 yX4_roomFor ∈ lwG := tk5 (i := 29) (by decide +kernel) rfl
theorem lk_RL_105 : Cond.methodLink RL 105 yX4_fits ∈ lwG := tk5 (i := 36) (by decide +kernel) rfl
theorem lk_RL_108 : Cond.methodLink RL 108 yX4_hundredthsOf ∈ lwG := tk5 (i := 44) (by decide +kernel) rfl
theorem lk_RL_111 : Cond.methodLink RL 111 yX4_reasonAgainst ∈ lwG := tk5 (i := 51) (by decide +kernel) rfl
theorem lk_RL_114 : Cond.methodLink RL 114 yX4_staminaOf ∈ lwG := tk5 (i := 58) (by decide +kernel) rfl
theorem lk_RL_117 : Cond.methodLink RL 117 yX4_strengthLeft ∈ lwG := tk5 (i := 65) (by decide +kernel) rfl
theorem lk_RL_120 : Cond.methodLink RL 120 yX4_framesOfVoice ∈ lwG := tk5 (i := 72) (by decide +kernel) rfl
theorem lk_RL_123 : Cond.methodLink RL 123 yX4_sessionsByGoing ∈ lwG := tk5 (i := 79) (by decide +kernel) rfl
theorem lk_RL_126 : Cond.methodLink RL 126 yX4_sessionsByTable ∈ lwG := tk5 (i := 91) (by decide +kernel) rfl
theorem lk_RL_129 : Cond.methodLink RL 129 yX4_clausesIn ∈ lwG := tk5 (i := 98) (by decide +kernel) rfl
theorem lk_RL_132 : Cond.methodLink RL 132 yX4_lengthOf ∈ lwG := tk5 (i := 105) (by decide +kernel) rfl
theorem lk_RL_135 : Cond.methodLink RL 135 yX4_speaksIn ∈ lwG := tk5 (i := 112) (by decide +kernel) rfl
theorem lk_RL_138 : Cond.methodLink RL 138 yX4_isComplete ∈ lwG := tk5 (i := 119) (by decide +kernel) rfl
theorem lk_RL_141 : Cond.methodLink RL 141 yX4_isMixed ∈ lwG := tk5 (i := 126) (by decide +kernel) rfl
theorem lk_RL_144 : Cond.methodLink RL 144 yX4_hasSigned ∈ lwG := tk5 (i := 133) (by decide +kernel) rfl
theorem lk_RL_148 : Cond.methodLink RL 148 yX4_signaturesOn ∈ lwG := tk5 (i := 140) (by decide +kernel) rfl
theorem lk_RL_151 : Cond.methodLink RL 151 yX4_missingOn ∈ lwG := tk5 (i := 147) (by decide +kernel) rfl
theorem lk_RL_154 : Cond.methodLink RL 154 yX4_annexOf ∈ lwG := tk5 (i := 154) (by decide +kernel) rfl
theorem lk_RL_157 : Cond.methodLink RL 157 yX4_recordedIn ∈ lwG := tk5 (i := 161) (by decide +kernel) rfl
theorem lk_RL_160 : Cond.methodLink RL 160 yX4_readyByClauses ∈ lwG := tk5 (i := 168) (by decide +kernel) rfl
theorem lk_RL_163 : Cond.methodLink RL 163 yX4_readyByVoices ∈ lwG := tk5 (i := 175) (by decide +kernel) rfl
theorem lk_RL_166 : Cond.methodLink RL 166 yX4_isRatified ∈ lwG := tk5 (i := 182) (by decide +kernel) rfl
theorem lk_RL_170 : Cond.methodLink RL 170 yX4_misfitsIn ∈ lwG := tk5 (i := 189) (by decide +kernel) rfl
theorem lk_RL_173 : Cond.methodLink RL 173 yX4_leastAnnex ∈ lwG := tk5 (i := 196) (by decide +kernel) rfl
theorem lk_RL_176 : Cond.methodLink RL 176 yX4_longestSigh ∈ lwG := tk5 (i := 204) (by decide +kernel) rfl
theorem lk_RL_179 : Cond.methodLink RL 179 yX4_nextClause ∈ lwG := tk5 (i := 212) (by decide +kernel) rfl
theorem lk_RL_182 : Cond.methodLink RL 182 yX4_meanFit ∈ lwG := tk5 (i := 220) (by decide +kernel) rfl
theorem lk_RL_186 : Cond.methodLink RL 186 yX4_init ∈ lwG := tk1 (i := 19) (by decide +kernel) rfl
theorem lk_RL_189 : Cond.methodLink RL 189 yX5_init ∈ lwG := tk5 (i := 226) (by decide +kernel) rfl
theorem lk_RL_190 : Cond.methodLink RL 190 yL_addClause ∈ lwG := tk3 (i := 58) (by decide +kernel) rfl
theorem lk_RL_195 : Cond.methodLink RL 195 yX5_addClause ∈ lwG := tk6 (i := 40) (by decide +kernel) rfl
theorem lk_RL_196 : Cond.methodLink RL 196 yX5_thrown ∈ lwG := tk6 (i := 36) (by decide +kernel) rfl
theorem lk_RL_199 : Cond.methodLink RL 199 yL_changeLips ∈ lwG := tk3 (i := 213) (by decide +kernel) rfl
theorem lk_RL_202 : Cond.methodLink RL 202 yX5_changeLips ∈ lwG := tk6 (i := 76) (by decide +kernel) rfl
theorem lk_RL_203 : Cond.methodLink RL 203 yL_changeSigh ∈ lwG := tk3 (i := 231) (by decide +kernel) rfl
theorem lk_RL_205 : Cond.methodLink RL 205 yX5_changeSigh ∈ lwG := tk6 (i := 96) (by decide +kernel) rfl
theorem lk_RL_206 : Cond.methodLink RL 206 yL_moveClause ∈ lwG := tk3 (i := 239) (by decide +kernel) rfl
theorem lk_RL_208 : Cond.methodLink RL 208 yX5_moveClause ∈ lwG := tk6 (i := 100) (by decide +kernel) rfl
theorem lk_RL_209 : Cond.methodLink RL 209 yL_translate ∈ lwG := tk4 (i := 8) (by decide +kernel) rfl
theorem lk_RL_211 : Cond.methodLink RL 211 yX5_translate ∈ lwG := tk6 (i := 104) (by decide +kernel) rfl
theorem lk_RL_212 : Cond.methodLink RL 212 yL_annex ∈ lwG := tk4 (i := 28) (by decide +kernel) rfl
theorem lk_RL_214 : Cond.methodLink RL 214 yX5_annex ∈ lwG := tk6 (i := 123) (by decide +kernel) rfl
theorem lk_RL_215 : Cond.methodLink RL 215 yL_bringBack ∈ lwG := tk4 (i := 41) (by decide +kernel) rfl
theorem lk_RL_217 : Cond.methodLink RL 217 yX5_bringBack ∈ lwG := tk6 (i := 131) (by decide +kernel) rfl
theorem lk_RL_218 : Cond.methodLink RL 218 yL_cast ∈ lwG := tk4 (i := 49) (by decide +kernel) rfl
theorem lk_RL_220 : Cond.methodLink RL 220 yX5_cast ∈ lwG := tk6 (i := 135) (by decide +kernel) rfl
theorem lk_RL_221 : Cond.methodLink RL 221 yL_record ∈ lwG := tk4 (i := 65) (by decide +kernel) rfl
theorem lk_RL_223 : Cond.methodLink RL 223 yX5_record ∈ lwG := tk6 (i := 142) (by decide +kernel) rfl
theorem lk_RL_224 : Cond.methodLink RL 224 yL_wipe ∈ lwG := tk4 (i := 77) (by decide +kernel) rfl
theorem lk_RL_226 : Cond.methodLink RL 226 yX5_wipe ∈ lwG := tk6 (i := 158) (by decide +kernel) rfl
theorem lk_RL_227 : Cond.methodLink RL 227 yL_nextSession ∈ lwG := tk4 (i := 97) (by decide +kernel) rfl
theorem lk_RL_230 : Cond.methodLink RL 230 yX5_nextSession ∈ lwG := tk6 (i := 162) (by decide +kernel) rfl
theorem lk_RL_231 : Cond.methodLink RL 231 yL_mix ∈ lwG := tk4 (i := 109) (by decide +kernel) rfl
theorem lk_RL_233 : Cond.methodLink RL 233 yX5_mix ∈ lwG := tk6 (i := 166) (by decide +kernel) rfl
theorem lk_RL_234 : Cond.methodLink RL 234 yL_sign ∈ lwG := tk4 (i := 125) (by decide +kernel) rfl
theorem lk_RL_236 : Cond.methodLink RL 236 yX5_sign ∈ lwG := tk6 (i := 181) (by decide +kernel) rfl
theorem lk_RL_237 : Cond.methodLink RL 237 yL_append ∈ lwG := tk4 (i := 139) (by decide +kernel) rfl
theorem lk_RL_240 : Cond.methodLink RL 240 yX5_append ∈ lwG := tk6 (i := 197) (by decide +kernel) rfl
theorem lk_RL_241 : Cond.methodLink RL 241 yX4_clearBuffer ∈ lwG := tk1 (i := 186) (by decide +kernel) rfl
theorem lk_RL_244 : Cond.methodLink RL 244 yX5_clearBuffer ∈ lwG := tk6 (i := 201) (by decide +kernel) rfl
theorem lk_RL_245 : Cond.methodLink RL 245 yX4_firstError ∈ lwG := tk1 (i := 190) (by decide +kernel) rfl
theorem lk_RL_248 : Cond.methodLink RL 248 yX5_firstError ∈ lwG := tk6 (i := 205) (by decide +kernel) rfl
theorem lk_RL_249 : Cond.methodLink RL 249 yL_load ∈ lwG := tk4 (i := 151) (by decide +kernel) rfl
theorem lk_RL_251 : Cond.methodLink RL 251 yX5_load ∈ lwG := tk6 (i := 229) (by decide +kernel) rfl
theorem lk_RL_252 : Cond.methodLink RL 252 yL_keep ∈ lwG := tk4 (i := 169) (by decide +kernel) rfl
theorem lk_RL_255 : Cond.methodLink RL 255 yX5_keep ∈ lwG := tk6 (i := 237) (by decide +kernel) rfl
theorem lk_RL_256 : Cond.methodLink RL 256 yL_goBack ∈ lwG := tk4 (i := 178) (by decide +kernel) rfl
theorem lk_RL_258 : Cond.methodLink RL 258 yX5_goBack ∈ lwG := tk7 (i := 1) (by decide +kernel) rfl
theorem lk_RL_259 : Cond.methodLink RL 259 yL_undo ∈ lwG := tk4 (i := 186) (by decide +kernel) rfl
theorem lk_RL_262 : Cond.methodLink RL 262 yX5_undo ∈ lwG := tk7 (i := 5) (by decide +kernel) rfl
theorem lk_RL_263 : Cond.methodLink RL 263 yX4_savedStates ∈ lwG := tk1 (i := 232) (by decide +kernel) rfl
theorem lk_RL_266 : Cond.methodLink RL 266 yX5_savedStates ∈ lwG := tk7 (i := 9) (by decide +kernel) rfl
theorem lk_RL_267 : Cond.methodLink RL 267 yX4_clauses ∈ lwG := tk1 (i := 236) (by decide +kernel) rfl
theorem lk_RL_270 : Cond.methodLink RL 270 yX5_clauses ∈ lwG := tk7 (i := 17) (by decide +kernel) rfl
theorem lk_RL_271 : Cond.methodLink RL 271 yL_reelOf ∈ lwG := tk4 (i := 198) (by decide +kernel) rfl
theorem lk_RL_273 : Cond.methodLink RL 273 yX5_reelOf ∈ lwG := tk7 (i := 21) (by decide +kernel) rfl
theorem lk_RL_274 : Cond.methodLink RL 274 yL_speakerOf ∈ lwG := tk4 (i := 205) (by decide +kernel) rfl
theorem lk_RL_276 : Cond.methodLink RL 276 yX5_speakerOf ∈ lwG := tk7 (i := 29) (by decide +kernel) rfl
theorem lk_RL_277 : Cond.methodLink RL 277 yL_lipsOf ∈ lwG := tk4 (i := 212) (by decide +kernel) rfl
theorem lk_RL_279 : Cond.methodLink RL 279 yX5_lipsOf ∈ lwG := tk7 (i := 33) (by decide +kernel) rfl
theorem lk_RL_280 : Cond.methodLink RL 280 yL_sighOf ∈ lwG := tk4 (i := 219) (by decide +kernel) rfl
theorem lk_RL_282 : Cond.methodLink RL 282 yX5_sighOf ∈ lwG := tk7 (i := 37) (by decide +kernel) rfl
theorem lk_RL_283 : Cond.methodLink RL 283 yL_isTranslated ∈ lwG := tk4 (i := 226) (by decide +kernel) rfl
theorem lk_RL_285 : Cond.methodLink RL 285 yX5_isTranslated ∈ lwG := tk7 (i := 41) (by decide +kernel) rfl
theorem lk_RL_286 : Cond.methodLink RL 286 yL_framesOf ∈ lwG := tk4 (i := 233) (by decide +kernel) rfl
theorem lk_RL_288 : Cond.methodLink RL 288 yX5_framesOf ∈ lwG := tk7 (i := 45) (by decide +kernel) rfl
theorem lk_RL_289 : Cond.methodLink RL 289 yL_annexedOf ∈ lwG := tk5 (i := 5) (by decide +kernel) rfl
theorem lk_RL_291 : Cond.methodLink RL 291 yX5_annexedOf ∈ lwG := tk7 (i := 53) (by decide +kernel) rfl
theorem lk_RL_292 : Cond.methodLink RL 292 yL_isRecorded ∈ lwG := tk5 (i := 12) (by decide +kernel) rfl
theorem lk_RL_294 : Cond.methodLink RL 294 yX5_isRecorded ∈ lwG := tk7 (i := 57) (by decide +kernel) rfl
theorem lk_RL_295 : Cond.methodLink RL 295 yL_sessionOf ∈ lwG := tk5 (i := 19) (by decide +kernel) rfl
theorem lk_RL_297 : Cond.methodLink RL 297 yX5_sessionOf ∈ lwG := tk7 (i := 61) (by decide +kernel) rfl
theorem lk_RL_298 : Cond.methodLink RL 298 yL_roomFor ∈ lwG := tk5 (i := 26) (by decide +kernel) rfl
theorem lk_RL_300 : Cond.methodLink RL 300 yX5_roomFor ∈ lwG := tk7 (i := 65) (by decide +kernel) rfl
theorem lk_RL_301 : Cond.methodLink RL 301 yL_fits ∈ lwG := tk5 (i := 33) (by decide +kernel) rfl
theorem lk_RL_303 : Cond.methodLink RL 303 yX5_fits ∈ lwG := tk7 (i := 73) (by decide +kernel) rfl
theorem lk_RL_304 : Cond.methodLink RL 304 yL_hundredthsOf ∈ lwG := tk5 (i := 41) (by decide +kernel) rfl
end XM23
