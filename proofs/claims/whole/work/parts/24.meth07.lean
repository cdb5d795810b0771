/-! the methods: their rows, and what the tables say of them -/
section XM27
theorem mv_X4_recordings : mvOk M_X4_recordings := ⟨tk2 (i := 5) (by decide +kernel) rfl, tk2 (i := 6) (by decide +kernel) rfl, tk1 (i := 1) (by decide +kernel) rfl, tk2 (i := 7) rfl rfl⟩
def M_X5_recordings : MM := (yX5_recordings, cX5_recordings, 1, some .int, [], 1, 21, 0, 0)
theorem mp_X5_recordings : mpOk M_X5_recordings 0 := ⟨by decide +kernel, by decide +kernel, by decide +kernel⟩
theorem mv_X5_recordings : mvOk M_X5_recordings := ⟨tk7 (i := 214) (by decide +kernel) rfl, tk7 (i := 215) (by decide +kernel) rfl, tk1 (i := 6) (by decide +kernel) rfl, tk7 (i := 216) rfl rfl⟩
def M_X4_wiped : MM := (yX4_wiped, cX4_wiped, 1, some .int, [], 0, 0, 0, 0)
theorem mp_X4_wiped : mpOk M_X4_wiped 0 := ⟨by decide +kernel, by decide +kernel, by decide +kernel⟩
theorem mv_X4_wiped : mvOk M_X4_wiped := ⟨tk2 (i := 9) (by decide +kernel) rfl, tk2 (i := 10) (by decide +kernel) rfl, tk1 (i := 1) (by decide +kernel) rfl, tk2 (i := 11) rfl rfl⟩
def M_X5_wiped : MM := (yX5_wiped, cX5_wiped, 1, some .int, [], 1, 21, 0, 0)
theorem mp_X5_wiped : mpOk M_X5_wiped 0 := ⟨by decide +kernel, by decide +kernel, by decide +kernel⟩
theorem mv_X5_wiped : mvOk M_X5_wiped := ⟨tk7 (i := 218) (by decide +kernel) rfl, tk7 (i := 219) (by decide +kernel) rfl, tk1 (i := 6) (by decide +kernel) rfl, tk7 (i := 220) rfl rfl⟩
def M_X4_mixes : MM := (yX4_mixes, cX4_mixes, 1, some .int, [], 0, 0, 0, 0)
theorem mp_X4_mixes : mpOk M_X4_mixes 0 := ⟨by decide +kernel, by decide +kernel, by decide +kernel⟩
theorem mv_X4_mixes : mvOk M_X4_mixes := ⟨tk2 (i := 13) (by decide +kernel) rfl, tk2 (i := 14) (by decide +kernel) rfl, tk1 (i := 1) (by decide +kernel) rfl, tk2 (i := 15) rfl rfl⟩
def M_X5_mixes : MM := (yX5_mixes, cX5_mixes, 1, some .int, [], 1, 21, 0, 0)
theorem mp_X5_mixes : mpOk M_X5_mixes 0 := ⟨by decide +kernel, by decide +kernel, by decide +kernel⟩
theorem mv_X5_mixes : mvOk M_X5_mixes := ⟨tk7 (i := 222) (by decide +kernel) rfl, tk7 (i := 223) (by decide +kernel) rfl, tk1 (i := 6) (by decide +kernel) rfl, tk7 (i := 224) rfl rfl⟩
def M_X3_leastAnnexAt : MM := (yX3_leastAnnexAt, cX3_leastAnnexAt, 4, some .int, [], 3, 65, 0, 0)
theorem mp_X3_leastAnnexAt : mpOk M_X3_leastAnnexAt 2 := ⟨by decide +kernel, by decide +kernel, by decide +kernel⟩
theorem mv_X3_leastAnnexAt : mvOk M_X3_leastAnnexAt := ⟨tk2 (i := 141) (by decide +kernel) rfl, tk2 (i := 142) (by decide +kernel) rfl, tk1 (i := 2) (by decide +kernel) rfl, tk2 (i := 143) rfl rfl⟩
def M_X4_leastAnnex : MM := (yX4_leastAnnex, cX4_leastAnnex, 4, some .int, [], 8, 129, 4, 24)
theorem mp_X4_leastAnnex : mpOk M_X4_leastAnnex 2 := ⟨by decide +kernel, by decide +kernel, by decide +kernel⟩
theorem mv_X4_leastAnnex : mvOk M_X4_leastAnnex := ⟨tk5 (i := 197) (by decide +kernel) rfl, tk5 (i := 198) (by decide +kernel) rfl, tk1 (i := 1) (by decide +kernel) rfl, tk5 (i := 199) rfl rfl⟩
def M_L_leastAnnex : MM := (yL_leastAnnex, cL_leastAnnex, 5, some .int, [(0, 10, 13, 13), (0, 10, 17, 17)], 9, 152, 4, 24)
theorem mp_L_leastAnnex : mpOk M_L_leastAnnex 4 := ⟨by decide +kernel, by decide +kernel, by decide +kernel⟩
theorem ms_L_leastAnnex : msOk M_L_leastAnnex := ⟨tk5 (i := 194) (by decide +kernel) rfl, tk1 (i := 0) (by decide +kernel) rfl, tk5 (i := 195) rfl rfl⟩
def M_X5_needed : MM := (yX5_needed, cX5_needed, 4, some .int, [], 4, 87, 0, 0)
theorem mp_X5_needed : mpOk M_X5_needed 2 := ⟨by decide +kernel, by decide +kernel, by decide +kernel⟩
theorem mv_X5_needed : mvOk M_X5_needed := ⟨tk7 (i := 231) (by decide +kernel) rfl, pk (q := (yX5_needed, 15)) (List.mem_of_getElem? (i := 69) (by decide +kernel)), tk1 (i := 6) (by decide +kernel) rfl, tk7 (i := 232) rfl rfl⟩
def M_X5_leastAnnex : MM := (yX5_leastAnnex, cX5_leastAnnex, 4, some .int, [], 5, 110, 0, 0)
theorem mp_X5_leastAnnex : mpOk M_X5_leastAnnex 2 := ⟨by decide +kernel, by decide +kernel, by decide +kernel⟩
theorem mv_X5_leastAnnex : mvOk M_X5_leastAnnex := ⟨tk7 (i := 226) (by decide +kernel) rfl, tk7 (i := 227) (by decide +kernel) rfl, tk1 (i := 6) (by decide +kernel) rfl, tk7 (i := 228) rfl rfl⟩
def M_X3_longestSighAt : MM := (yX3_longestSighAt, cX3_longestSighAt, 4, some .int, [], 2, 43, 0, 0)
theorem mp_X3_longestSighAt : mpOk M_X3_longestSighAt 1 := ⟨by decide +kernel, by decide +kernel, by decide +kernel⟩
theorem mv_X3_longestSighAt : mvOk M_X3_longestSighAt := ⟨tk2 (i := 80) (by decide +kernel) rfl, tk2 (i := 81) (by decide +kernel) rfl, tk1 (i := 2) (by decide +kernel) rfl, tk2 (i := 82) rfl rfl⟩
def M_X4_longestSigh : MM := (yX4_longestSigh, cX4_longestSigh, 3, some .int, [], 7, 107, 2, 12)
theorem mp_X4_longestSigh : mpOk M_X4_longestSigh 1 := ⟨by decide +kernel, by decide +kernel, by decide +kernel⟩
theorem mv_X4_longestSigh : mvOk M_X4_longestSigh := ⟨tk5 (i := 205) (by decide +kernel) rfl, tk5 (i := 206) (by decide +kernel) rfl, tk1 (i := 1) (by decide +kernel) rfl, tk5 (i := 207) rfl rfl⟩
def M_L_longestSigh : MM := (yL_longestSigh, cL_longestSigh, 4, some .int, [(0, 9, 12, 13), (0, 9, 15, 17)], 8, 129, 2, 12)
theorem mp_L_longestSigh : mpOk M_L_longestSigh 3 := ⟨by decide +kernel, by decide +kernel, by decide +kernel⟩
theorem ms_L_longestSigh : msOk M_L_longestSigh := ⟨tk5 (i := 202) (by decide +kernel) rfl, tk1 (i := 0) (by decide +kernel) rfl, tk5 (i := 203) rfl rfl⟩
def M_X5_longest : MM := (yX5_longest, cX5_longest, 5, some .int, [], 2, 43, 0, 0)
theorem mp_X5_longest : mpOk M_X5_longest 1 := ⟨by decide +kernel, by decide +kernel, by decide +kernel⟩
theorem mv_X5_longest : mvOk M_X5_longest := ⟨tk7 (i := 239) (by decide +kernel) rfl, pk (q := (yX5_longest, 15)) (List.mem_of_getElem? (i := 70) (by decide +kernel)), tk1 (i := 6) (by decide +kernel) rfl, tk8 (i := 0) rfl rfl⟩
def M_X5_longestSigh : MM := (yX5_longestSigh, cX5_longestSigh, 2, some .int, [], 3, 67, 0, 0)
theorem mp_X5_longestSigh : mpOk M_X5_longestSigh 1 := ⟨by decide +kernel, by decide +kernel, by decide +kernel⟩
theorem mv_X5_longestSigh : mvOk M_X5_longestSigh := ⟨tk7 (i := 234) (by decide +kernel) rfl, tk7 (i := 235) (by decide +kernel) rfl, tk1 (i := 6) (by decide +kernel) rfl, tk7 (i := 236) rfl rfl⟩
def M_X3_longestToTake : MM := (yX3_longestToTake, cX3_longestToTake, 4, some .int, [], 4, 88, 0, 0)
theorem mp_X3_longestToTake : mpOk M_X3_longestToTake 1 := ⟨by decide +kernel, by decide +kernel, by decide +kernel⟩
theorem mv_X3_longestToTake : mvOk M_X3_longestToTake := ⟨tk3 (i := 30) (by decide +kernel) rfl, tk3 (i := 31) (by decide +kernel) rfl, tk1 (i := 2) (by decide +kernel) rfl, tk3 (i := 32) rfl rfl⟩
def M_X4_nextClause : MM := (yX4_nextClause, cX4_nextClause, 3, some .int, [], 7, 111, 2, 12)
theorem mp_X4_nextClause : mpOk M_X4_nextClause 1 := ⟨by decide +kernel, by decide +kernel, by decide +kernel⟩
theorem mv_X4_nextClause : mvOk M_X4_nextClause := ⟨tk5 (i := 213) (by decide +kernel) rfl, tk5 (i := 214) (by decide +kernel) rfl, tk1 (i := 1) (by decide +kernel) rfl, tk5 (i := 215) rfl rfl⟩
def M_L_nextClause : MM := (yL_nextClause, cL_nextClause, 4, some .int, [(0, 9, 12, 13), (0, 9, 15, 17)], 8, 133, 2, 12)
theorem mp_L_nextClause : mpOk M_L_nextClause 3 := ⟨by decide +kernel, by decide +kernel, by decide +kernel⟩
theorem ms_L_nextClause : msOk M_L_nextClause := ⟨tk5 (i := 210) (by decide +kernel) rfl, tk1 (i := 0) (by decide +kernel) rfl, tk5 (i := 211) rfl rfl⟩
def M_X5_nextOne : MM := (yX5_nextOne, cX5_nextOne, 4, some .int, [], 5, 109, 0, 0)
theorem mp_X5_nextOne : mpOk M_X5_nextOne 1 := ⟨by decide +kernel, by decide +kernel, by decide +kernel⟩
theorem mv_X5_nextOne : mvOk M_X5_nextOne := ⟨tk8 (i := 7) (by decide +kernel) rfl, pk (q := (yX5_nextOne, 15)) (List.mem_of_getElem? (i := 71) (by decide +kernel)), tk1 (i := 6) (by decide +kernel) rfl, tk8 (i := 8) rfl rfl⟩
def M_X5_nextClause : MM := (yX5_nextClause, cX5_nextClause, 2, some .int, [], 6, 132, 0, 0)
theorem mp_X5_nextClause : mpOk M_X5_nextClause 1 := ⟨by decide +kernel, by decide +kernel, by decide +kernel⟩
theorem mv_X5_nextClause : mvOk M_X5_nextClause := ⟨tk8 (i := 2) (by decide +kernel) rfl, tk8 (i := 3) (by decide +kernel) rfl, tk1 (i := 6) (by decide +kernel) rfl, tk8 (i := 4) rfl rfl⟩
def M_X3_mostTakenTongue : MM := (yX3_mostTakenTongue, cX3_mostTakenTongue, 3, some .int, [], 3, 66, 0, 0)
theorem mp_X3_mostTakenTongue : mpOk M_X3_mostTakenTongue 0 := ⟨by decide +kernel, by decide +kernel, by decide +kernel⟩
theorem mv_X3_mostTakenTongue : mvOk M_X3_mostTakenTongue := ⟨tk2 (i := 21) (by decide +kernel) rfl, tk2 (i := 22) (by decide +kernel) rfl, tk1 (i := 2) (by decide +kernel) rfl, tk2 (i := 23) rfl rfl⟩
def M_X4_bestTongue : MM := (yX4_bestTongue, cX4_bestTongue, 1, some .int, [], 4, 88, 0, 0)
theorem mp_X4_bestTongue : mpOk M_X4_bestTongue 0 := ⟨by decide +kernel, by decide +kernel, by decide +kernel⟩
theorem mv_X4_bestTongue : mvOk M_X4_bestTongue := ⟨tk2 (i := 17) (by decide +kernel) rfl, tk2 (i := 18) (by decide +kernel) rfl, tk1 (i := 1) (by decide +kernel) rfl, tk2 (i := 19) rfl rfl⟩
def M_X5_best : MM := (yX5_best, cX5_best, 3, some .int, [], 3, 66, 0, 0)
theorem mp_X5_best : mpOk M_X5_best 0 := ⟨by decide +kernel, by decide +kernel, by decide +kernel⟩
theorem mv_X5_best : mvOk M_X5_best := ⟨tk8 (i := 15) (by decide +kernel) rfl, pk (q := (yX5_best, 15)) (List.mem_of_getElem? (i := 72) (by decide +kernel)), tk1 (i := 6) (by decide +kernel) rfl, tk8 (i := 16) rfl rfl⟩
def M_X5_bestTongue : MM := (yX5_bestTongue, cX5_bestTongue, 1, some .int, [], 4, 88, 0, 0)
theorem mp_X5_bestTongue : mpOk M_X5_bestTongue 0 := ⟨by decide +kernel, by decide +kernel, by decide +kernel⟩
theorem mv_X5_bestTongue : mvOk M_X5_bestTongue := ⟨tk8 (i := 10) (by decide +kernel) rfl, tk8 (i := 11) (by decide +kernel) rfl, tk1 (i := 6) (by decide +kernel) rfl, tk8 (i := 12) rfl rfl⟩
def M_X3_lipsBy : MM := (yX3_lipsBy, cX3_lipsBy, 4, some .int, [], 2, 42, 0, 0)
theorem mp_X3_lipsBy : mpOk M_X3_lipsBy 1 := ⟨by decide +kernel, by decide +kernel, by decide +kernel⟩
theorem mv_X3_lipsBy : mvOk M_X3_lipsBy := ⟨tk2 (i := 46) (by decide +kernel) rfl, pk (q := (yX3_lipsBy, 16)) (List.mem_of_getElem? (i := 7) (by decide +kernel)), tk1 (i := 2) (by decide +kernel) rfl, tk2 (i := 47) rfl rfl⟩
def M_X3_mostLipsState : MM := (yX3_mostLipsState, cX3_mostLipsState, 3, some .int, [], 3, 65, 0, 0)
theorem mp_X3_mostLipsState : mpOk M_X3_mostLipsState 0 := ⟨by decide +kernel, by decide +kernel, by decide +kernel⟩
theorem mv_X3_mostLipsState : mvOk M_X3_mostLipsState := ⟨tk2 (i := 41) (by decide +kernel) rfl, tk2 (i := 42) (by decide +kernel) rfl, tk1 (i := 2) (by decide +kernel) rfl, tk2 (i := 43) rfl rfl⟩
def M_X4_loudestState : MM := (yX4_loudestState, cX4_loudestState, 1, some .int, [], 4, 87, 0, 0)
theorem mp_X4_loudestState : mpOk M_X4_loudestState 0 := ⟨by decide +kernel, by decide +kernel, by decide +kernel⟩
theorem mv_X4_loudestState : mvOk M_X4_loudestState := ⟨tk2 (i := 37) (by decide +kernel) rfl, tk2 (i := 38) (by decide +kernel) rfl, tk1 (i := 1) (by decide +kernel) rfl, tk2 (i := 39) rfl rfl⟩
def M_X5_spoken : MM := (yX5_spoken, cX5_spoken, 4, some .int, [], 1, 21, 0, 0)
theorem mp_X5_spoken : mpOk M_X5_spoken 1 := ⟨by decide +kernel, by decide +kernel, by decide +kernel⟩
theorem mv_X5_spoken : mvOk M_X5_spoken := ⟨tk8 (i := 27) (by decide +kernel) rfl, pk (q := (yX5_spoken, 15)) (List.mem_of_getElem? (i := 74) (by decide +kernel)), tk1 (i := 6) (by decide +kernel) rfl, tk8 (i := 28) rfl rfl⟩
def M_X5_loudest : MM := (yX5_loudest, cX5_loudest, 3, some .int, [], 2, 44, 0, 0)
theorem mp_X5_loudest : mpOk M_X5_loudest 0 := ⟨by decide +kernel, by decide +kernel, by decide +kernel⟩
theorem mv_X5_loudest : mvOk M_X5_loudest := ⟨tk8 (i := 23) (by decide +kernel) rfl, pk (q := (yX5_loudest, 15)) (List.mem_of_getElem? (i := 73) (by decide +kernel)), tk1 (i := 6) (by decide +kernel) rfl, tk8 (i := 24) rfl rfl⟩
def M_X5_loudestState : MM := (yX5_loudestState, cX5_loudestState, 1, some .int, [], 3, 66, 0, 0)
theorem mp_X5_loudestState : mpOk M_X5_loudestState 0 := ⟨by decide +kernel, by decide +kernel, by decide +kernel⟩
theorem mv_X5_loudestState : mvOk M_X5_loudestState := ⟨tk8 (i := 18) (by decide +kernel) rfl, tk8 (i := 19) (by decide +kernel) rfl, tk1 (i := 6) (by decide +kernel) rfl, tk8 (i := 20) rfl rfl⟩
def M_X3_meanHundredths : MM := (yX3_meanHundredths, cX3_meanHundredths, 5, some .double, [], 3, 66, 0, 0)
theorem mp_X3_meanHundredths : mpOk M_X3_meanHundredths 1 := ⟨by decide +kernel, by decide +kernel, by decide +kernel⟩
theorem mv_X3_meanHundredths : mvOk M_X3_meanHundredths := ⟨tk3 (i := 35) (by decide +kernel) rfl, tk3 (i := 36) (by decide +kernel) rfl, tk1 (i := 2) (by decide +kernel) rfl, tk3 (i := 37) rfl rfl⟩
def M_X4_meanFit : MM := (yX4_meanFit, cX4_meanFit, 2, some .double, [], 7, 106, 1, 6)
theorem mp_X4_meanFit : mpOk M_X4_meanFit 1 := ⟨by decide +kernel, by decide +kernel, by decide +kernel⟩
theorem mv_X4_meanFit : mvOk M_X4_meanFit := ⟨tk5 (i := 221) (by decide +kernel) rfl, tk5 (i := 222) (by decide +kernel) rfl, tk1 (i := 1) (by decide +kernel) rfl, tk5 (i := 223) rfl rfl⟩
def M_L_meanFit : MM := (yL_meanFit, cL_meanFit, 4, some .int, [(0, 8, 11, 13)], 8, 127, 1, 6)
theorem mp_L_meanFit : mpOk M_L_meanFit 3 := ⟨by decide +kernel, by decide +kernel, by decide +kernel⟩
theorem ms_L_meanFit : msOk M_L_meanFit := ⟨tk5 (i := 218) (by decide +kernel) rfl, tk1 (i := 0) (by decide +kernel) rfl, tk5 (i := 219) rfl rfl⟩
def M_X5_mean : MM := (yX5_mean, cX5_mean, 6, some .double, [], 4, 87, 0, 0)
theorem mp_X5_mean : mpOk M_X5_mean 1 := ⟨by decide +kernel, by decide +kernel, by decide +kernel⟩
theorem mv_X5_mean : mvOk M_X5_mean := ⟨tk8 (i := 35) (by decide +kernel) rfl, pk (q := (yX5_mean, 15)) (List.mem_of_getElem? (i := 75) (by decide +kernel)), tk1 (i := 6) (by decide +kernel) rfl, tk8 (i := 36) rfl rfl⟩
def M_X5_meanFit : MM := (yX5_meanFit, cX5_meanFit, 2, some .double, [], 5, 112, 0, 0)
theorem mp_X5_meanFit : mpOk M_X5_meanFit 1 := ⟨by decide +kernel, by decide +kernel, by decide +kernel⟩
theorem mv_X5_meanFit : mvOk M_X5_meanFit := ⟨tk8 (i := 30) (by decide +kernel) rfl, tk8 (i := 31) (by decide +kernel) rfl, tk1 (i := 6) (by decide +kernel) rfl, tk8 (i := 32) rfl rfl⟩
def M_X4_chain : MM := (yX4_chain, cX4_chain, 4, some .long, [], 0, 0, 0, 0)
theorem mp_X4_chain : mpOk M_X4_chain 2 := ⟨by decide +kernel, by decide +kernel, by decide +kernel⟩
theorem ms_X4_chain : msOk M_X4_chain := ⟨tk2 (i := 62) (by decide +kernel) rfl, tk1 (i := 1) (by decide +kernel) rfl, tk2 (i := 63) rfl rfl⟩
def M_X4_chainFlag : MM := (yX4_chainFlag, cX4_chainFlag, 3, some .long, [], 1, 23, 0, 0)
theorem mp_X4_chainFlag : mpOk M_X4_chainFlag 2 := ⟨by decide +kernel, by decide +kernel, by decide +kernel⟩
theorem ms_X4_chainFlag : msOk M_X4_chainFlag := ⟨tk2 (i := 101) (by decide +kernel) rfl, tk1 (i := 1) (by decide +kernel) rfl, tk2 (i := 102) rfl rfl⟩
def M_X4_chainTranslation : MM := (yX4_chainTranslation, cX4_chainTranslation, 7, some .long, [], 4, 88, 0, 0)
theorem mp_X4_chainTranslation : mpOk M_X4_chainTranslation 3 := ⟨by decide +kernel, by decide +kernel, by decide +kernel⟩
theorem mv_X4_chainTranslation : mvOk M_X4_chainTranslation := ⟨tk2 (i := 92) (by decide +kernel) rfl, pk (q := (yX4_chainTranslation, 6)) (List.mem_of_getElem? (i := 9) (by decide +kernel)), tk1 (i := 1) (by decide +kernel) rfl, tk2 (i := 93) rfl rfl⟩
def M_X4_chainClause : MM := (yX4_chainClause, cX4_chainClause, 7, some .long, [], 5, 114, 0, 0)
theorem mp_X4_chainClause : mpOk M_X4_chainClause 2 := ⟨by decide +kernel, by decide +kernel, by decide +kernel⟩
theorem mv_X4_chainClause : mvOk M_X4_chainClause := ⟨tk2 (i := 67) (by decide +kernel) rfl, pk (q := (yX4_chainClause, 6)) (List.mem_of_getElem? (i := 8) (by decide +kernel)), tk1 (i := 1) (by decide +kernel) rfl, tk2 (i := 68) rfl rfl⟩
def M_X4_chainVoice : MM := (yX4_chainVoice, cX4_chainVoice, 7, some .long, [], 4, 90, 0, 0)
theorem mp_X4_chainVoice : mpOk M_X4_chainVoice 3 := ⟨by decide +kernel, by decide +kernel, by decide +kernel⟩
theorem mv_X4_chainVoice : mvOk M_X4_chainVoice := ⟨tk2 (i := 150) (by decide +kernel) rfl, pk (q := (yX4_chainVoice, 6)) (List.mem_of_getElem? (i := 10) (by decide +kernel)), tk1 (i := 1) (by decide +kernel) rfl, tk2 (i := 151) rfl rfl⟩
def M_X4_chainReel : MM := (yX4_chainReel, cX4_chainReel, 7, some .long, [], 4, 89, 0, 0)
theorem mp_X4_chainReel : mpOk M_X4_chainReel 2 := ⟨by decide +kernel, by decide +kernel, by decide +kernel⟩
theorem mv_X4_chainReel : mvOk M_X4_chainReel := ⟨tk2 (i := 195) (by decide +kernel) rfl, pk (q := (yX4_chainReel, 6)) (List.mem_of_getElem? (i := 12) (by decide +kernel)), tk1 (i := 1) (by decide +kernel) rfl, tk2 (i := 196) rfl rfl⟩
def M_X4_bitsOf : MM := (yX4_bitsOf, cX4_bitsOf, 8, some .long, [], 0, 0, 0, 0)
theorem mp_X4_bitsOf : mpOk M_X4_bitsOf 1 := ⟨by decide +kernel, by decide +kernel, by decide +kernel⟩
theorem ms_X4_bitsOf : msOk M_X4_bitsOf := ⟨tk3 (i := 40) (by decide +kernel) rfl, tk1 (i := 1) (by decide +kernel) rfl, tk3 (i := 41) rfl rfl⟩
def M_X4_chainTongue : MM := (yX4_chainTongue, cX4_chainTongue, 6, some .long, [], 5, 113, 0, 0)
theorem mp_X4_chainTongue : mpOk M_X4_chainTongue 2 := ⟨by decide +kernel, by decide +kernel, by decide +kernel⟩
theorem mv_X4_chainTongue : mvOk M_X4_chainTongue := ⟨tk2 (i := 239) (by decide +kernel) rfl, pk (q := (yX4_chainTongue, 6)) (List.mem_of_getElem? (i := 13) (by decide +kernel)), tk1 (i := 1) (by decide +kernel) rfl, tk3 (i := 0) rfl rfl⟩
def M_X4_chainAccounts : MM := (yX4_chainAccounts, cX4_chainAccounts, 6, some .long, [], 4, 88, 0, 0)
end XM27
