/-! the methods: their rows, and what the tables say of them -/
section XM26
def M_L_speaksIn : MM := (yL_speaksIn, cL_speaksIn, 4, some .int, [(0, 14, 15, 15)], 8, 128, 2, 12)
theorem mp_L_speaksIn : mpOk M_L_speaksIn 3 := ⟨by decide +kernel, by decide +kernel, by decide +kernel⟩
theorem ms_L_speaksIn : msOk M_L_speaksIn := ⟨tk5 (i := 157) (by decide +kernel) rfl, tk1 (i := 0) (by decide +kernel) rfl, tk5 (i := 158) rfl rfl⟩
def M_X4_clausesIn : MM := (yX4_clausesIn, cX4_clausesIn, 2, some .int, [], 7, 106, 1, 6)
theorem mp_X4_clausesIn : mpOk M_X4_clausesIn 1 := ⟨by decide +kernel, by decide +kernel, by decide +kernel⟩
theorem mv_X4_clausesIn : mvOk M_X4_clausesIn := ⟨tk3 (i := 233) (by decide +kernel) rfl, tk3 (i := 234) (by decide +kernel) rfl, tk1 (i := 1) (by decide +kernel) rfl, tk3 (i := 235) rfl rfl⟩
def M_X3_lipsOn : MM := (yX3_lipsOn, cX3_lipsOn, 4, some .int, [], 2, 42, 0, 0)
theorem mp_X3_lipsOn : mpOk M_X3_lipsOn 1 := ⟨by decide +kernel, by decide +kernel, by decide +kernel⟩
theorem mv_X3_lipsOn : mvOk M_X3_lipsOn := ⟨tk2 (i := 161) (by decide +kernel) rfl, tk2 (i := 162) (by decide +kernel) rfl, tk1 (i := 2) (by decide +kernel) rfl, tk2 (i := 163) rfl rfl⟩
def M_X4_lengthOf : MM := (yX4_lengthOf, cX4_lengthOf, 2, some .int, [], 7, 106, 1, 6)
theorem mp_X4_lengthOf : mpOk M_X4_lengthOf 1 := ⟨by decide +kernel, by decide +kernel, by decide +kernel⟩
theorem mv_X4_lengthOf : mvOk M_X4_lengthOf := ⟨tk3 (i := 237) (by decide +kernel) rfl, tk3 (i := 238) (by decide +kernel) rfl, tk1 (i := 1) (by decide +kernel) rfl, tk3 (i := 239) rfl rfl⟩
def M_L_reelAt : MM := (yL_reelAt, cL_reelAt, 3, some .int, [(0, 14, 15, 15)], 8, 127, 2, 12)
theorem mp_L_reelAt : mpOk M_L_reelAt 2 := ⟨by decide +kernel, by decide +kernel, by decide +kernel⟩
theorem ms_L_reelAt : msOk M_L_reelAt := ⟨tk3 (i := 230) (by decide +kernel) rfl, tk1 (i := 0) (by decide +kernel) rfl, tk3 (i := 231) rfl rfl⟩
def M_X3_longestToTake : MM := (yX3_longestToTake, cX3_longestToTake, 4, some .int, [], 4, 88, 0, 0)
theorem mp_X3_longestToTake : mpOk M_X3_longestToTake 1 := ⟨by decide +kernel, by decide +kernel, by decide +kernel⟩
theorem mv_X3_longestToTake : mvOk M_X3_longestToTake := ⟨tk2 (i := 231) (by decide +kernel) rfl, tk2 (i := 232) (by decide +kernel) rfl, tk1 (i := 2) (by decide +kernel) rfl, tk2 (i := 233) rfl rfl⟩
def M_X4_nextClause : MM := (yX4_nextClause, cX4_nextClause, 3, some .int, [], 7, 111, 2, 12)
theorem mp_X4_nextClause : mpOk M_X4_nextClause 1 := ⟨by decide +kernel, by decide +kernel, by decide +kernel⟩
theorem mv_X4_nextClause : mvOk M_X4_nextClause := ⟨tk5 (i := 167) (by decide +kernel) rfl, tk5 (i := 168) (by decide +kernel) rfl, tk1 (i := 1) (by decide +kernel) rfl, tk5 (i := 169) rfl rfl⟩
def M_L_nextClause : MM := (yL_nextClause, cL_nextClause, 3, some .int, [(0, 5, 6, 15), (0, 5, 10, 19)], 8, 133, 2, 12)
theorem mp_L_nextClause : mpOk M_L_nextClause 2 := ⟨by decide +kernel, by decide +kernel, by decide +kernel⟩
theorem ms_L_nextClause : msOk M_L_nextClause := ⟨tk5 (i := 164) (by decide +kernel) rfl, tk1 (i := 0) (by decide +kernel) rfl, tk5 (i := 165) rfl rfl⟩
def M_X4_annexOf : MM := (yX4_annexOf, cX4_annexOf, 2, some .int, [], 7, 106, 1, 6)
theorem mp_X4_annexOf : mpOk M_X4_annexOf 1 := ⟨by decide +kernel, by decide +kernel, by decide +kernel⟩
theorem mv_X4_annexOf : mvOk M_X4_annexOf := ⟨tk4 (i := 4) (by decide +kernel) rfl, tk4 (i := 5) (by decide +kernel) rfl, tk1 (i := 1) (by decide +kernel) rfl, tk4 (i := 6) rfl rfl⟩
def M_X4_recordedIn : MM := (yX4_recordedIn, cX4_recordedIn, 2, some .int, [], 7, 106, 1, 6)
theorem mp_X4_recordedIn : mpOk M_X4_recordedIn 1 := ⟨by decide +kernel, by decide +kernel, by decide +kernel⟩
theorem mv_X4_recordedIn : mvOk M_X4_recordedIn := ⟨tk4 (i := 12) (by decide +kernel) rfl, tk4 (i := 13) (by decide +kernel) rfl, tk1 (i := 1) (by decide +kernel) rfl, tk4 (i := 14) rfl rfl⟩
def M_X3_misfitTotal : MM := (yX3_misfitTotal, cX3_misfitTotal, 4, some .int, [], 3, 65, 0, 0)
theorem mp_X3_misfitTotal : mpOk M_X3_misfitTotal 1 := ⟨by decide +kernel, by decide +kernel, by decide +kernel⟩
theorem mv_X3_misfitTotal : mvOk M_X3_misfitTotal := ⟨tk2 (i := 227) (by decide +kernel) rfl, tk2 (i := 228) (by decide +kernel) rfl, tk1 (i := 2) (by decide +kernel) rfl, tk2 (i := 229) rfl rfl⟩
def M_X4_misfitsIn : MM := (yX4_misfitsIn, cX4_misfitsIn, 2, some .int, [], 7, 106, 1, 6)
theorem mp_X4_misfitsIn : mpOk M_X4_misfitsIn 1 := ⟨by decide +kernel, by decide +kernel, by decide +kernel⟩
theorem mv_X4_misfitsIn : mvOk M_X4_misfitsIn := ⟨tk4 (i := 16) (by decide +kernel) rfl, tk4 (i := 17) (by decide +kernel) rfl, tk1 (i := 1) (by decide +kernel) rfl, tk4 (i := 18) rfl rfl⟩
def M_X3_hasRatification : MM := (yX3_hasRatification, cX3_hasRatification, 4, some .boolean, [], 4, 89, 0, 0)
theorem mp_X3_hasRatification : mpOk M_X3_hasRatification 1 := ⟨by decide +kernel, by decide +kernel, by decide +kernel⟩
theorem mv_X3_hasRatification : mvOk M_X3_hasRatification := ⟨tk2 (i := 221) (by decide +kernel) rfl, tk2 (i := 222) (by decide +kernel) rfl, tk1 (i := 2) (by decide +kernel) rfl, tk2 (i := 223) rfl rfl⟩
def M_X4_isRatified : MM := (yX4_isRatified, cX4_isRatified, 2, some .boolean, [], 7, 112, 1, 6)
theorem mp_X4_isRatified : mpOk M_X4_isRatified 1 := ⟨by decide +kernel, by decide +kernel, by decide +kernel⟩
theorem mv_X4_isRatified : mvOk M_X4_isRatified := ⟨tk4 (i := 20) (by decide +kernel) rfl, tk4 (i := 21) (by decide +kernel) rfl, tk1 (i := 1) (by decide +kernel) rfl, tk4 (i := 22) rfl rfl⟩
def M_L_tongueAt : MM := (yL_tongueAt, cL_tongueAt, 3, some .int, [(0, 39, 40, 15)], 8, 133, 4, 24)
theorem mp_L_tongueAt : mpOk M_L_tongueAt 2 := ⟨by decide +kernel, by decide +kernel, by decide +kernel⟩
theorem ms_L_tongueAt : msOk M_L_tongueAt := ⟨tk4 (i := 1) (by decide +kernel) rfl, tk1 (i := 0) (by decide +kernel) rfl, tk4 (i := 2) rfl rfl⟩
def M_X3_readyTotal : MM := (yX3_readyTotal, cX3_readyTotal, 4, some .int, [], 3, 66, 0, 0)
theorem mp_X3_readyTotal : mpOk M_X3_readyTotal 1 := ⟨by decide +kernel, by decide +kernel, by decide +kernel⟩
theorem mv_X3_readyTotal : mvOk M_X3_readyTotal := ⟨tk2 (i := 209) (by decide +kernel) rfl, tk2 (i := 210) (by decide +kernel) rfl, tk1 (i := 2) (by decide +kernel) rfl, tk2 (i := 211) rfl rfl⟩
def M_X4_readyByClauses : MM := (yX4_readyByClauses, cX4_readyByClauses, 2, some .int, [], 7, 106, 1, 6)
theorem mp_X4_readyByClauses : mpOk M_X4_readyByClauses 1 := ⟨by decide +kernel, by decide +kernel, by decide +kernel⟩
theorem mv_X4_readyByClauses : mvOk M_X4_readyByClauses := ⟨tk5 (i := 175) (by decide +kernel) rfl, tk5 (i := 176) (by decide +kernel) rfl, tk1 (i := 1) (by decide +kernel) rfl, tk5 (i := 177) rfl rfl⟩
def M_X3_readyOfVoice : MM := (yX3_readyOfVoice, cX3_readyOfVoice, 5, some .int, [], 3, 66, 0, 0)
theorem mp_X3_readyOfVoice : mpOk M_X3_readyOfVoice 2 := ⟨by decide +kernel, by decide +kernel, by decide +kernel⟩
theorem mv_X3_readyOfVoice : mvOk M_X3_readyOfVoice := ⟨tk2 (i := 218) (by decide +kernel) rfl, pk (q := (yX3_readyOfVoice, 16)) (List.mem_of_getElem? (i := 13) (by decide +kernel)), tk1 (i := 2) (by decide +kernel) rfl, tk2 (i := 219) rfl rfl⟩
def M_X3_readyOfAllVoices : MM := (yX3_readyOfAllVoices, cX3_readyOfAllVoices, 4, some .int, [], 4, 90, 0, 0)
theorem mp_X3_readyOfAllVoices : mpOk M_X3_readyOfAllVoices 1 := ⟨by decide +kernel, by decide +kernel, by decide +kernel⟩
theorem mv_X3_readyOfAllVoices : mvOk M_X3_readyOfAllVoices := ⟨tk2 (i := 213) (by decide +kernel) rfl, tk2 (i := 214) (by decide +kernel) rfl, tk1 (i := 2) (by decide +kernel) rfl, tk2 (i := 215) rfl rfl⟩
def M_X4_readyByVoices : MM := (yX4_readyByVoices, cX4_readyByVoices, 2, some .int, [], 7, 113, 1, 6)
theorem mp_X4_readyByVoices : mpOk M_X4_readyByVoices 1 := ⟨by decide +kernel, by decide +kernel, by decide +kernel⟩
theorem mv_X4_readyByVoices : mvOk M_X4_readyByVoices := ⟨tk5 (i := 179) (by decide +kernel) rfl, tk5 (i := 180) (by decide +kernel) rfl, tk1 (i := 1) (by decide +kernel) rfl, tk5 (i := 181) rfl rfl⟩
def M_L_ready : MM := (yL_ready, cL_ready, 3, some .int, [(0, 23, 24, 15)], 8, 134, 3, 18)
theorem mp_L_ready : mpOk M_L_ready 2 := ⟨by decide +kernel, by decide +kernel, by decide +kernel⟩
theorem ms_L_ready : msOk M_L_ready := ⟨tk5 (i := 172) (by decide +kernel) rfl, tk1 (i := 0) (by decide +kernel) rfl, tk5 (i := 173) rfl rfl⟩
def M_X3_meanHundredths : MM := (yX3_meanHundredths, cX3_meanHundredths, 5, some .double, [], 3, 66, 0, 0)
theorem mp_X3_meanHundredths : mpOk M_X3_meanHundredths 1 := ⟨by decide +kernel, by decide +kernel, by decide +kernel⟩
theorem mv_X3_meanHundredths : mvOk M_X3_meanHundredths := ⟨tk2 (i := 236) (by decide +kernel) rfl, tk2 (i := 237) (by decide +kernel) rfl, tk1 (i := 2) (by decide +kernel) rfl, tk2 (i := 238) rfl rfl⟩
def M_X4_meanFit : MM := (yX4_meanFit, cX4_meanFit, 2, some .double, [], 7, 106, 1, 6)
theorem mp_X4_meanFit : mpOk M_X4_meanFit 1 := ⟨by decide +kernel, by decide +kernel, by decide +kernel⟩
theorem mv_X4_meanFit : mvOk M_X4_meanFit := ⟨tk5 (i := 186) (by decide +kernel) rfl, tk5 (i := 187) (by decide +kernel) rfl, tk1 (i := 1) (by decide +kernel) rfl, tk5 (i := 188) rfl rfl⟩
def M_L_meanFit : MM := (yL_meanFit, cL_meanFit, 3, some .double, [(0, 5, 6, 15)], 8, 127, 1, 6)
theorem mp_L_meanFit : mpOk M_L_meanFit 2 := ⟨by decide +kernel, by decide +kernel, by decide +kernel⟩
theorem ms_L_meanFit : msOk M_L_meanFit := ⟨tk5 (i := 183) (by decide +kernel) rfl, tk1 (i := 0) (by decide +kernel) rfl, tk5 (i := 184) rfl rfl⟩
def M_X4_recordings : MM := (yX4_recordings, cX4_recordings, 1, some .int, [], 0, 0, 0, 0)
theorem mp_X4_recordings : mpOk M_X4_recordings 0 := ⟨by decide +kernel, by decide +kernel, by decide +kernel⟩
theorem mv_X4_recordings : mvOk M_X4_recordings := ⟨tk5 (i := 191) (by decide +kernel) rfl, tk5 (i := 192) (by decide +kernel) rfl, tk1 (i := 1) (by decide +kernel) rfl, tk5 (i := 193) rfl rfl⟩
def M_X4_wiped : MM := (yX4_wiped, cX4_wiped, 1, some .int, [], 0, 0, 0, 0)
theorem mp_X4_wiped : mpOk M_X4_wiped 0 := ⟨by decide +kernel, by decide +kernel, by decide +kernel⟩
theorem mv_X4_wiped : mvOk M_X4_wiped := ⟨tk5 (i := 195) (by decide +kernel) rfl, tk5 (i := 196) (by decide +kernel) rfl, tk1 (i := 1) (by decide +kernel) rfl, tk5 (i := 197) rfl rfl⟩
def M_X4_mixes : MM := (yX4_mixes, cX4_mixes, 1, some .int, [], 0, 0, 0, 0)
theorem mp_X4_mixes : mpOk M_X4_mixes 0 := ⟨by decide +kernel, by decide +kernel, by decide +kernel⟩
theorem mv_X4_mixes : mvOk M_X4_mixes := ⟨tk5 (i := 199) (by decide +kernel) rfl, tk5 (i := 200) (by decide +kernel) rfl, tk1 (i := 1) (by decide +kernel) rfl, tk5 (i := 201) rfl rfl⟩
def M_L_hangs : MM := (yL_hangs, cL_hangs, 20, some .boolean, [], 10, 175, 4000, 24000)
theorem mp_L_hangs : mpOk M_L_hangs 1 := ⟨by decide +kernel, by decide +kernel, by decide +kernel⟩
theorem ms_L_hangs : msOk M_L_hangs := ⟨tk4 (i := 239) (by decide +kernel) rfl, tk1 (i := 0) (by decide +kernel) rfl, tk5 (i := 0) rfl rfl⟩
def M_X3_init : MM := (yX3_init, cX3_init, 2, none, [], 1, 12, 11, 366)
theorem mp_X3_init : mpOk M_X3_init 0 := ⟨by decide +kernel, by decide +kernel, by decide +kernel⟩
end XM26
