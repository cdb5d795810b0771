/-! the methods: their rows, and what the tables say of them -/
section XM21
theorem mv_X3_putStamina : mvOk M_X3_putStamina := ⟨tk4 (i := 62) (by decide +kernel) rfl, tk4 (i := 63) (by decide +kernel) rfl, tk1 (i := 2) (by decide +kernel) rfl, tk4 (i := 64) rfl rfl⟩
def M_X4_cast : MM := (yX4_cast, cX4_cast, 5, some .int, [], 8, 127, 4, 24)
theorem mp_X4_cast : mpOk M_X4_cast 3 := ⟨by decide +kernel, by decide +kernel, by decide +kernel⟩
theorem mv_X4_cast : mvOk M_X4_cast := ⟨tk4 (i := 53) (by decide +kernel) rfl, tk4 (i := 54) (by decide +kernel) rfl, tk1 (i := 1) (by decide +kernel) rfl, tk4 (i := 55) rfl rfl⟩
def M_L_cast : MM := (yL_cast, cL_cast, 6, some .int, [(0, 12, 15, 13), (0, 12, 19, 15), (0, 12, 23, 17)], 9, 151, 4, 24)
theorem mp_L_cast : mpOk M_L_cast 5 := ⟨by decide +kernel, by decide +kernel, by decide +kernel⟩
theorem ms_L_cast : msOk M_L_cast := ⟨tk4 (i := 50) (by decide +kernel) rfl, tk1 (i := 0) (by decide +kernel) rfl, tk4 (i := 51) rfl rfl⟩
def M_X3_isRecordedAnywhere : MM := (yX3_isRecordedAnywhere, cX3_isRecordedAnywhere, 3, some .boolean, [], 2, 43, 0, 0)
theorem mp_X3_isRecordedAnywhere : mpOk M_X3_isRecordedAnywhere 1 := ⟨by decide +kernel, by decide +kernel, by decide +kernel⟩
theorem mv_X3_isRecordedAnywhere : mvOk M_X3_isRecordedAnywhere := ⟨tk3 (i := 226) (by decide +kernel) rfl, tk3 (i := 227) (by decide +kernel) rfl, tk1 (i := 2) (by decide +kernel) rfl, tk3 (i := 228) rfl rfl⟩
def M_X3_sighAt : MM := (yX3_sighAt, cX3_sighAt, 2, some .int, [], 1, 21, 0, 0)
theorem mp_X3_sighAt : mpOk M_X3_sighAt 1 := ⟨by decide +kernel, by decide +kernel, by decide +kernel⟩
theorem mv_X3_sighAt : mvOk M_X3_sighAt := ⟨tk2 (i := 76) (by decide +kernel) rfl, tk2 (i := 77) (by decide +kernel) rfl, tk1 (i := 2) (by decide +kernel) rfl, tk2 (i := 78) rfl rfl⟩
def M_X3_lipsAt : MM := (yX3_lipsAt, cX3_lipsAt, 2, some .int, [], 1, 21, 0, 0)
theorem mp_X3_lipsAt : mpOk M_X3_lipsAt 1 := ⟨by decide +kernel, by decide +kernel, by decide +kernel⟩
theorem mv_X3_lipsAt : mvOk M_X3_lipsAt := ⟨tk2 (i := 53) (by decide +kernel) rfl, tk2 (i := 54) (by decide +kernel) rfl, tk1 (i := 2) (by decide +kernel) rfl, tk2 (i := 55) rfl rfl⟩
def M_X4_changeLips : MM := (yX4_changeLips, cX4_changeLips, 4, some .int, [], 7, 108, 3, 18)
theorem mp_X4_changeLips : mpOk M_X4_changeLips 2 := ⟨by decide +kernel, by decide +kernel, by decide +kernel⟩
theorem mv_X4_changeLips : mvOk M_X4_changeLips := ⟨tk3 (i := 217) (by decide +kernel) rfl, tk3 (i := 218) (by decide +kernel) rfl, tk1 (i := 1) (by decide +kernel) rfl, tk3 (i := 219) rfl rfl⟩
def M_L_changeLips : MM := (yL_changeLips, cL_changeLips, 5, some .int, [(0, 10, 13, 13), (0, 10, 17, 15), (0, 10, 21, 17)], 8, 131, 3, 18)
theorem mp_L_changeLips : mpOk M_L_changeLips 4 := ⟨by decide +kernel, by decide +kernel, by decide +kernel⟩
theorem ms_L_changeLips : msOk M_L_changeLips := ⟨tk3 (i := 214) (by decide +kernel) rfl, tk1 (i := 0) (by decide +kernel) rfl, tk3 (i := 215) rfl rfl⟩
def M_X4_changeSigh : MM := (yX4_changeSigh, cX4_changeSigh, 4, some .int, [], 7, 108, 3, 18)
theorem mp_X4_changeSigh : mpOk M_X4_changeSigh 2 := ⟨by decide +kernel, by decide +kernel, by decide +kernel⟩
theorem mv_X4_changeSigh : mvOk M_X4_changeSigh := ⟨tk3 (i := 235) (by decide +kernel) rfl, tk3 (i := 236) (by decide +kernel) rfl, tk1 (i := 1) (by decide +kernel) rfl, tk3 (i := 237) rfl rfl⟩
def M_L_changeSigh : MM := (yL_changeSigh, cL_changeSigh, 5, some .int, [(0, 10, 13, 13), (0, 10, 17, 15), (0, 10, 21, 17)], 8, 131, 3, 18)
theorem mp_L_changeSigh : mpOk M_L_changeSigh 4 := ⟨by decide +kernel, by decide +kernel, by decide +kernel⟩
theorem ms_L_changeSigh : msOk M_L_changeSigh := ⟨tk3 (i := 232) (by decide +kernel) rfl, tk1 (i := 0) (by decide +kernel) rfl, tk3 (i := 233) rfl rfl⟩
def M_X3_reelAt : MM := (yX3_reelAt, cX3_reelAt, 2, some .int, [], 1, 21, 0, 0)
theorem mp_X3_reelAt : mpOk M_X3_reelAt 1 := ⟨by decide +kernel, by decide +kernel, by decide +kernel⟩
theorem mv_X3_reelAt : mvOk M_X3_reelAt := ⟨tk2 (i := 70) (by decide +kernel) rfl, tk2 (i := 71) (by decide +kernel) rfl, tk1 (i := 2) (by decide +kernel) rfl, tk2 (i := 72) rfl rfl⟩
def M_X3_clausesOn : MM := (yX3_clausesOn, cX3_clausesOn, 4, some .int, [], 2, 42, 0, 0)
theorem mp_X3_clausesOn : mpOk M_X3_clausesOn 1 := ⟨by decide +kernel, by decide +kernel, by decide +kernel⟩
theorem mv_X3_clausesOn : mvOk M_X3_clausesOn := ⟨tk2 (i := 198) (by decide +kernel) rfl, tk2 (i := 199) (by decide +kernel) rfl, tk1 (i := 2) (by decide +kernel) rfl, tk2 (i := 200) rfl rfl⟩
def M_X4_clausesIn : MM := (yX4_clausesIn, cX4_clausesIn, 2, some .int, [], 7, 106, 1, 6)
theorem mp_X4_clausesIn : mpOk M_X4_clausesIn 1 := ⟨by decide +kernel, by decide +kernel, by decide +kernel⟩
theorem mv_X4_clausesIn : mvOk M_X4_clausesIn := ⟨tk5 (i := 99) (by decide +kernel) rfl, tk5 (i := 100) (by decide +kernel) rfl, tk1 (i := 1) (by decide +kernel) rfl, tk5 (i := 101) rfl rfl⟩
def M_L_clausesIn : MM := (yL_clausesIn, cL_clausesIn, 4, some .int, [(0, 9, 12, 13)], 8, 127, 1, 6)
theorem mp_L_clausesIn : mpOk M_L_clausesIn 3 := ⟨by decide +kernel, by decide +kernel, by decide +kernel⟩
theorem ms_L_clausesIn : msOk M_L_clausesIn := ⟨tk5 (i := 96) (by decide +kernel) rfl, tk1 (i := 0) (by decide +kernel) rfl, tk5 (i := 97) rfl rfl⟩
def M_X3_hasFit : MM := (yX3_hasFit, cX3_hasFit, 4, some .boolean, [], 1, 21, 0, 0)
theorem mp_X3_hasFit : mpOk M_X3_hasFit 2 := ⟨by decide +kernel, by decide +kernel, by decide +kernel⟩
theorem mv_X3_hasFit : mvOk M_X3_hasFit := ⟨tk2 (i := 112) (by decide +kernel) rfl, tk2 (i := 113) (by decide +kernel) rfl, tk1 (i := 2) (by decide +kernel) rfl, tk2 (i := 114) rfl rfl⟩
def M_X4_fits : MM := (yX4_fits, cX4_fits, 3, some .boolean, [], 8, 129, 2, 12)
theorem mp_X4_fits : mpOk M_X4_fits 2 := ⟨by decide +kernel, by decide +kernel, by decide +kernel⟩
theorem mv_X4_fits : mvOk M_X4_fits := ⟨tk5 (i := 37) (by decide +kernel) rfl, tk5 (i := 38) (by decide +kernel) rfl, tk1 (i := 1) (by decide +kernel) rfl, tk5 (i := 39) rfl rfl⟩
def M_L_fits : MM := (yL_fits, cL_fits, 5, some .int, [(0, 17, 20, 13)], 9, 151, 2, 12)
theorem mp_L_fits : mpOk M_L_fits 4 := ⟨by decide +kernel, by decide +kernel, by decide +kernel⟩
theorem ms_L_fits : msOk M_L_fits := ⟨tk5 (i := 34) (by decide +kernel) rfl, tk1 (i := 0) (by decide +kernel) rfl, tk5 (i := 35) rfl rfl⟩
def M_X4_checkTranslated : MM := (yX4_checkTranslated, cX4_checkTranslated, 3, none, [], 6, 86, 1, 6)
theorem mp_X4_checkTranslated : mpOk M_X4_checkTranslated 2 := ⟨by decide +kernel, by decide +kernel, by decide +kernel⟩
theorem mv_X4_checkTranslated : mvOk M_X4_checkTranslated := ⟨tk5 (i := 2) (by decide +kernel) rfl, pk (q := (yX4_checkTranslated, 6)) (List.mem_of_getElem? (i := 24) (by decide +kernel)), tk1 (i := 1) (by decide +kernel) rfl, tk5 (i := 3) rfl rfl⟩
def M_X4_framesOf : MM := (yX4_framesOf, cX4_framesOf, 3, some .int, [], 8, 129, 3, 18)
theorem mp_X4_framesOf : mpOk M_X4_framesOf 2 := ⟨by decide +kernel, by decide +kernel, by decide +kernel⟩
theorem mv_X4_framesOf : mvOk M_X4_framesOf := ⟨tk4 (i := 237) (by decide +kernel) rfl, tk4 (i := 238) (by decide +kernel) rfl, tk1 (i := 1) (by decide +kernel) rfl, tk4 (i := 239) rfl rfl⟩
def M_L_framesOf : MM := (yL_framesOf, cL_framesOf, 5, some .int, [(0, 10, 13, 13), (0, 10, 17, 17)], 9, 151, 3, 18)
theorem mp_L_framesOf : mpOk M_L_framesOf 4 := ⟨by decide +kernel, by decide +kernel, by decide +kernel⟩
theorem ms_L_framesOf : msOk M_L_framesOf := ⟨tk4 (i := 234) (by decide +kernel) rfl, tk1 (i := 0) (by decide +kernel) rfl, tk4 (i := 235) rfl rfl⟩
def M_X3_speakerAt : MM := (yX3_speakerAt, cX3_speakerAt, 2, some .int, [], 1, 21, 0, 0)
theorem mp_X3_speakerAt : mpOk M_X3_speakerAt 1 := ⟨by decide +kernel, by decide +kernel, by decide +kernel⟩
theorem mv_X3_speakerAt : mvOk M_X3_speakerAt := ⟨tk2 (i := 49) (by decide +kernel) rfl, tk2 (i := 50) (by decide +kernel) rfl, tk1 (i := 2) (by decide +kernel) rfl, tk2 (i := 51) rfl rfl⟩
def M_X3_spokenAt : MM := (yX3_spokenAt, cX3_spokenAt, 3, some .int, [], 1, 21, 0, 0)
theorem mp_X3_spokenAt : mpOk M_X3_spokenAt 2 := ⟨by decide +kernel, by decide +kernel, by decide +kernel⟩
theorem mv_X3_spokenAt : mvOk M_X3_spokenAt := ⟨tk2 (i := 128) (by decide +kernel) rfl, tk2 (i := 129) (by decide +kernel) rfl, tk1 (i := 2) (by decide +kernel) rfl, tk2 (i := 130) rfl rfl⟩
def M_X3_takenFramesOf : MM := (yX3_takenFramesOf, cX3_takenFramesOf, 5, some .int, [], 2, 43, 0, 0)
theorem mp_X3_takenFramesOf : mpOk M_X3_takenFramesOf 2 := ⟨by decide +kernel, by decide +kernel, by decide +kernel⟩
theorem mv_X3_takenFramesOf : mvOk M_X3_takenFramesOf := ⟨tk2 (i := 155) (by decide +kernel) rfl, tk2 (i := 156) (by decide +kernel) rfl, tk1 (i := 2) (by decide +kernel) rfl, tk2 (i := 157) rfl rfl⟩
def M_X4_framesOfVoice : MM := (yX4_framesOfVoice, cX4_framesOfVoice, 3, some .int, [], 8, 127, 2, 12)
theorem mp_X4_framesOfVoice : mpOk M_X4_framesOfVoice 2 := ⟨by decide +kernel, by decide +kernel, by decide +kernel⟩
theorem mv_X4_framesOfVoice : mvOk M_X4_framesOfVoice := ⟨tk5 (i := 73) (by decide +kernel) rfl, tk5 (i := 74) (by decide +kernel) rfl, tk1 (i := 1) (by decide +kernel) rfl, tk5 (i := 75) rfl rfl⟩
def M_L_framesOfVoice : MM := (yL_framesOfVoice, cL_framesOfVoice, 5, some .int, [(0, 10, 13, 13)], 9, 149, 2, 12)
theorem mp_L_framesOfVoice : mpOk M_L_framesOfVoice 4 := ⟨by decide +kernel, by decide +kernel, by decide +kernel⟩
theorem ms_L_framesOfVoice : msOk M_L_framesOfVoice := ⟨tk5 (i := 70) (by decide +kernel) rfl, tk1 (i := 0) (by decide +kernel) rfl, tk5 (i := 71) rfl rfl⟩
def M_X4_hasSnapshot : MM := (yX4_hasSnapshot, cX4_hasSnapshot, 2, some .boolean, [], 0, 0, 0, 0)
theorem mp_X4_hasSnapshot : mpOk M_X4_hasSnapshot 1 := ⟨by decide +kernel, by decide +kernel, by decide +kernel⟩
theorem mv_X4_hasSnapshot : mvOk M_X4_hasSnapshot := ⟨tk3 (i := 51) (by decide +kernel) rfl, pk (q := (yX4_hasSnapshot, 6)) (List.mem_of_getElem? (i := 16) (by decide +kernel)), tk1 (i := 1) (by decide +kernel) rfl, tk3 (i := 52) rfl rfl⟩
def M_X4_goBack : MM := (yX4_goBack, cX4_goBack, 2, none, [], 7, 108, 2, 12)
theorem mp_X4_goBack : mpOk M_X4_goBack 1 := ⟨by decide +kernel, by decide +kernel, by decide +kernel⟩
theorem mv_X4_goBack : mvOk M_X4_goBack := ⟨tk4 (i := 182) (by decide +kernel) rfl, tk4 (i := 183) (by decide +kernel) rfl, tk1 (i := 1) (by decide +kernel) rfl, tk4 (i := 184) rfl rfl⟩
def M_L_goBack : MM := (yL_goBack, cL_goBack, 3, some .int, [(0, 5, 8, 15), (0, 5, 11, 17)], 8, 129, 2, 12)
theorem mp_L_goBack : mpOk M_L_goBack 2 := ⟨by decide +kernel, by decide +kernel, by decide +kernel⟩
theorem ms_L_goBack : msOk M_L_goBack := ⟨tk4 (i := 179) (by decide +kernel) rfl, tk1 (i := 0) (by decide +kernel) rfl, tk4 (i := 180) rfl rfl⟩
def M_X3_hasSignature : MM := (yX3_hasSignature, cX3_hasSignature, 4, some .boolean, [], 1, 21, 0, 0)
theorem mp_X3_hasSignature : mpOk M_X3_hasSignature 3 := ⟨by decide +kernel, by decide +kernel, by decide +kernel⟩
theorem mv_X3_hasSignature : mvOk M_X3_hasSignature := ⟨tk2 (i := 234) (by decide +kernel) rfl, tk2 (i := 235) (by decide +kernel) rfl, tk1 (i := 2) (by decide +kernel) rfl, tk2 (i := 236) rfl rfl⟩
def M_X4_hasSigned : MM := (yX4_hasSigned, cX4_hasSigned, 4, some .boolean, [], 7, 106, 3, 18)
theorem mp_X4_hasSigned : mpOk M_X4_hasSigned 3 := ⟨by decide +kernel, by decide +kernel, by decide +kernel⟩
theorem mv_X4_hasSigned : mvOk M_X4_hasSigned := ⟨tk5 (i := 134) (by decide +kernel) rfl, tk5 (i := 135) (by decide +kernel) rfl, tk1 (i := 1) (by decide +kernel) rfl, tk5 (i := 136) rfl rfl⟩
def M_L_hasSigned : MM := (yL_hasSigned, cL_hasSigned, 6, some .int, [(0, 19, 22, 13)], 8, 129, 3, 18)
theorem mp_L_hasSigned : mpOk M_L_hasSigned 5 := ⟨by decide +kernel, by decide +kernel, by decide +kernel⟩
theorem ms_L_hasSigned : msOk M_L_hasSigned := ⟨tk5 (i := 131) (by decide +kernel) rfl, tk1 (i := 0) (by decide +kernel) rfl, tk5 (i := 132) rfl rfl⟩
def M_X3_hundredthsAt : MM := (yX3_hundredthsAt, cX3_hundredthsAt, 4, some .int, [], 2, 43, 0, 0)
theorem mp_X3_hundredthsAt : mpOk M_X3_hundredthsAt 2 := ⟨by decide +kernel, by decide +kernel, by decide +kernel⟩
theorem mv_X3_hundredthsAt : mvOk M_X3_hundredthsAt := ⟨tk2 (i := 137) (by decide +kernel) rfl, tk2 (i := 138) (by decide +kernel) rfl, tk1 (i := 2) (by decide +kernel) rfl, tk2 (i := 139) rfl rfl⟩
def M_X4_hundredthsOf : MM := (yX4_hundredthsOf, cX4_hundredthsOf, 3, some .int, [], 8, 129, 3, 18)
theorem mp_X4_hundredthsOf : mpOk M_X4_hundredthsOf 2 := ⟨by decide +kernel, by decide +kernel, by decide +kernel⟩
theorem mv_X4_hundredthsOf : mvOk M_X4_hundredthsOf := ⟨tk5 (i := 45) (by decide +kernel) rfl, tk5 (i := 46) (by decide +kernel) rfl, tk1 (i := 1) (by decide +kernel) rfl, tk5 (i := 47) rfl rfl⟩
def M_L_hundredthsOf : MM := (yL_hundredthsOf, cL_hundredthsOf, 5, some .int, [(0, 10, 13, 13), (0, 10, 17, 17)], 9, 151, 3, 18)
theorem mp_L_hundredthsOf : mpOk M_L_hundredthsOf 4 := ⟨by decide +kernel, by decide +kernel, by decide +kernel⟩
theorem ms_L_hundredthsOf : msOk M_L_hundredthsOf := ⟨tk5 (i := 42) (by decide +kernel) rfl, tk1 (i := 0) (by decide +kernel) rfl, tk5 (i := 43) rfl rfl⟩
def M_X3_isWholeReel : MM := (yX3_isWholeReel, cX3_isWholeReel, 4, some .boolean, [], 3, 65, 0, 0)
theorem mp_X3_isWholeReel : mpOk M_X3_isWholeReel 2 := ⟨by decide +kernel, by decide +kernel, by decide +kernel⟩
theorem mv_X3_isWholeReel : mvOk M_X3_isWholeReel := ⟨tk2 (i := 207) (by decide +kernel) rfl, tk2 (i := 208) (by decide +kernel) rfl, tk1 (i := 2) (by decide +kernel) rfl, tk2 (i := 209) rfl rfl⟩
def M_X4_isComplete : MM := (yX4_isComplete, cX4_isComplete, 3, some .boolean, [], 7, 106, 2, 12)
theorem mp_X4_isComplete : mpOk M_X4_isComplete 2 := ⟨by decide +kernel, by decide +kernel, by decide +kernel⟩
theorem mv_X4_isComplete : mvOk M_X4_isComplete := ⟨tk5 (i := 120) (by decide +kernel) rfl, tk5 (i := 121) (by decide +kernel) rfl, tk1 (i := 1) (by decide +kernel) rfl, tk5 (i := 122) rfl rfl⟩
def M_L_isComplete : MM := (yL_isComplete, cL_isComplete, 5, some .int, [(0, 17, 20, 13)], 8, 128, 2, 12)
theorem mp_L_isComplete : mpOk M_L_isComplete 4 := ⟨by decide +kernel, by decide +kernel, by decide +kernel⟩
theorem ms_L_isComplete : msOk M_L_isComplete := ⟨tk5 (i := 117) (by decide +kernel) rfl, tk1 (i := 0) (by decide +kernel) rfl, tk5 (i := 118) rfl rfl⟩
def M_X3_hasMix : MM := (yX3_hasMix, cX3_hasMix, 3, some .boolean, [], 1, 21, 0, 0)
theorem mp_X3_hasMix : mpOk M_X3_hasMix 2 := ⟨by decide +kernel, by decide +kernel, by decide +kernel⟩
theorem mv_X3_hasMix : mvOk M_X3_hasMix := ⟨tk2 (i := 212) (by decide +kernel) rfl, tk2 (i := 213) (by decide +kernel) rfl, tk1 (i := 2) (by decide +kernel) rfl, tk2 (i := 214) rfl rfl⟩
def M_X4_isMixed : MM := (yX4_isMixed, cX4_isMixed, 3, some .boolean, [], 7, 106, 2, 12)
theorem mp_X4_isMixed : mpOk M_X4_isMixed 2 := ⟨by decide +kernel, by decide +kernel, by decide +kernel⟩
theorem mv_X4_isMixed : mvOk M_X4_isMixed := ⟨tk5 (i := 127) (by decide +kernel) rfl, tk5 (i := 128) (by decide +kernel) rfl, tk1 (i := 1) (by decide +kernel) rfl, tk5 (i := 129) rfl rfl⟩
def M_L_isMixed : MM := (yL_isMixed, cL_isMixed, 5, some .int, [(0, 17, 20, 13)], 8, 128, 2, 12)
theorem mp_L_isMixed : mpOk M_L_isMixed 4 := ⟨by decide +kernel, by decide +kernel, by decide +kernel⟩
theorem ms_L_isMixed : msOk M_L_isMixed := ⟨tk5 (i := 124) (by decide +kernel) rfl, tk1 (i := 0) (by decide +kernel) rfl, tk5 (i := 125) rfl rfl⟩
def M_X3_isHeardIn : MM := (yX3_isHeardIn, cX3_isHeardIn, 4, some .boolean, [], 2, 42, 0, 0)
theorem mp_X3_isHeardIn : mpOk M_X3_isHeardIn 2 := ⟨by decide +kernel, by decide +kernel, by decide +kernel⟩
theorem mv_X3_isHeardIn : mvOk M_X3_isHeardIn := ⟨tk2 (i := 230) (by decide +kernel) rfl, tk2 (i := 231) (by decide +kernel) rfl, tk1 (i := 2) (by decide +kernel) rfl, tk2 (i := 232) rfl rfl⟩
def M_X3_signaturesMissing : MM := (yX3_signaturesMissing, cX3_signaturesMissing, 5, some .int, [], 3, 65, 0, 0)
theorem mp_X3_signaturesMissing : mpOk M_X3_signaturesMissing 2 := ⟨by decide +kernel, by decide +kernel, by decide +kernel⟩
theorem mv_X3_signaturesMissing : mvOk M_X3_signaturesMissing := ⟨tk2 (i := 226) (by decide +kernel) rfl, tk2 (i := 227) (by decide +kernel) rfl, tk1 (i := 2) (by decide +kernel) rfl, tk2 (i := 228) rfl rfl⟩
def M_X3_hasRatification : MM := (yX3_hasRatification, cX3_hasRatification, 4, some .boolean, [], 4, 89, 0, 0)
theorem mp_X3_hasRatification : mpOk M_X3_hasRatification 1 := ⟨by decide +kernel, by decide +kernel, by decide +kernel⟩
theorem mv_X3_hasRatification : mvOk M_X3_hasRatification := ⟨tk3 (i := 20) (by decide +kernel) rfl, tk3 (i := 21) (by decide +kernel) rfl, tk1 (i := 2) (by decide +kernel) rfl, tk3 (i := 22) rfl rfl⟩
def M_X4_isRatified : MM := (yX4_isRatified, cX4_isRatified, 2, some .boolean, [], 7, 112, 1, 6)
theorem mp_X4_isRatified : mpOk M_X4_isRatified 1 := ⟨by decide +kernel, by decide +kernel, by decide +kernel⟩
theorem mv_X4_isRatified : mvOk M_X4_isRatified := ⟨tk5 (i := 183) (by decide +kernel) rfl, tk5 (i := 184) (by decide +kernel) rfl, tk1 (i := 1) (by decide +kernel) rfl, tk5 (i := 185) rfl rfl⟩
def M_L_isRatified : MM := (yL_isRatified, cL_isRatified, 4, some .int, [(0, 16, 19, 13)], 8, 133, 1, 6)
end XM21
