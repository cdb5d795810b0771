/-! the methods: their rows, and what the tables say of them -/
section XM23
def M_X4_framesOfVoice : MM := (yX4_framesOfVoice, cX4_framesOfVoice, 3, some .int, [], 8, 127, 2, 12)
theorem mp_X4_framesOfVoice : mpOk M_X4_framesOfVoice 2 := ⟨by decide +kernel, by decide +kernel, by decide +kernel⟩
theorem mv_X4_framesOfVoice : mvOk M_X4_framesOfVoice := ⟨tk5 (i := 73) (by decide +kernel) rfl, tk5 (i := 74) (by decide +kernel) rfl, tk1 (i := 1) (by decide +kernel) rfl, tk5 (i := 75) (by decide +kernel) rfl⟩
def M_L_framesOfVoice : MM := (yL_framesOfVoice, cL_framesOfVoice, 5, some .int, [(0, 10, 13, 13)], 9, 149, 2, 12)
theorem mp_L_framesOfVoice : mpOk M_L_framesOfVoice 4 := ⟨by decide +kernel, by decide +kernel, by decide +kernel⟩
theorem ms_L_framesOfVoice : msOk M_L_framesOfVoice := ⟨tk5 (i := 70) (by decide +kernel) rfl, tk1 (i := 0) (by decide +kernel) rfl, tk5 (i := 71) (by decide +kernel) rfl⟩
def M_X4_hasSnapshot : MM := (yX4_hasSnapshot, cX4_hasSnapshot, 2, some .boolean, [], 0, 0, 0, 0)
theorem mp_X4_hasSnapshot : mpOk M_X4_hasSnapshot 1 := ⟨by decide +kernel, by decide +kernel, by decide +kernel⟩
theorem mv_X4_hasSnapshot : mvOk M_X4_hasSnapshot := ⟨tk3 (i := 51) (by decide +kernel) rfl, pk (q := (yX4_hasSnapshot, 6)) (List.mem_of_getElem? (i := 16) (by decide +kernel)), tk1 (i := 1) (by decide +kernel) rfl, tk3 (i := 52) (by decide +kernel) rfl⟩
def M_X4_goBack : MM := (yX4_goBack, cX4_goBack, 2, none, [], 7, 108, 2, 12)
theorem mp_X4_goBack : mpOk M_X4_goBack 1 := ⟨by decide +kernel, by decide +kernel, by decide +kernel⟩
theorem mv_X4_goBack : mvOk M_X4_goBack := ⟨tk4 (i := 182) (by decide +kernel) rfl, tk4 (i := 183) (by decide +kernel) rfl, tk1 (i := 1) (by decide +kernel) rfl, tk4 (i := 184) (by decide +kernel) rfl⟩
def M_L_goBack : MM := (yL_goBack, cL_goBack, 3, some .int, [(0, 5, 8, 15), (0, 5, 11, 17)], 8, 129, 2, 12)
theorem mp_L_goBack : mpOk M_L_goBack 2 := ⟨by decide +kernel, by decide +kernel, by decide +kernel⟩
theorem ms_L_goBack : msOk M_L_goBack := ⟨tk4 (i := 179) (by decide +kernel) rfl, tk1 (i := 0) (by decide +kernel) rfl, tk4 (i := 180) (by decide +kernel) rfl⟩
def M_X3_hasSignature : MM := (yX3_hasSignature, cX3_hasSignature, 4, some .boolean, [], 1, 21, 0, 0)
theorem mp_X3_hasSignature : mpOk M_X3_hasSignature 3 := ⟨by decide +kernel, by decide +kernel, by decide +kernel⟩
theorem mv_X3_hasSignature : mvOk M_X3_hasSignature := ⟨tk2 (i := 234) (by decide +kernel) rfl, tk2 (i := 235) (by decide +kernel) rfl, tk1 (i := 2) (by decide +kernel) rfl, tk2 (i := 236) (by decide +kernel) rfl⟩
def M_X4_hasSigned : MM := (yX4_hasSigned, cX4_hasSigned, 4, some .boolean, [], 7, 106, 3, 18)
theorem mp_X4_hasSigned : mpOk M_X4_hasSigned 3 := ⟨by decide +kernel, by decide +kernel, by decide +kernel⟩
theorem mv_X4_hasSigned : mvOk M_X4_hasSigned := ⟨tk5 (i := 134) (by decide +kernel) rfl, tk5 (i := 135) (by decide +kernel) rfl, tk1 (i := 1) (by decide +kernel) rfl, tk5 (i := 136) (by decide +kernel) rfl⟩
def M_L_hasSigned : MM := (yL_hasSigned, cL_hasSigned, 6, some .int, [(0, 19, 22, 13)], 8, 129, 3, 18)
theorem mp_L_hasSigned : mpOk M_L_hasSigned 5 := ⟨by decide +kernel, by decide +kernel, by decide +kernel⟩
theorem ms_L_hasSigned : msOk M_L_hasSigned := ⟨tk5 (i := 131) (by decide +kernel) rfl, tk1 (i := 0) (by decide +kernel) rfl, tk5 (i := 132) (by decide +kernel) rfl⟩
def M_X3_hundredthsAt : MM := (yX3_hundredthsAt, cX3_hundredthsAt, 4, some .int, [], 2, 43, 0, 0)
theorem mp_X3_hundredthsAt : mpOk M_X3_hundredthsAt 2 := ⟨by decide +kernel, by decide +kernel, by decide +kernel⟩
theorem mv_X3_hundredthsAt : mvOk M_X3_hundredthsAt := ⟨tk2 (i := 137) (by decide +kernel) rfl, tk2 (i := 138) (by decide +kernel) rfl, tk1 (i := 2) (by decide +kernel) rfl, tk2 (i := 139) (by decide +kernel) rfl⟩
def M_X4_hundredthsOf : MM := (yX4_hundredthsOf, cX4_hundredthsOf, 3, some .int, [], 8, 129, 3, 18)
theorem mp_X4_hundredthsOf : mpOk M_X4_hundredthsOf 2 := ⟨by decide +kernel, by decide +kernel, by decide +kernel⟩
theorem mv_X4_hundredthsOf : mvOk M_X4_hundredthsOf := ⟨tk5 (i := 45) (by decide +kernel) rfl, tk5 (i := 46) (by decide +kernel) rfl, tk1 (i := 1) (by decide +kernel) rfl, tk5 (i := 47) (by decide +kernel) rfl⟩
def M_L_hundredthsOf : MM := (yL_hundredthsOf, cL_hundredthsOf, 5, some .int, [(0, 10, 13, 13), (0, 10, 17, 17)], 9, 151, 3, 18)
theorem mp_L_hundredthsOf : mpOk M_L_hundredthsOf 4 := ⟨by decide +kernel, by decide +kernel, by decide +kernel⟩
theorem ms_L_hundredthsOf : msOk M_L_hundredthsOf := ⟨tk5 (i := 42) (by decide +kernel) rfl, tk1 (i := 0) (by decide +kernel) rfl, tk5 (i := 43) (by decide +kernel) rfl⟩
def M_X3_isWholeReel : MM := (yX3_isWholeReel, cX3_isWholeReel, 4, some .boolean, [], 3, 65, 0, 0)
theorem mp_X3_isWholeReel : mpOk M_X3_isWholeReel 2 := ⟨by decide +kernel, by decide +kernel, by decide +kernel⟩
theorem mv_X3_isWholeReel : mvOk M_X3_isWholeReel := ⟨tk2 (i := 207) (by decide +kernel) rfl, tk2 (i := 208) (by decide +kernel) rfl, tk1 (i := 2) (by decide +kernel) rfl, tk2 (i := 209) (by decide +kernel) rfl⟩
def M_X4_isComplete : MM := (yX4_isComplete, cX4_isComplete, 3, some .boolean, [], 7, 106, 2, 12)
theorem mp_X4_isComplete : mpOk M_X4_isComplete 2 := ⟨by decide +kernel, by decide +kernel, by decide +kernel⟩
theorem mv_X4_isComplete : mvOk M_X4_isComplete := ⟨tk5 (i := 120) (by decide +kernel) rfl, tk5 (i := 121) (by decide +kernel) rfl, tk1 (i := 1) (by decide +kernel) rfl, tk5 (i := 122) (by decide +kernel) rfl⟩
def M_L_isComplete : MM := (yL_isComplete, cL_isComplete, 5, some .int, [(0, 17, 20, 13)], 8, 128, 2, 12)
theorem mp_L_isComplete : mpOk M_L_isComplete 4 := ⟨by decide +kernel, by decide +kernel, by decide +kernel⟩
theorem ms_L_isComplete : msOk M_L_isComplete := ⟨tk5 (i := 117) (by decide +kernel) rfl, tk1 (i := 0) (by decide +kernel) rfl, tk5 (i := 118) (by decide +kernel) rfl⟩
def M_X3_hasMix : MM := (yX3_hasMix, cX3_hasMix, 3, some .boolean, [], 1, 21, 0, 0)
theorem mp_X3_hasMix : mpOk M_X3_hasMix 2 := ⟨by decide +kernel, by decide +kernel, by decide +kernel⟩
theorem mv_X3_hasMix : mvOk M_X3_hasMix := ⟨tk2 (i := 212) (by decide +kernel) rfl, tk2 (i := 213) (by decide +kernel) rfl, tk1 (i := 2) (by decide +kernel) rfl, tk2 (i := 214) (by decide +kernel) rfl⟩
def M_X4_isMixed : MM := (yX4_isMixed, cX4_isMixed, 3, some .boolean, [], 7, 106, 2, 12)
theorem mp_X4_isMixed : mpOk M_X4_isMixed 2 := ⟨by decide +kernel, by decide +kernel, by decide +kernel⟩
theorem mv_X4_isMixed : mvOk M_X4_isMixed := ⟨tk5 (i := 127) (by decide +kernel) rfl, tk5 (i := 128) (by decide +kernel) rfl, tk1 (i := 1) (by decide +kernel) rfl, tk5 (i := 129) (by decide +kernel) rfl⟩
def M_L_isMixed : MM := (yL_isMixed, cL_isMixed, 5, some .int, [(0, 17, 20, 13)], 8, 128, 2, 12)
theorem mp_L_isMixed : mpOk M_L_isMixed 4 := ⟨by decide +kernel, by decide +kernel, by decide +kernel⟩
theorem ms_L_isMixed : msOk M_L_isMixed := ⟨tk5 (i := 124) (by decide +kernel) rfl, tk1 (i := 0) (by decide +kernel) rfl, tk5 (i := 125) (by decide +kernel) rfl⟩
def M_X3_isHeardIn : MM := (yX3_isHeardIn, cX3_isHeardIn, 4, some .boolean, [], 2, 42, 0, 0)
theorem mp_X3_isHeardIn : mpOk M_X3_isHeardIn 2 := ⟨by decide +kernel, by decide +kernel, by decide +kernel⟩
theorem mv_X3_isHeardIn : mvOk M_X3_isHeardIn := ⟨tk2 (i := 230) (by decide +kernel) rfl, tk2 (i := 231) (by decide +kernel) rfl, tk1 (i := 2) (by decide +kernel) rfl, tk2 (i := 232) (by decide +kernel) rfl⟩
def M_X3_signaturesMissing : MM := (yX3_signaturesMissing, cX3_signaturesMissing, 5, some .int, [], 3, 65, 0, 0)
theorem mp_X3_signaturesMissing : mpOk M_X3_signaturesMissing 2 := ⟨by decide +kernel, by decide +kernel, by decide +kernel⟩
theorem mv_X3_signaturesMissing : mvOk M_X3_signaturesMissing := ⟨tk2 (i := 226) (by decide +kernel) rfl, tk2 (i := 227) (by decide +kernel) rfl, tk1 (i := 2) (by decide +kernel) rfl, tk2 (i := 228) (by decide +kernel) rfl⟩
def M_X3_hasRatification : MM := (yX3_hasRatification, cX3_hasRatification, 4, some .boolean, [], 4, 89, 0, 0)
theorem mp_X3_hasRatification : mpOk M_X3_hasRatification 1 := ⟨by decide +kernel, by decide +kernel, by decide +kernel⟩
theorem mv_X3_hasRatification : mvOk M_X3_hasRatification := ⟨tk3 (i := 20) (by decide +kernel) rfl, tk3 (i := 21) (by decide +kernel) rfl, tk1 (i := 2) (by decide +kernel) rfl, tk3 (i := 22) (by decide +kernel) rfl⟩
def M_X4_isRatified : MM := (yX4_isRatified, cX4_isRatified, 2, some .boolean, [], 7, 112, 1, 6)
theorem mp_X4_isRatified : mpOk M_X4_isRatified 1 := ⟨by decide +kernel, by decide +kernel, by decide +kernel⟩
theorem mv_X4_isRatified : mvOk M_X4_isRatified := ⟨tk5 (i := 183) (by decide +kernel) rfl, tk5 (i := 184) (by decide +kernel) rfl, tk1 (i := 1) (by decide +kernel) rfl, tk5 (i := 185) (by decide +kernel) rfl⟩
def M_L_isRatified : MM := (yL_isRatified, cL_isRatified, 4, some .int, [(0, 16, 19, 13)], 8, 133, 1, 6)
theorem mp_L_isRatified : mpOk M_L_isRatified 3 := ⟨by decide +kernel, by decide +kernel, by decide +kernel⟩
theorem ms_L_isRatified : msOk M_L_isRatified := ⟨tk5 (i := 180) (by decide +kernel) rfl, tk1 (i := 0) (by decide +kernel) rfl, tk5 (i := 181) (by decide +kernel) rfl⟩
end XM23
