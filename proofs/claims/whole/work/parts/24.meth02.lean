/-! the methods: their rows, and what the tables say of them -/
section XM22
def M_X4_cast : MM := (yX4_cast, cX4_cast, 5, some .int, [], 8, 127, 4, 24)
theorem mp_X4_cast : mpOk M_X4_cast 3 := ⟨by decide +kernel, by decide +kernel, by decide +kernel⟩
theorem mv_X4_cast : mvOk M_X4_cast := ⟨tk4 (i := 53) (by decide +kernel) rfl, tk4 (i := 54) (by decide +kernel) rfl, tk1 (i := 1) (by decide +kernel) rfl, tk4 (i := 55) (by decide +kernel) rfl⟩
def M_L_cast : MM := (yL_cast, cL_cast, 6, some .int, [(0, 12, 15, 13), (0, 12, 19, 15), (0, 12, 23, 17)], 9, 151, 4, 24)
theorem mp_L_cast : mpOk M_L_cast 5 := ⟨by decide +kernel, by decide +kernel, by decide +kernel⟩
theorem ms_L_cast : msOk M_L_cast := ⟨tk4 (i := 50) (by decide +kernel) rfl, tk1 (i := 0) (by decide +kernel) rfl, tk4 (i := 51) (by decide +kernel) rfl⟩
def M_X3_isRecordedAnywhere : MM := (yX3_isRecordedAnywhere, cX3_isRecordedAnywhere, 3, some .boolean, [], 2, 43, 0, 0)
theorem mp_X3_isRecordedAnywhere : mpOk M_X3_isRecordedAnywhere 1 := ⟨by decide +kernel, by decide +kernel, by decide +kernel⟩
theorem mv_X3_isRecordedAnywhere : mvOk M_X3_isRecordedAnywhere := ⟨tk3 (i := 226) (by decide +kernel) rfl, tk3 (i := 227) (by decide +kernel) rfl, tk1 (i := 2) (by decide +kernel) rfl, tk3 (i := 228) (by decide +kernel) rfl⟩
def M_X3_sighAt : MM := (yX3_sighAt, cX3_sighAt, 2, some .int, [], 1, 21, 0, 0)
theorem mp_X3_sighAt : mpOk M_X3_sighAt 1 := ⟨by decide +kernel, by decide +kernel, by decide +kernel⟩
theorem mv_X3_sighAt : mvOk M_X3_sighAt := ⟨tk2 (i := 76) (by decide +kernel) rfl, tk2 (i := 77) (by decide +kernel) rfl, tk1 (i := 2) (by decide +kernel) rfl, tk2 (i := 78) (by decide +kernel) rfl⟩
def M_X3_lipsAt : MM := (yX3_lipsAt, cX3_lipsAt, 2, some .int, [], 1, 21, 0, 0)
theorem mp_X3_lipsAt : mpOk M_X3_lipsAt 1 := ⟨by decide +kernel, by decide +kernel, by decide +kernel⟩
theorem mv_X3_lipsAt : mvOk M_X3_lipsAt := ⟨tk2 (i := 53) (by decide +kernel) rfl, tk2 (i := 54) (by decide +kernel) rfl, tk1 (i := 2) (by decide +kernel) rfl, tk2 (i := 55) (by decide +kernel) rfl⟩
def M_X4_changeLips : MM := (yX4_changeLips, cX4_changeLips, 4, some .int, [], 7, 108, 3, 18)
theorem mp_X4_changeLips : mpOk M_X4_changeLips 2 := ⟨by decide +kernel, by decide +kernel, by decide +kernel⟩
theorem mv_X4_changeLips : mvOk M_X4_changeLips := ⟨tk3 (i := 217) (by decide +kernel) rfl, tk3 (i := 218) (by decide +kernel) rfl, tk1 (i := 1) (by decide +kernel) rfl, tk3 (i := 219) (by decide +kernel) rfl⟩
def M_L_changeLips : MM := (yL_changeLips, cL_changeLips, 5, some .int, [(0, 10, 13, 13), (0, 10, 17, 15), (0, 10, 21, 17)], 8, 131, 3, 18)
theorem mp_L_changeLips : mpOk M_L_changeLips 4 := ⟨by decide +kernel, by decide +kernel, by decide +kernel⟩
theorem ms_L_changeLips : msOk M_L_changeLips := ⟨tk3 (i := 214) (by decide +kernel) rfl, tk1 (i := 0) (by decide +kernel) rfl, tk3 (i := 215) (by decide +kernel) rfl⟩
def M_X4_changeSigh : MM := (yX4_changeSigh, cX4_changeSigh, 4, some .int, [], 7, 108, 3, 18)
theorem mp_X4_changeSigh : mpOk M_X4_changeSigh 2 := ⟨by decide +kernel, by decide +kernel, by decide +kernel⟩
theorem mv_X4_changeSigh : mvOk M_X4_changeSigh := ⟨tk3 (i := 235) (by decide +kernel) rfl, tk3 (i := 236) (by decide +kernel) rfl, tk1 (i := 1) (by decide +kernel) rfl, tk3 (i := 237) (by decide +kernel) rfl⟩
def M_L_changeSigh : MM := (yL_changeSigh, cL_changeSigh, 5, some .int, [(0, 10, 13, 13), (0, 10, 17, 15), (0, 10, 21, 17)], 8, 131, 3, 18)
theorem mp_L_changeSigh : mpOk M_L_changeSigh 4 := ⟨by decide +kernel, by decide +kernel, by decide +kernel⟩
theorem ms_L_changeSigh : msOk M_L_changeSigh := ⟨tk3 (i := 232) (by decide +kernel) rfl, tk1 (i := 0) (by decide +kernel) rfl, tk3 (i := 233) (by decide +kernel) rfl⟩
def M_X3_reelAt : MM := (yX3_reelAt, cX3_reelAt, 2, some .int, [], 1, 21, 0, 0)
theorem mp_X3_reelAt : mpOk M_X3_reelAt 1 := ⟨by decide +kernel, by decide +kernel, by decide +kernel⟩
theorem mv_X3_reelAt : mvOk M_X3_reelAt := ⟨tk2 (i := 70) (by decide +kernel) rfl, tk2 (i := 71) (by decide +kernel) rfl, tk1 (i := 2) (by decide +kernel) rfl, tk2 (i := 72) (by decide +kernel) rfl⟩
def M_X3_clausesOn : MM := (yX3_clausesOn, cX3_clausesOn, 4, some .int, [], 2, 42, 0, 0)
theorem mp_X3_clausesOn : mpOk M_X3_clausesOn 1 := ⟨by decide +kernel, by decide +kernel, by decide +kernel⟩
theorem mv_X3_clausesOn : mvOk M_X3_clausesOn := ⟨tk2 (i := 198) (by decide +kernel) rfl, tk2 (i := 199) (by decide +kernel) rfl, tk1 (i := 2) (by decide +kernel) rfl, tk2 (i := 200) (by decide +kernel) rfl⟩
def M_X4_clausesIn : MM := (yX4_clausesIn, cX4_clausesIn, 2, some .int, [], 7, 106, 1, 6)
theorem mp_X4_clausesIn : mpOk M_X4_clausesIn 1 := ⟨by decide +kernel, by decide +kernel, by decide +kernel⟩
theorem mv_X4_clausesIn : mvOk M_X4_clausesIn := ⟨tk5 (i := 99) (by decide +kernel) rfl, tk5 (i := 100) (by decide +kernel) rfl, tk1 (i := 1) (by decide +kernel) rfl, tk5 (i := 101) (by decide +kernel) rfl⟩
def M_L_clausesIn : MM := (yL_clausesIn, cL_clausesIn, 4, some .int, [(0, 9, 12, 13)], 8, 127, 1, 6)
theorem mp_L_clausesIn : mpOk M_L_clausesIn 3 := ⟨by decide +kernel, by decide +kernel, by decide +kernel⟩
theorem ms_L_clausesIn : msOk M_L_clausesIn := ⟨tk5 (i := 96) (by decide +kernel) rfl, tk1 (i := 0) (by decide +kernel) rfl, tk5 (i := 97) (by decide +kernel) rfl⟩
def M_X3_hasFit : MM := (yX3_hasFit, cX3_hasFit, 4, some .boolean, [], 1, 21, 0, 0)
theorem mp_X3_hasFit : mpOk M_X3_hasFit 2 := ⟨by decide +kernel, by decide +kernel, by decide +kernel⟩
theorem mv_X3_hasFit : mvOk M_X3_hasFit := ⟨tk2 (i := 112) (by decide +kernel) rfl, tk2 (i := 113) (by decide +kernel) rfl, tk1 (i := 2) (by decide +kernel) rfl, tk2 (i := 114) (by decide +kernel) rfl⟩
def M_X4_fits : MM := (yX4_fits, cX4_fits, 3, some .boolean, [], 8, 129, 2, 12)
theorem mp_X4_fits : mpOk M_X4_fits 2 := ⟨by decide +kernel, by decide +kernel, by decide +kernel⟩
theorem mv_X4_fits : mvOk M_X4_fits := ⟨tk5 (i := 37) (by decide +kernel) rfl, tk5 (i := 38) (by decide +kernel) rfl, tk1 (i := 1) (by decide +kernel) rfl, tk5 (i := 39) (by decide +kernel) rfl⟩
def M_L_fits : MM := (yL_fits, cL_fits, 5, some .int, [(0, 17, 20, 13)], 9, 151, 2, 12)
theorem mp_L_fits : mpOk M_L_fits 4 := ⟨by decide +kernel, by decide +kernel, by decide +kernel⟩
theorem ms_L_fits : msOk M_L_fits := ⟨tk5 (i := 34) (by decide +kernel) rfl, tk1 (i := 0) (by decide +kernel) rfl, tk5 (i := 35) (by decide +kernel) rfl⟩
def M_X4_checkTranslated : MM := (yX4_checkTranslated, cX4_checkTranslated, 3, none, [], 6, 86, 1, 6)
theorem mp_X4_checkTranslated : mpOk M_X4_checkTranslated 2 := ⟨by decide +kernel, by decide +kernel, by decide +kernel⟩
theorem mv_X4_checkTranslated : mvOk M_X4_checkTranslated := ⟨tk5 (i := 2) (by decide +kernel) rfl, pk (q := (yX4_checkTranslated, 6)) (List.mem_of_getElem? (i := 24) (by decide +kernel)), tk1 (i := 1) (by decide +kernel) rfl, tk5 (i := 3) (by decide +kernel) rfl⟩
def M_X4_framesOf : MM := (yX4_framesOf, cX4_framesOf, 3, some .int, [], 8, 129, 3, 18)
theorem mp_X4_framesOf : mpOk M_X4_framesOf 2 := ⟨by decide +kernel, by decide +kernel, by decide +kernel⟩
theorem mv_X4_framesOf : mvOk M_X4_framesOf := ⟨tk4 (i := 237) (by decide +kernel) rfl, tk4 (i := 238) (by decide +kernel) rfl, tk1 (i := 1) (by decide +kernel) rfl, tk4 (i := 239) (by decide +kernel) rfl⟩
def M_L_framesOf : MM := (yL_framesOf, cL_framesOf, 5, some .int, [(0, 10, 13, 13), (0, 10, 17, 17)], 9, 151, 3, 18)
theorem mp_L_framesOf : mpOk M_L_framesOf 4 := ⟨by decide +kernel, by decide +kernel, by decide +kernel⟩
theorem ms_L_framesOf : msOk M_L_framesOf := ⟨tk4 (i := 234) (by decide +kernel) rfl, tk1 (i := 0) (by decide +kernel) rfl, tk4 (i := 235) (by decide +kernel) rfl⟩
def M_X3_speakerAt : MM := (yX3_speakerAt, cX3_speakerAt, 2, some .int, [], 1, 21, 0, 0)
theorem mp_X3_speakerAt : mpOk M_X3_speakerAt 1 := ⟨by decide +kernel, by decide +kernel, by decide +kernel⟩
theorem mv_X3_speakerAt : mvOk M_X3_speakerAt := ⟨tk2 (i := 49) (by decide +kernel) rfl, tk2 (i := 50) (by decide +kernel) rfl, tk1 (i := 2) (by decide +kernel) rfl, tk2 (i := 51) (by decide +kernel) rfl⟩
def M_X3_spokenAt : MM := (yX3_spokenAt, cX3_spokenAt, 3, some .int, [], 1, 21, 0, 0)
theorem mp_X3_spokenAt : mpOk M_X3_spokenAt 2 := ⟨by decide +kernel, by decide +kernel, by decide +kernel⟩
theorem mv_X3_spokenAt : mvOk M_X3_spokenAt := ⟨tk2 (i := 128) (by decide +kernel) rfl, tk2 (i := 129) (by decide +kernel) rfl, tk1 (i := 2) (by decide +kernel) rfl, tk2 (i := 130) (by decide +kernel) rfl⟩
def M_X3_takenFramesOf : MM := (yX3_takenFramesOf, cX3_takenFramesOf, 5, some .int, [], 2, 43, 0, 0)
theorem mp_X3_takenFramesOf : mpOk M_X3_takenFramesOf 2 := ⟨by decide +kernel, by decide +kernel, by decide +kernel⟩
theorem mv_X3_takenFramesOf : mvOk M_X3_takenFramesOf := ⟨tk2 (i := 155) (by decide +kernel) rfl, tk2 (i := 156) (by decide +kernel) rfl, tk1 (i := 2) (by decide +kernel) rfl, tk2 (i := 157) (by decide +kernel) rfl⟩
end XM22
