/-! the methods: their rows, and what the tables say of them -/
section XM24
theorem mv_X4_fits : mvOk M_X4_fits := ⟨tk5 (i := 65) (by decide +kernel) rfl, tk5 (i := 66) (by decide +kernel) rfl, tk1 (i := 1) (by decide +kernel) rfl, tk5 (i := 67) rfl rfl⟩
def M_L_fits : MM := (yL_fits, cL_fits, 4, some .int, [(0, 14, 15, 15)], 9, 151, 2, 12)
theorem mp_L_fits : mpOk M_L_fits 3 := ⟨by decide +kernel, by decide +kernel, by decide +kernel⟩
theorem ms_L_fits : msOk M_L_fits := ⟨tk5 (i := 62) (by decide +kernel) rfl, tk1 (i := 0) (by decide +kernel) rfl, tk5 (i := 63) rfl rfl⟩
def M_X4_checkTranslated : MM := (yX4_checkTranslated, cX4_checkTranslated, 3, none, [], 6, 86, 1, 6)
theorem mp_X4_checkTranslated : mpOk M_X4_checkTranslated 2 := ⟨by decide +kernel, by decide +kernel, by decide +kernel⟩
theorem mv_X4_checkTranslated : mvOk M_X4_checkTranslated := ⟨tk5 (i := 22) (by decide +kernel) rfl, pk (q := (yX4_checkTranslated, 6)) (List.mem_of_getElem? (i := 24) (by decide +kernel)), tk1 (i := 1) (by decide +kernel) rfl, tk5 (i := 23) rfl rfl⟩
def M_X4_framesOf : MM := (yX4_framesOf, cX4_framesOf, 3, some .int, [], 8, 129, 3, 18)
theorem mp_X4_framesOf : mpOk M_X4_framesOf 2 := ⟨by decide +kernel, by decide +kernel, by decide +kernel⟩
theorem mv_X4_framesOf : mvOk M_X4_framesOf := ⟨tk5 (i := 17) (by decide +kernel) rfl, tk5 (i := 18) (by decide +kernel) rfl, tk1 (i := 1) (by decide +kernel) rfl, tk5 (i := 19) rfl rfl⟩
def M_L_framesOf : MM := (yL_framesOf, cL_framesOf, 4, some .int, [(0, 6, 7, 15), (0, 6, 11, 19)], 9, 151, 3, 18)
theorem mp_L_framesOf : mpOk M_L_framesOf 3 := ⟨by decide +kernel, by decide +kernel, by decide +kernel⟩
theorem ms_L_framesOf : msOk M_L_framesOf := ⟨tk5 (i := 14) (by decide +kernel) rfl, tk1 (i := 0) (by decide +kernel) rfl, tk5 (i := 15) rfl rfl⟩
def M_X3_takenFramesOf : MM := (yX3_takenFramesOf, cX3_takenFramesOf, 5, some .int, [], 2, 43, 0, 0)
theorem mp_X3_takenFramesOf : mpOk M_X3_takenFramesOf 2 := ⟨by decide +kernel, by decide +kernel, by decide +kernel⟩
theorem mv_X3_takenFramesOf : mvOk M_X3_takenFramesOf := ⟨tk2 (i := 113) (by decide +kernel) rfl, tk2 (i := 114) (by decide +kernel) rfl, tk1 (i := 2) (by decide +kernel) rfl, tk2 (i := 115) rfl rfl⟩
def M_X4_framesOfVoice : MM := (yX4_framesOfVoice, cX4_framesOfVoice, 3, some .int, [], 8, 127, 2, 12)
theorem mp_X4_framesOfVoice : mpOk M_X4_framesOfVoice 2 := ⟨by decide +kernel, by decide +kernel, by decide +kernel⟩
theorem mv_X4_framesOfVoice : mvOk M_X4_framesOfVoice := ⟨tk5 (i := 127) (by decide +kernel) rfl, tk5 (i := 128) (by decide +kernel) rfl, tk1 (i := 1) (by decide +kernel) rfl, tk5 (i := 129) rfl rfl⟩
def M_L_framesOfVoice : MM := (yL_framesOfVoice, cL_framesOfVoice, 4, some .int, [(0, 6, 7, 15)], 9, 149, 2, 12)
theorem mp_L_framesOfVoice : mpOk M_L_framesOfVoice 3 := ⟨by decide +kernel, by decide +kernel, by decide +kernel⟩
theorem ms_L_framesOfVoice : msOk M_L_framesOfVoice := ⟨tk5 (i := 124) (by decide +kernel) rfl, tk1 (i := 0) (by decide +kernel) rfl, tk5 (i := 125) rfl rfl⟩
def M_X4_session : MM := (yX4_session, cX4_session, 1, some .int, [], 0, 0, 0, 0)
theorem mp_X4_session : mpOk M_X4_session 0 := ⟨by decide +kernel, by decide +kernel, by decide +kernel⟩
theorem mv_X4_session : mvOk M_X4_session := ⟨tk5 (i := 2) (by decide +kernel) rfl, tk5 (i := 3) (by decide +kernel) rfl, tk1 (i := 1) (by decide +kernel) rfl, tk5 (i := 4) rfl rfl⟩
def M_X4_savedStates : MM := (yX4_savedStates, cX4_savedStates, 1, some .int, [], 0, 0, 0, 0)
theorem mp_X4_savedStates : mpOk M_X4_savedStates 0 := ⟨by decide +kernel, by decide +kernel, by decide +kernel⟩
theorem mv_X4_savedStates : mvOk M_X4_savedStates := ⟨tk1 (i := 231) (by decide +kernel) rfl, tk1 (i := 232) (by decide +kernel) rfl, tk1 (i := 1) (by decide +kernel) rfl, tk1 (i := 233) rfl rfl⟩
def M_X3_takenTotal : MM := (yX3_takenTotal, cX3_takenTotal, 4, some .int, [], 2, 43, 0, 0)
theorem mp_X3_takenTotal : mpOk M_X3_takenTotal 1 := ⟨by decide +kernel, by decide +kernel, by decide +kernel⟩
theorem mv_X3_takenTotal : mvOk M_X3_takenTotal := ⟨tk2 (i := 205) (by decide +kernel) rfl, tk2 (i := 206) (by decide +kernel) rfl, tk1 (i := 2) (by decide +kernel) rfl, tk2 (i := 207) rfl rfl⟩
def M_X3_mostTakenTongue : MM := (yX3_mostTakenTongue, cX3_mostTakenTongue, 3, some .int, [], 3, 66, 0, 0)
theorem mp_X3_mostTakenTongue : mpOk M_X3_mostTakenTongue 0 := ⟨by decide +kernel, by decide +kernel, by decide +kernel⟩
theorem mv_X3_mostTakenTongue : mvOk M_X3_mostTakenTongue := ⟨tk3 (i := 11) (by decide +kernel) rfl, tk3 (i := 12) (by decide +kernel) rfl, tk1 (i := 2) (by decide +kernel) rfl, tk3 (i := 13) rfl rfl⟩
def M_X4_bestTongue : MM := (yX4_bestTongue, cX4_bestTongue, 1, some .int, [], 4, 88, 0, 0)
theorem mp_X4_bestTongue : mpOk M_X4_bestTongue 0 := ⟨by decide +kernel, by decide +kernel, by decide +kernel⟩
theorem mv_X4_bestTongue : mvOk M_X4_bestTongue := ⟨tk5 (i := 6) (by decide +kernel) rfl, tk5 (i := 7) (by decide +kernel) rfl, tk1 (i := 1) (by decide +kernel) rfl, tk5 (i := 8) rfl rfl⟩
def M_X3_lipsBy : MM := (yX3_lipsBy, cX3_lipsBy, 4, some .int, [], 2, 42, 0, 0)
theorem mp_X3_lipsBy : mpOk M_X3_lipsBy 1 := ⟨by decide +kernel, by decide +kernel, by decide +kernel⟩
theorem mv_X3_lipsBy : mvOk M_X3_lipsBy := ⟨tk3 (i := 21) (by decide +kernel) rfl, pk (q := (yX3_lipsBy, 16)) (List.mem_of_getElem? (i := 15) (by decide +kernel)), tk1 (i := 2) (by decide +kernel) rfl, tk3 (i := 22) rfl rfl⟩
def M_X3_mostLipsState : MM := (yX3_mostLipsState, cX3_mostLipsState, 3, some .int, [], 3, 65, 0, 0)
theorem mp_X3_mostLipsState : mpOk M_X3_mostLipsState 0 := ⟨by decide +kernel, by decide +kernel, by decide +kernel⟩
theorem mv_X3_mostLipsState : mvOk M_X3_mostLipsState := ⟨tk3 (i := 16) (by decide +kernel) rfl, tk3 (i := 17) (by decide +kernel) rfl, tk1 (i := 2) (by decide +kernel) rfl, tk3 (i := 18) rfl rfl⟩
def M_X4_loudestState : MM := (yX4_loudestState, cX4_loudestState, 1, some .int, [], 4, 87, 0, 0)
theorem mp_X4_loudestState : mpOk M_X4_loudestState 0 := ⟨by decide +kernel, by decide +kernel, by decide +kernel⟩
theorem mv_X4_loudestState : mvOk M_X4_loudestState := ⟨tk5 (i := 10) (by decide +kernel) rfl, tk5 (i := 11) (by decide +kernel) rfl, tk1 (i := 1) (by decide +kernel) rfl, tk5 (i := 12) rfl rfl⟩
def M_X4_roomFor : MM := (yX4_roomFor, cX4_roomFor, 3, some .int, [], 8, 129, 3, 18)
theorem mp_X4_roomFor : mpOk M_X4_roomFor 2 := ⟨by decide +kernel, by decide +kernel, by decide +kernel⟩
theorem mv_X4_roomFor : mvOk M_X4_roomFor := ⟨tk5 (i := 29) (by decide +kernel) rfl, tk5 (i := 30) (by decide +kernel) rfl, tk1 (i := 1) (by decide +kernel) rfl, tk5 (i := 31) rfl rfl⟩
def M_L_roomFor : MM := (yL_roomFor, cL_roomFor, 4, some .int, [(0, 6, 7, 15), (0, 6, 12, 19)], 9, 151, 3, 18)
theorem mp_L_roomFor : mpOk M_L_roomFor 3 := ⟨by decide +kernel, by decide +kernel, by decide +kernel⟩
theorem ms_L_roomFor : msOk M_L_roomFor := ⟨tk5 (i := 26) (by decide +kernel) rfl, tk1 (i := 0) (by decide +kernel) rfl, tk5 (i := 27) rfl rfl⟩
def M_X4_reasonAgainst : MM := (yX4_reasonAgainst, cX4_reasonAgainst, 3, some .int, [], 8, 129, 2, 12)
theorem mp_X4_reasonAgainst : mpOk M_X4_reasonAgainst 2 := ⟨by decide +kernel, by decide +kernel, by decide +kernel⟩
theorem mv_X4_reasonAgainst : mvOk M_X4_reasonAgainst := ⟨tk5 (i := 36) (by decide +kernel) rfl, tk5 (i := 37) (by decide +kernel) rfl, tk1 (i := 1) (by decide +kernel) rfl, tk5 (i := 38) rfl rfl⟩
def M_L_reasonAgainst : MM := (yL_reasonAgainst, cL_reasonAgainst, 4, some .int, [(0, 6, 7, 15)], 9, 151, 2, 12)
theorem mp_L_reasonAgainst : mpOk M_L_reasonAgainst 3 := ⟨by decide +kernel, by decide +kernel, by decide +kernel⟩
theorem ms_L_reasonAgainst : msOk M_L_reasonAgainst := ⟨tk5 (i := 33) (by decide +kernel) rfl, tk1 (i := 0) (by decide +kernel) rfl, tk5 (i := 34) rfl rfl⟩
def M_X4_sessionOf : MM := (yX4_sessionOf, cX4_sessionOf, 3, some .int, [], 8, 129, 3, 18)
theorem mp_X4_sessionOf : mpOk M_X4_sessionOf 2 := ⟨by decide +kernel, by decide +kernel, by decide +kernel⟩
theorem mv_X4_sessionOf : mvOk M_X4_sessionOf := ⟨tk5 (i := 43) (by decide +kernel) rfl, tk5 (i := 44) (by decide +kernel) rfl, tk1 (i := 1) (by decide +kernel) rfl, tk5 (i := 45) rfl rfl⟩
def M_L_sessionOf : MM := (yL_sessionOf, cL_sessionOf, 4, some .int, [(0, 6, 7, 15), (0, 6, 11, 19)], 9, 151, 3, 18)
theorem mp_L_sessionOf : mpOk M_L_sessionOf 3 := ⟨by decide +kernel, by decide +kernel, by decide +kernel⟩
theorem ms_L_sessionOf : msOk M_L_sessionOf := ⟨tk5 (i := 40) (by decide +kernel) rfl, tk1 (i := 0) (by decide +kernel) rfl, tk5 (i := 41) rfl rfl⟩
def M_X3_leastAnnexAt : MM := (yX3_leastAnnexAt, cX3_leastAnnexAt, 4, some .int, [], 3, 65, 0, 0)
theorem mp_X3_leastAnnexAt : mpOk M_X3_leastAnnexAt 2 := ⟨by decide +kernel, by decide +kernel, by decide +kernel⟩
theorem mv_X3_leastAnnexAt : mvOk M_X3_leastAnnexAt := ⟨tk2 (i := 99) (by decide +kernel) rfl, tk2 (i := 100) (by decide +kernel) rfl, tk1 (i := 2) (by decide +kernel) rfl, tk2 (i := 101) rfl rfl⟩
def M_X4_leastAnnex : MM := (yX4_leastAnnex, cX4_leastAnnex, 4, some .int, [], 8, 129, 4, 24)
theorem mp_X4_leastAnnex : mpOk M_X4_leastAnnex 2 := ⟨by decide +kernel, by decide +kernel, by decide +kernel⟩
theorem mv_X4_leastAnnex : mvOk M_X4_leastAnnex := ⟨tk5 (i := 50) (by decide +kernel) rfl, tk5 (i := 51) (by decide +kernel) rfl, tk1 (i := 1) (by decide +kernel) rfl, tk5 (i := 52) rfl rfl⟩
def M_L_leastAnnex : MM := (yL_leastAnnex, cL_leastAnnex, 4, some .int, [(0, 6, 7, 15), (0, 6, 11, 19)], 9, 152, 4, 24)
theorem mp_L_leastAnnex : mpOk M_L_leastAnnex 3 := ⟨by decide +kernel, by decide +kernel, by decide +kernel⟩
theorem ms_L_leastAnnex : msOk M_L_leastAnnex := ⟨tk5 (i := 47) (by decide +kernel) rfl, tk1 (i := 0) (by decide +kernel) rfl, tk5 (i := 48) rfl rfl⟩
def M_X3_hundredthsAt : MM := (yX3_hundredthsAt, cX3_hundredthsAt, 4, some .int, [], 2, 43, 0, 0)
theorem mp_X3_hundredthsAt : mpOk M_X3_hundredthsAt 2 := ⟨by decide +kernel, by decide +kernel, by decide +kernel⟩
theorem mv_X3_hundredthsAt : mvOk M_X3_hundredthsAt := ⟨tk2 (i := 95) (by decide +kernel) rfl, tk2 (i := 96) (by decide +kernel) rfl, tk1 (i := 2) (by decide +kernel) rfl, tk2 (i := 97) rfl rfl⟩
def M_X4_hundredthsOf : MM := (yX4_hundredthsOf, cX4_hundredthsOf, 3, some .int, [], 8, 129, 3, 18)
theorem mp_X4_hundredthsOf : mpOk M_X4_hundredthsOf 2 := ⟨by decide +kernel, by decide +kernel, by decide +kernel⟩
theorem mv_X4_hundredthsOf : mvOk M_X4_hundredthsOf := ⟨tk5 (i := 58) (by decide +kernel) rfl, tk5 (i := 59) (by decide +kernel) rfl, tk1 (i := 1) (by decide +kernel) rfl, tk5 (i := 60) rfl rfl⟩
def M_L_hundredthsOf : MM := (yL_hundredthsOf, cL_hundredthsOf, 4, some .int, [(0, 6, 7, 15), (0, 6, 11, 19)], 9, 151, 3, 18)
theorem mp_L_hundredthsOf : mpOk M_L_hundredthsOf 3 := ⟨by decide +kernel, by decide +kernel, by decide +kernel⟩
theorem ms_L_hundredthsOf : msOk M_L_hundredthsOf := ⟨tk5 (i := 55) (by decide +kernel) rfl, tk1 (i := 0) (by decide +kernel) rfl, tk5 (i := 56) rfl rfl⟩
def M_X4_isTranslated : MM := (yX4_isTranslated, cX4_isTranslated, 3, some .boolean, [], 8, 129, 2, 12)
theorem mp_X4_isTranslated : mpOk M_X4_isTranslated 2 := ⟨by decide +kernel, by decide +kernel, by decide +kernel⟩
theorem mv_X4_isTranslated : mvOk M_X4_isTranslated := ⟨tk5 (i := 73) (by decide +kernel) rfl, tk5 (i := 74) (by decide +kernel) rfl, tk1 (i := 1) (by decide +kernel) rfl, tk5 (i := 75) rfl rfl⟩
def M_L_isTranslated : MM := (yL_isTranslated, cL_isTranslated, 4, some .int, [(0, 14, 15, 15)], 9, 151, 2, 12)
end XM24
