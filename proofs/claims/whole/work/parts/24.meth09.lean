/-! the methods: their rows, and what the tables say of them -/
section XM29
def M_X5_told : MM := (yX5_told, cX5_told, 2, some .int, [], 0, 0, 0, 0)
theorem mp_X5_told : mpOk M_X5_told 1 := ⟨by decide +kernel, by decide +kernel, by decide +kernel⟩
theorem mv_X5_told : mvOk M_X5_told := ⟨tk7 (i := 15) (by decide +kernel) rfl, pk (q := (yX5_told, 15)) (List.mem_of_getElem? (i := 53) (by decide +kernel)), tk1 (i := 6) (by decide +kernel) rfl, tk7 (i := 16) (by decide +kernel) rfl⟩
def M_X5_savedStates : MM := (yX5_savedStates, cX5_savedStates, 1, some .int, [], 1, 21, 0, 0)
theorem mp_X5_savedStates : mpOk M_X5_savedStates 0 := ⟨by decide +kernel, by decide +kernel, by decide +kernel⟩
theorem mv_X5_savedStates : mvOk M_X5_savedStates := ⟨tk7 (i := 10) (by decide +kernel) rfl, tk7 (i := 11) (by decide +kernel) rfl, tk1 (i := 6) (by decide +kernel) rfl, tk7 (i := 12) (by decide +kernel) rfl⟩
def M_X4_clauses : MM := (yX4_clauses, cX4_clauses, 1, some .int, [], 0, 0, 0, 0)
theorem mp_X4_clauses : mpOk M_X4_clauses 0 := ⟨by decide +kernel, by decide +kernel, by decide +kernel⟩
theorem mv_X4_clauses : mvOk M_X4_clauses := ⟨tk1 (i := 237) (by decide +kernel) rfl, tk1 (i := 238) (by decide +kernel) rfl, tk1 (i := 1) (by decide +kernel) rfl, tk1 (i := 239) (by decide +kernel) rfl⟩
def M_X5_clauses : MM := (yX5_clauses, cX5_clauses, 1, some .int, [], 1, 21, 0, 0)
theorem mp_X5_clauses : mpOk M_X5_clauses 0 := ⟨by decide +kernel, by decide +kernel, by decide +kernel⟩
theorem mv_X5_clauses : mvOk M_X5_clauses := ⟨tk7 (i := 18) (by decide +kernel) rfl, tk7 (i := 19) (by decide +kernel) rfl, tk1 (i := 6) (by decide +kernel) rfl, tk7 (i := 20) (by decide +kernel) rfl⟩
def M_X4_reelOf : MM := (yX4_reelOf, cX4_reelOf, 2, some .int, [], 7, 107, 1, 6)
theorem mp_X4_reelOf : mpOk M_X4_reelOf 1 := ⟨by decide +kernel, by decide +kernel, by decide +kernel⟩
theorem mv_X4_reelOf : mvOk M_X4_reelOf := ⟨tk4 (i := 202) (by decide +kernel) rfl, tk4 (i := 203) (by decide +kernel) rfl, tk1 (i := 1) (by decide +kernel) rfl, tk4 (i := 204) (by decide +kernel) rfl⟩
def M_L_reelOf : MM := (yL_reelOf, cL_reelOf, 4, some .int, [(0, 9, 12, 13)], 8, 128, 1, 6)
theorem mp_L_reelOf : mpOk M_L_reelOf 3 := ⟨by decide +kernel, by decide +kernel, by decide +kernel⟩
theorem ms_L_reelOf : msOk M_L_reelOf := ⟨tk4 (i := 199) (by decide +kernel) rfl, tk1 (i := 0) (by decide +kernel) rfl, tk4 (i := 200) (by decide +kernel) rfl⟩
def M_X5_ofClause : MM := (yX5_ofClause, cX5_ofClause, 3, some .int, [], 2, 43, 0, 0)
theorem mp_X5_ofClause : mpOk M_X5_ofClause 2 := ⟨by decide +kernel, by decide +kernel, by decide +kernel⟩
theorem mv_X5_ofClause : mvOk M_X5_ofClause := ⟨tk7 (i := 27) (by decide +kernel) rfl, pk (q := (yX5_ofClause, 15)) (List.mem_of_getElem? (i := 54) (by decide +kernel)), tk1 (i := 6) (by decide +kernel) rfl, tk7 (i := 28) (by decide +kernel) rfl⟩
def M_X5_reelOf : MM := (yX5_reelOf, cX5_reelOf, 2, some .int, [], 3, 65, 0, 0)
theorem mp_X5_reelOf : mpOk M_X5_reelOf 1 := ⟨by decide +kernel, by decide +kernel, by decide +kernel⟩
theorem mv_X5_reelOf : mvOk M_X5_reelOf := ⟨tk7 (i := 22) (by decide +kernel) rfl, tk7 (i := 23) (by decide +kernel) rfl, tk1 (i := 6) (by decide +kernel) rfl, tk7 (i := 24) (by decide +kernel) rfl⟩
def M_X4_speakerOf : MM := (yX4_speakerOf, cX4_speakerOf, 2, some .int, [], 7, 107, 1, 6)
theorem mp_X4_speakerOf : mpOk M_X4_speakerOf 1 := ⟨by decide +kernel, by decide +kernel, by decide +kernel⟩
theorem mv_X4_speakerOf : mvOk M_X4_speakerOf := ⟨tk4 (i := 209) (by decide +kernel) rfl, tk4 (i := 210) (by decide +kernel) rfl, tk1 (i := 1) (by decide +kernel) rfl, tk4 (i := 211) (by decide +kernel) rfl⟩
def M_L_speakerOf : MM := (yL_speakerOf, cL_speakerOf, 4, some .int, [(0, 9, 12, 13)], 8, 128, 1, 6)
theorem mp_L_speakerOf : mpOk M_L_speakerOf 3 := ⟨by decide +kernel, by decide +kernel, by decide +kernel⟩
theorem ms_L_speakerOf : msOk M_L_speakerOf := ⟨tk4 (i := 206) (by decide +kernel) rfl, tk1 (i := 0) (by decide +kernel) rfl, tk4 (i := 207) (by decide +kernel) rfl⟩
def M_X5_speakerOf : MM := (yX5_speakerOf, cX5_speakerOf, 2, some .int, [], 3, 65, 0, 0)
theorem mp_X5_speakerOf : mpOk M_X5_speakerOf 1 := ⟨by decide +kernel, by decide +kernel, by decide +kernel⟩
theorem mv_X5_speakerOf : mvOk M_X5_speakerOf := ⟨tk7 (i := 30) (by decide +kernel) rfl, tk7 (i := 31) (by decide +kernel) rfl, tk1 (i := 6) (by decide +kernel) rfl, tk7 (i := 32) (by decide +kernel) rfl⟩
def M_X4_lipsOf : MM := (yX4_lipsOf, cX4_lipsOf, 2, some .int, [], 7, 107, 1, 6)
theorem mp_X4_lipsOf : mpOk M_X4_lipsOf 1 := ⟨by decide +kernel, by decide +kernel, by decide +kernel⟩
theorem mv_X4_lipsOf : mvOk M_X4_lipsOf := ⟨tk4 (i := 216) (by decide +kernel) rfl, tk4 (i := 217) (by decide +kernel) rfl, tk1 (i := 1) (by decide +kernel) rfl, tk4 (i := 218) (by decide +kernel) rfl⟩
def M_L_lipsOf : MM := (yL_lipsOf, cL_lipsOf, 4, some .int, [(0, 9, 12, 13)], 8, 128, 1, 6)
theorem mp_L_lipsOf : mpOk M_L_lipsOf 3 := ⟨by decide +kernel, by decide +kernel, by decide +kernel⟩
theorem ms_L_lipsOf : msOk M_L_lipsOf := ⟨tk4 (i := 213) (by decide +kernel) rfl, tk1 (i := 0) (by decide +kernel) rfl, tk4 (i := 214) (by decide +kernel) rfl⟩
def M_X5_lipsOf : MM := (yX5_lipsOf, cX5_lipsOf, 2, some .int, [], 3, 65, 0, 0)
theorem mp_X5_lipsOf : mpOk M_X5_lipsOf 1 := ⟨by decide +kernel, by decide +kernel, by decide +kernel⟩
theorem mv_X5_lipsOf : mvOk M_X5_lipsOf := ⟨tk7 (i := 34) (by decide +kernel) rfl, tk7 (i := 35) (by decide +kernel) rfl, tk1 (i := 6) (by decide +kernel) rfl, tk7 (i := 36) (by decide +kernel) rfl⟩
def M_X4_sighOf : MM := (yX4_sighOf, cX4_sighOf, 2, some .int, [], 7, 107, 1, 6)
theorem mp_X4_sighOf : mpOk M_X4_sighOf 1 := ⟨by decide +kernel, by decide +kernel, by decide +kernel⟩
theorem mv_X4_sighOf : mvOk M_X4_sighOf := ⟨tk4 (i := 223) (by decide +kernel) rfl, tk4 (i := 224) (by decide +kernel) rfl, tk1 (i := 1) (by decide +kernel) rfl, tk4 (i := 225) (by decide +kernel) rfl⟩
def M_L_sighOf : MM := (yL_sighOf, cL_sighOf, 4, some .int, [(0, 9, 12, 13)], 8, 128, 1, 6)
theorem mp_L_sighOf : mpOk M_L_sighOf 3 := ⟨by decide +kernel, by decide +kernel, by decide +kernel⟩
theorem ms_L_sighOf : msOk M_L_sighOf := ⟨tk4 (i := 220) (by decide +kernel) rfl, tk1 (i := 0) (by decide +kernel) rfl, tk4 (i := 221) (by decide +kernel) rfl⟩
def M_X5_sighOf : MM := (yX5_sighOf, cX5_sighOf, 2, some .int, [], 3, 65, 0, 0)
theorem mp_X5_sighOf : mpOk M_X5_sighOf 1 := ⟨by decide +kernel, by decide +kernel, by decide +kernel⟩
theorem mv_X5_sighOf : mvOk M_X5_sighOf := ⟨tk7 (i := 38) (by decide +kernel) rfl, tk7 (i := 39) (by decide +kernel) rfl, tk1 (i := 6) (by decide +kernel) rfl, tk7 (i := 40) (by decide +kernel) rfl⟩
def M_X5_isTranslated : MM := (yX5_isTranslated, cX5_isTranslated, 3, some .boolean, [], 3, 65, 0, 0)
theorem mp_X5_isTranslated : mpOk M_X5_isTranslated 2 := ⟨by decide +kernel, by decide +kernel, by decide +kernel⟩
theorem mv_X5_isTranslated : mvOk M_X5_isTranslated := ⟨tk7 (i := 42) (by decide +kernel) rfl, tk7 (i := 43) (by decide +kernel) rfl, tk1 (i := 6) (by decide +kernel) rfl, tk7 (i := 44) (by decide +kernel) rfl⟩
def M_X5_badTranslation : MM := (yX5_badTranslation, cX5_badTranslation, 3, some .int, [], 3, 65, 0, 0)
theorem mp_X5_badTranslation : mpOk M_X5_badTranslation 2 := ⟨by decide +kernel, by decide +kernel, by decide +kernel⟩
theorem mv_X5_badTranslation : mvOk M_X5_badTranslation := ⟨tk7 (i := 51) (by decide +kernel) rfl, pk (q := (yX5_badTranslation, 15)) (List.mem_of_getElem? (i := 55) (by decide +kernel)), tk1 (i := 6) (by decide +kernel) rfl, tk7 (i := 52) (by decide +kernel) rfl⟩
def M_X5_framesOf : MM := (yX5_framesOf, cX5_framesOf, 3, some .int, [], 4, 87, 0, 0)
theorem mp_X5_framesOf : mpOk M_X5_framesOf 2 := ⟨by decide +kernel, by decide +kernel, by decide +kernel⟩
theorem mv_X5_framesOf : mvOk M_X5_framesOf := ⟨tk7 (i := 46) (by decide +kernel) rfl, tk7 (i := 47) (by decide +kernel) rfl, tk1 (i := 6) (by decide +kernel) rfl, tk7 (i := 48) (by decide +kernel) rfl⟩
def M_X5_annexedOf : MM := (yX5_annexedOf, cX5_annexedOf, 3, some .int, [], 3, 65, 0, 0)
theorem mp_X5_annexedOf : mpOk M_X5_annexedOf 2 := ⟨by decide +kernel, by decide +kernel, by decide +kernel⟩
theorem mv_X5_annexedOf : mvOk M_X5_annexedOf := ⟨tk7 (i := 54) (by decide +kernel) rfl, tk7 (i := 55) (by decide +kernel) rfl, tk1 (i := 6) (by decide +kernel) rfl, tk7 (i := 56) (by decide +kernel) rfl⟩
def M_X5_isRecorded : MM := (yX5_isRecorded, cX5_isRecorded, 3, some .boolean, [], 3, 65, 0, 0)
theorem mp_X5_isRecorded : mpOk M_X5_isRecorded 2 := ⟨by decide +kernel, by decide +kernel, by decide +kernel⟩
theorem mv_X5_isRecorded : mvOk M_X5_isRecorded := ⟨tk7 (i := 58) (by decide +kernel) rfl, tk7 (i := 59) (by decide +kernel) rfl, tk1 (i := 6) (by decide +kernel) rfl, tk7 (i := 60) (by decide +kernel) rfl⟩
end XM29
