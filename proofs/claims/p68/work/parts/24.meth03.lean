/-! the methods: their rows, and what the tables say of them -/
section XM23
def M_X0_acceptsReel : MM := (yX0_acceptsReel, cX0_acceptsReel, 2, some .boolean, [], 1, 22, 0, 0)
theorem mp_X0_acceptsReel : mpOk M_X0_acceptsReel 1 := ⟨by decide +kernel, by decide +kernel, by decide +kernel⟩
theorem mv_X0_acceptsReel : mvOk M_X0_acceptsReel := ⟨tk1 (i := 205) (by decide +kernel) rfl, pk (q := (yX0_acceptsReel, 8)) (List.mem_of_getElem? (i := 1) (by decide +kernel)), tk1 (i := 4) (by decide +kernel) rfl, tk1 (i := 206) rfl rfl⟩
def M_X0_acceptsSpeaker : MM := (yX0_acceptsSpeaker, cX0_acceptsSpeaker, 2, some .boolean, [], 1, 22, 0, 0)
theorem mp_X0_acceptsSpeaker : mpOk M_X0_acceptsSpeaker 1 := ⟨by decide +kernel, by decide +kernel, by decide +kernel⟩
theorem mv_X0_acceptsSpeaker : mvOk M_X0_acceptsSpeaker := ⟨tk1 (i := 212) (by decide +kernel) rfl, pk (q := (yX0_acceptsSpeaker, 8)) (List.mem_of_getElem? (i := 2) (by decide +kernel)), tk1 (i := 4) (by decide +kernel) rfl, tk1 (i := 213) rfl rfl⟩
def M_X0_acceptsDigit : MM := (yX0_acceptsDigit, cX0_acceptsDigit, 5, some .boolean, [], 1, 22, 0, 0)
theorem mp_X0_acceptsDigit : mpOk M_X0_acceptsDigit 3 := ⟨by decide +kernel, by decide +kernel, by decide +kernel⟩
theorem mv_X0_acceptsDigit : mvOk M_X0_acceptsDigit := ⟨tk1 (i := 220) (by decide +kernel) rfl, pk (q := (yX0_acceptsDigit, 8)) (List.mem_of_getElem? (i := 4) (by decide +kernel)), tk1 (i := 4) (by decide +kernel) rfl, tk1 (i := 221) rfl rfl⟩
def M_X0_acceptsEnd : MM := (yX0_acceptsEnd, cX0_acceptsEnd, 2, some .boolean, [], 0, 0, 0, 0)
theorem mp_X0_acceptsEnd : mpOk M_X0_acceptsEnd 1 := ⟨by decide +kernel, by decide +kernel, by decide +kernel⟩
theorem mv_X0_acceptsEnd : mvOk M_X0_acceptsEnd := ⟨tk1 (i := 224) (by decide +kernel) rfl, pk (q := (yX0_acceptsEnd, 8)) (List.mem_of_getElem? (i := 5) (by decide +kernel)), tk1 (i := 4) (by decide +kernel) rfl, tk1 (i := 225) rfl rfl⟩
def M_X0_acceptsLips : MM := (yX0_acceptsLips, cX0_acceptsLips, 2, some .boolean, [], 2, 46, 0, 0)
theorem mp_X0_acceptsLips : mpOk M_X0_acceptsLips 1 := ⟨by decide +kernel, by decide +kernel, by decide +kernel⟩
theorem mv_X0_acceptsLips : mvOk M_X0_acceptsLips := ⟨tk1 (i := 216) (by decide +kernel) rfl, pk (q := (yX0_acceptsLips, 8)) (List.mem_of_getElem? (i := 3) (by decide +kernel)), tk1 (i := 4) (by decide +kernel) rfl, tk1 (i := 217) rfl rfl⟩
def M_X0_acceptsSigh : MM := (yX0_acceptsSigh, cX0_acceptsSigh, 2, some .boolean, [], 2, 46, 0, 0)
theorem mp_X0_acceptsSigh : mpOk M_X0_acceptsSigh 1 := ⟨by decide +kernel, by decide +kernel, by decide +kernel⟩
theorem mv_X0_acceptsSigh : mvOk M_X0_acceptsSigh := ⟨tk1 (i := 228) (by decide +kernel) rfl, pk (q := (yX0_acceptsSigh, 8)) (List.mem_of_getElem? (i := 6) (by decide +kernel)), tk1 (i := 4) (by decide +kernel) rfl, tk1 (i := 229) rfl rfl⟩
def M_X0_accepts : MM := (yX0_accepts, cX0_accepts, 2, some .boolean, [], 3, 67, 0, 0)
theorem mp_X0_accepts : mpOk M_X0_accepts 1 := ⟨by decide +kernel, by decide +kernel, by decide +kernel⟩
theorem mv_X0_accepts : mvOk M_X0_accepts := ⟨tk1 (i := 201) (by decide +kernel) rfl, pk (q := (yX0_accepts, 8)) (List.mem_of_getElem? (i := 0) (by decide +kernel)), tk1 (i := 4) (by decide +kernel) rfl, tk1 (i := 202) rfl rfl⟩
def M_X0_readToError : MM := (yX0_readToError, cX0_readToError, 2, some .int, [], 4, 88, 0, 0)
theorem mp_X0_readToError : mpOk M_X0_readToError 0 := ⟨by decide +kernel, by decide +kernel, by decide +kernel⟩
theorem mv_X0_readToError : mvOk M_X0_readToError := ⟨tk1 (i := 193) (by decide +kernel) rfl, tk1 (i := 194) (by decide +kernel) rfl, tk1 (i := 4) (by decide +kernel) rfl, tk1 (i := 195) rfl rfl⟩
def M_X4_firstError : MM := (yX4_firstError, cX4_firstError, 1, some .int, [], 5, 109, 0, 0)
theorem mp_X4_firstError : mpOk M_X4_firstError 0 := ⟨by decide +kernel, by decide +kernel, by decide +kernel⟩
theorem mv_X4_firstError : mvOk M_X4_firstError := ⟨tk1 (i := 189) (by decide +kernel) rfl, tk1 (i := 190) (by decide +kernel) rfl, tk1 (i := 1) (by decide +kernel) rfl, tk1 (i := 191) rfl rfl⟩
def M_X0_readWhole : MM := (yX0_readWhole, cX0_readWhole, 1, some .boolean, [], 5, 109, 0, 0)
theorem mp_X0_readWhole : mpOk M_X0_readWhole 0 := ⟨by decide +kernel, by decide +kernel, by decide +kernel⟩
theorem mv_X0_readWhole : mvOk M_X0_readWhole := ⟨tk4 (i := 52) (by decide +kernel) rfl, tk4 (i := 53) (by decide +kernel) rfl, tk1 (i := 4) (by decide +kernel) rfl, tk4 (i := 54) rfl rfl⟩
def M_X0_hasSighBeyondLips : MM := (yX0_hasSighBeyondLips, cX0_hasSighBeyondLips, 3, some .boolean, [], 1, 21, 0, 0)
theorem mp_X0_hasSighBeyondLips : mpOk M_X0_hasSighBeyondLips 1 := ⟨by decide +kernel, by decide +kernel, by decide +kernel⟩
theorem mv_X0_hasSighBeyondLips : mvOk M_X0_hasSighBeyondLips := ⟨tk4 (i := 58) (by decide +kernel) rfl, tk4 (i := 59) (by decide +kernel) rfl, tk1 (i := 4) (by decide +kernel) rfl, tk4 (i := 60) rfl rfl⟩
def M_X4_load : MM := (yX4_load, cX4_load, 3, some .int, [], 6, 129, 1, 6)
theorem mp_X4_load : mpOk M_X4_load 0 := ⟨by decide +kernel, by decide +kernel, by decide +kernel⟩
theorem mv_X4_load : mvOk M_X4_load := ⟨tk4 (i := 48) (by decide +kernel) rfl, tk4 (i := 49) (by decide +kernel) rfl, tk1 (i := 1) (by decide +kernel) rfl, tk4 (i := 50) rfl rfl⟩
def M_L_load : MM := (yL_load, cL_load, 2, some .int, [(0, 4, 5, 17), (0, 4, 9, 19)], 7, 151, 1, 6)
theorem mp_L_load : mpOk M_L_load 1 := ⟨by decide +kernel, by decide +kernel, by decide +kernel⟩
theorem ms_L_load : msOk M_L_load := ⟨tk4 (i := 45) (by decide +kernel) rfl, tk1 (i := 0) (by decide +kernel) rfl, tk4 (i := 46) rfl rfl⟩
def M_X3_hasFit : MM := (yX3_hasFit, cX3_hasFit, 4, some .boolean, [], 1, 21, 0, 0)
theorem mp_X3_hasFit : mpOk M_X3_hasFit 2 := ⟨by decide +kernel, by decide +kernel, by decide +kernel⟩
theorem mv_X3_hasFit : mvOk M_X3_hasFit := ⟨tk2 (i := 69) (by decide +kernel) rfl, tk2 (i := 70) (by decide +kernel) rfl, tk1 (i := 2) (by decide +kernel) rfl, tk2 (i := 71) rfl rfl⟩
def M_X3_strengthAt : MM := (yX3_strengthAt, cX3_strengthAt, 3, some .int, [], 2, 43, 0, 0)
theorem mp_X3_strengthAt : mpOk M_X3_strengthAt 2 := ⟨by decide +kernel, by decide +kernel, by decide +kernel⟩
theorem mv_X3_strengthAt : mvOk M_X3_strengthAt := ⟨tk2 (i := 74) (by decide +kernel) rfl, tk2 (i := 75) (by decide +kernel) rfl, tk1 (i := 2) (by decide +kernel) rfl, tk2 (i := 76) rfl rfl⟩
def M_X3_reasonAt : MM := (yX3_reasonAt, cX3_reasonAt, 4, some .int, [], 3, 65, 0, 0)
theorem mp_X3_reasonAt : mpOk M_X3_reasonAt 2 := ⟨by decide +kernel, by decide +kernel, by decide +kernel⟩
theorem mv_X3_reasonAt : mvOk M_X3_reasonAt := ⟨tk2 (i := 60) (by decide +kernel) rfl, tk2 (i := 61) (by decide +kernel) rfl, tk1 (i := 2) (by decide +kernel) rfl, tk2 (i := 62) rfl rfl⟩
def M_X3_take : MM := (yX3_take, cX3_take, 4, none, [], 2, 43, 0, 0)
theorem mp_X3_take : mpOk M_X3_take 2 := ⟨by decide +kernel, by decide +kernel, by decide +kernel⟩
theorem mv_X3_take : mvOk M_X3_take := ⟨tk4 (i := 235) (by decide +kernel) rfl, tk4 (i := 236) (by decide +kernel) rfl, tk1 (i := 2) (by decide +kernel) rfl, tk4 (i := 237) rfl rfl⟩
def M_X4_record : MM := (yX4_record, cX4_record, 3, some .int, [], 8, 129, 3, 18)
theorem mp_X4_record : mpOk M_X4_record 2 := ⟨by decide +kernel, by decide +kernel, by decide +kernel⟩
theorem mv_X4_record : mvOk M_X4_record := ⟨tk4 (i := 230) (by decide +kernel) rfl, tk4 (i := 231) (by decide +kernel) rfl, tk1 (i := 1) (by decide +kernel) rfl, tk4 (i := 232) rfl rfl⟩
def M_L_recordIt : MM := (yL_recordIt, cL_recordIt, 4, some .int, [(0, 6, 7, 15), (0, 6, 11, 19)], 9, 151, 3, 18)
theorem mp_L_recordIt : mpOk M_L_recordIt 3 := ⟨by decide +kernel, by decide +kernel, by decide +kernel⟩
theorem ms_L_recordIt : msOk M_L_recordIt := ⟨tk4 (i := 227) (by decide +kernel) rfl, tk1 (i := 0) (by decide +kernel) rfl, tk4 (i := 228) rfl rfl⟩
def M_L_acts : MM := (yL_acts, cL_acts, 10, some .int, [], 10, 177, 100, 600)
theorem mp_L_acts : mpOk M_L_acts 2 := ⟨by decide +kernel, by decide +kernel, by decide +kernel⟩
theorem ms_L_acts : msOk M_L_acts := ⟨tk4 (i := 85) (by decide +kernel) rfl, tk1 (i := 0) (by decide +kernel) rfl, tk4 (i := 86) rfl rfl⟩
def M_X4_annexedOf : MM := (yX4_annexedOf, cX4_annexedOf, 3, some .int, [], 8, 129, 2, 12)
theorem mp_X4_annexedOf : mpOk M_X4_annexedOf 2 := ⟨by decide +kernel, by decide +kernel, by decide +kernel⟩
theorem mv_X4_annexedOf : mvOk M_X4_annexedOf := ⟨tk5 (i := 87) (by decide +kernel) rfl, tk5 (i := 88) (by decide +kernel) rfl, tk1 (i := 1) (by decide +kernel) rfl, tk5 (i := 89) rfl rfl⟩
def M_L_annexedOf : MM := (yL_annexedOf, cL_annexedOf, 4, some .int, [(0, 6, 7, 15)], 9, 151, 2, 12)
theorem mp_L_annexedOf : mpOk M_L_annexedOf 3 := ⟨by decide +kernel, by decide +kernel, by decide +kernel⟩
theorem ms_L_annexedOf : msOk M_L_annexedOf := ⟨tk5 (i := 84) (by decide +kernel) rfl, tk1 (i := 0) (by decide +kernel) rfl, tk5 (i := 85) rfl rfl⟩
def M_L_cell : MM := (yL_cell, cL_cell, 2, some .int, [], 0, 0, 0, 0)
theorem mp_L_cell : mpOk M_L_cell 2 := ⟨by decide +kernel, by decide +kernel, by decide +kernel⟩
theorem ms_L_cell : msOk M_L_cell := ⟨tk3 (i := 33) (by decide +kernel) rfl, tk1 (i := 0) (by decide +kernel) rfl, tk3 (i := 34) rfl rfl⟩
def M_X4_reelOf : MM := (yX4_reelOf, cX4_reelOf, 2, some .int, [], 7, 107, 1, 6)
theorem mp_X4_reelOf : mpOk M_X4_reelOf 1 := ⟨by decide +kernel, by decide +kernel, by decide +kernel⟩
theorem mv_X4_reelOf : mvOk M_X4_reelOf := ⟨tk3 (i := 214) (by decide +kernel) rfl, tk3 (i := 215) (by decide +kernel) rfl, tk1 (i := 1) (by decide +kernel) rfl, tk3 (i := 216) rfl rfl⟩
def M_X4_speakerOf : MM := (yX4_speakerOf, cX4_speakerOf, 2, some .int, [], 7, 107, 1, 6)
theorem mp_X4_speakerOf : mpOk M_X4_speakerOf 1 := ⟨by decide +kernel, by decide +kernel, by decide +kernel⟩
theorem mv_X4_speakerOf : mvOk M_X4_speakerOf := ⟨tk3 (i := 218) (by decide +kernel) rfl, tk3 (i := 219) (by decide +kernel) rfl, tk1 (i := 1) (by decide +kernel) rfl, tk3 (i := 220) rfl rfl⟩
def M_X4_lipsOf : MM := (yX4_lipsOf, cX4_lipsOf, 2, some .int, [], 7, 107, 1, 6)
theorem mp_X4_lipsOf : mpOk M_X4_lipsOf 1 := ⟨by decide +kernel, by decide +kernel, by decide +kernel⟩
theorem mv_X4_lipsOf : mvOk M_X4_lipsOf := ⟨tk3 (i := 222) (by decide +kernel) rfl, tk3 (i := 223) (by decide +kernel) rfl, tk1 (i := 1) (by decide +kernel) rfl, tk3 (i := 224) rfl rfl⟩
def M_X4_sighOf : MM := (yX4_sighOf, cX4_sighOf, 2, some .int, [], 7, 107, 1, 6)
theorem mp_X4_sighOf : mpOk M_X4_sighOf 1 := ⟨by decide +kernel, by decide +kernel, by decide +kernel⟩
theorem mv_X4_sighOf : mvOk M_X4_sighOf := ⟨tk3 (i := 226) (by decide +kernel) rfl, tk3 (i := 227) (by decide +kernel) rfl, tk1 (i := 1) (by decide +kernel) rfl, tk3 (i := 228) rfl rfl⟩
def M_L_clauseOf : MM := (yL_clauseOf, cL_clauseOf, 3, some .int, [(0, 32, 33, 15)], 8, 128, 4, 24)
theorem mp_L_clauseOf : mpOk M_L_clauseOf 2 := ⟨by decide +kernel, by decide +kernel, by decide +kernel⟩
theorem ms_L_clauseOf : msOk M_L_clauseOf := ⟨tk3 (i := 211) (by decide +kernel) rfl, tk1 (i := 0) (by decide +kernel) rfl, tk3 (i := 212) rfl rfl⟩
def M_X4_fits : MM := (yX4_fits, cX4_fits, 3, some .boolean, [], 8, 129, 2, 12)
theorem mp_X4_fits : mpOk M_X4_fits 2 := ⟨by decide +kernel, by decide +kernel, by decide +kernel⟩
end XM23
