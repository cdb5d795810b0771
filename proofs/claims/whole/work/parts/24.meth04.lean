/-! the methods: their rows, and what the tables say of them -/
section XM24
theorem mv_X0_acceptsLips : mvOk M_X0_acceptsLips := ⟨tk1 (i := 218) (by decide +kernel) rfl, pk (q := (yX0_acceptsLips, 8)) (List.mem_of_getElem? (i := 3) (by decide +kernel)), tk1 (i := 4) (by decide +kernel) rfl, tk1 (i := 219) rfl rfl⟩
def M_X0_acceptsSigh : MM := (yX0_acceptsSigh, cX0_acceptsSigh, 2, some .boolean, [], 2, 46, 0, 0)
theorem mp_X0_acceptsSigh : mpOk M_X0_acceptsSigh 1 := ⟨by decide +kernel, by decide +kernel, by decide +kernel⟩
theorem mv_X0_acceptsSigh : mvOk M_X0_acceptsSigh := ⟨tk1 (i := 230) (by decide +kernel) rfl, pk (q := (yX0_acceptsSigh, 8)) (List.mem_of_getElem? (i := 6) (by decide +kernel)), tk1 (i := 4) (by decide +kernel) rfl, tk1 (i := 231) rfl rfl⟩
def M_X0_accepts : MM := (yX0_accepts, cX0_accepts, 2, some .boolean, [], 3, 67, 0, 0)
theorem mp_X0_accepts : mpOk M_X0_accepts 1 := ⟨by decide +kernel, by decide +kernel, by decide +kernel⟩
theorem mv_X0_accepts : mvOk M_X0_accepts := ⟨tk1 (i := 203) (by decide +kernel) rfl, pk (q := (yX0_accepts, 8)) (List.mem_of_getElem? (i := 0) (by decide +kernel)), tk1 (i := 4) (by decide +kernel) rfl, tk1 (i := 204) rfl rfl⟩
def M_X0_readToError : MM := (yX0_readToError, cX0_readToError, 2, some .int, [], 4, 88, 0, 0)
theorem mp_X0_readToError : mpOk M_X0_readToError 0 := ⟨by decide +kernel, by decide +kernel, by decide +kernel⟩
theorem mv_X0_readToError : mvOk M_X0_readToError := ⟨tk1 (i := 195) (by decide +kernel) rfl, tk1 (i := 196) (by decide +kernel) rfl, tk1 (i := 4) (by decide +kernel) rfl, tk1 (i := 197) rfl rfl⟩
def M_X4_firstError : MM := (yX4_firstError, cX4_firstError, 1, some .int, [], 5, 109, 0, 0)
theorem mp_X4_firstError : mpOk M_X4_firstError 0 := ⟨by decide +kernel, by decide +kernel, by decide +kernel⟩
theorem mv_X4_firstError : mvOk M_X4_firstError := ⟨tk1 (i := 191) (by decide +kernel) rfl, tk1 (i := 192) (by decide +kernel) rfl, tk1 (i := 1) (by decide +kernel) rfl, tk1 (i := 193) rfl rfl⟩
def M_X5_next : MM := (yX5_next, cX5_next, 1, some .int, [], 0, 0, 0, 0)
theorem mp_X5_next : mpOk M_X5_next 0 := ⟨by decide +kernel, by decide +kernel, by decide +kernel⟩
theorem mv_X5_next : mvOk M_X5_next := ⟨tk6 (i := 223) (by decide +kernel) rfl, pk (q := (yX5_next, 15)) (List.mem_of_getElem? (i := 50) (by decide +kernel)), tk1 (i := 6) (by decide +kernel) rfl, tk6 (i := 224) rfl rfl⟩
def M_X5_within : MM := (yX5_within, cX5_within, 4, some .int, [], 1, 22, 0, 0)
theorem mp_X5_within : mpOk M_X5_within 2 := ⟨by decide +kernel, by decide +kernel, by decide +kernel⟩
theorem mv_X5_within : mvOk M_X5_within := ⟨tk6 (i := 219) (by decide +kernel) rfl, pk (q := (yX5_within, 15)) (List.mem_of_getElem? (i := 49) (by decide +kernel)), tk1 (i := 6) (by decide +kernel) rfl, tk6 (i := 220) rfl rfl⟩
def M_X5_number : MM := (yX5_number, cX5_number, 6, some .int, [], 2, 45, 0, 0)
theorem mp_X5_number : mpOk M_X5_number 2 := ⟨by decide +kernel, by decide +kernel, by decide +kernel⟩
theorem mv_X5_number : mvOk M_X5_number := ⟨tk6 (i := 227) (by decide +kernel) rfl, pk (q := (yX5_number, 15)) (List.mem_of_getElem? (i := 51) (by decide +kernel)), tk1 (i := 6) (by decide +kernel) rfl, tk6 (i := 228) rfl rfl⟩
def M_X5_part : MM := (yX5_part, cX5_part, 1, none, [], 3, 70, 0, 0)
theorem mp_X5_part : mpOk M_X5_part 0 := ⟨by decide +kernel, by decide +kernel, by decide +kernel⟩
theorem mv_X5_part : mvOk M_X5_part := ⟨tk6 (i := 215) (by decide +kernel) rfl, pk (q := (yX5_part, 15)) (List.mem_of_getElem? (i := 48) (by decide +kernel)), tk1 (i := 6) (by decide +kernel) rfl, tk6 (i := 216) rfl rfl⟩
def M_X5_isWhole : MM := (yX5_isWhole, cX5_isWhole, 3, some .boolean, [], 4, 90, 0, 0)
theorem mp_X5_isWhole : mpOk M_X5_isWhole 0 := ⟨by decide +kernel, by decide +kernel, by decide +kernel⟩
theorem mv_X5_isWhole : mvOk M_X5_isWhole := ⟨tk6 (i := 211) (by decide +kernel) rfl, pk (q := (yX5_isWhole, 15)) (List.mem_of_getElem? (i := 47) (by decide +kernel)), tk1 (i := 6) (by decide +kernel) rfl, tk6 (i := 212) rfl rfl⟩
def M_X5_firstError : MM := (yX5_firstError, cX5_firstError, 1, some .int, [], 5, 112, 0, 0)
theorem mp_X5_firstError : mpOk M_X5_firstError 0 := ⟨by decide +kernel, by decide +kernel, by decide +kernel⟩
theorem mv_X5_firstError : mvOk M_X5_firstError := ⟨tk6 (i := 206) (by decide +kernel) rfl, tk6 (i := 207) (by decide +kernel) rfl, tk1 (i := 6) (by decide +kernel) rfl, tk6 (i := 208) rfl rfl⟩
def M_X0_readWhole : MM := (yX0_readWhole, cX0_readWhole, 1, some .boolean, [], 5, 109, 0, 0)
theorem mp_X0_readWhole : mpOk M_X0_readWhole 0 := ⟨by decide +kernel, by decide +kernel, by decide +kernel⟩
theorem mv_X0_readWhole : mvOk M_X0_readWhole := ⟨tk4 (i := 159) (by decide +kernel) rfl, tk4 (i := 160) (by decide +kernel) rfl, tk1 (i := 4) (by decide +kernel) rfl, tk4 (i := 161) rfl rfl⟩
def M_X0_hasSighBeyondLips : MM := (yX0_hasSighBeyondLips, cX0_hasSighBeyondLips, 3, some .boolean, [], 1, 21, 0, 0)
theorem mp_X0_hasSighBeyondLips : mpOk M_X0_hasSighBeyondLips 1 := ⟨by decide +kernel, by decide +kernel, by decide +kernel⟩
theorem mv_X0_hasSighBeyondLips : mvOk M_X0_hasSighBeyondLips := ⟨tk4 (i := 165) (by decide +kernel) rfl, tk4 (i := 166) (by decide +kernel) rfl, tk1 (i := 4) (by decide +kernel) rfl, tk4 (i := 167) rfl rfl⟩
def M_X4_load : MM := (yX4_load, cX4_load, 3, some .int, [], 6, 129, 1, 6)
theorem mp_X4_load : mpOk M_X4_load 0 := ⟨by decide +kernel, by decide +kernel, by decide +kernel⟩
theorem mv_X4_load : mvOk M_X4_load := ⟨tk4 (i := 155) (by decide +kernel) rfl, tk4 (i := 156) (by decide +kernel) rfl, tk1 (i := 1) (by decide +kernel) rfl, tk4 (i := 157) rfl rfl⟩
def M_L_load : MM := (yL_load, cL_load, 3, some .int, [(0, 8, 11, 15), (0, 8, 14, 17)], 7, 151, 1, 6)
theorem mp_L_load : mpOk M_L_load 2 := ⟨by decide +kernel, by decide +kernel, by decide +kernel⟩
theorem ms_L_load : msOk M_L_load := ⟨tk4 (i := 152) (by decide +kernel) rfl, tk1 (i := 0) (by decide +kernel) rfl, tk4 (i := 153) rfl rfl⟩
def M_X5_canLoad : MM := (yX5_canLoad, cX5_canLoad, 3, some .boolean, [], 4, 90, 0, 0)
theorem mp_X5_canLoad : mpOk M_X5_canLoad 0 := ⟨by decide +kernel, by decide +kernel, by decide +kernel⟩
theorem mv_X5_canLoad : mvOk M_X5_canLoad := ⟨tk6 (i := 235) (by decide +kernel) rfl, pk (q := (yX5_canLoad, 15)) (List.mem_of_getElem? (i := 52) (by decide +kernel)), tk1 (i := 6) (by decide +kernel) rfl, tk6 (i := 236) rfl rfl⟩
def M_X5_load : MM := (yX5_load, cX5_load, 1, some .int, [], 5, 112, 0, 0)
theorem mp_X5_load : mpOk M_X5_load 0 := ⟨by decide +kernel, by decide +kernel, by decide +kernel⟩
theorem mv_X5_load : mvOk M_X5_load := ⟨tk6 (i := 230) (by decide +kernel) rfl, tk6 (i := 231) (by decide +kernel) rfl, tk1 (i := 6) (by decide +kernel) rfl, tk6 (i := 232) rfl rfl⟩
def M_X5_keep : MM := (yX5_keep, cX5_keep, 3, none, [], 1, 22, 0, 0)
theorem mp_X5_keep : mpOk M_X5_keep 1 := ⟨by decide +kernel, by decide +kernel, by decide +kernel⟩
theorem mv_X5_keep : mvOk M_X5_keep := ⟨tk6 (i := 238) (by decide +kernel) rfl, tk6 (i := 239) (by decide +kernel) rfl, tk1 (i := 6) (by decide +kernel) rfl, tk7 (i := 0) rfl rfl⟩
def M_X5_goBack : MM := (yX5_goBack, cX5_goBack, 3, none, [], 1, 22, 0, 0)
theorem mp_X5_goBack : mpOk M_X5_goBack 1 := ⟨by decide +kernel, by decide +kernel, by decide +kernel⟩
theorem mv_X5_goBack : mvOk M_X5_goBack := ⟨tk7 (i := 2) (by decide +kernel) rfl, tk7 (i := 3) (by decide +kernel) rfl, tk1 (i := 6) (by decide +kernel) rfl, tk7 (i := 4) rfl rfl⟩
def M_X1_popInto : MM := (yX1_popInto, cX1_popInto, 2, none, [], 3, 72, 0, 0)
theorem mp_X1_popInto : mpOk M_X1_popInto 1 := ⟨by decide +kernel, by decide +kernel, by decide +kernel⟩
theorem mv_X1_popInto : mvOk M_X1_popInto := ⟨tk4 (i := 195) (by decide +kernel) rfl, tk4 (i := 196) (by decide +kernel) rfl, tk1 (i := 3) (by decide +kernel) rfl, tk4 (i := 197) rfl rfl⟩
def M_X4_undo : MM := (yX4_undo, cX4_undo, 1, none, [], 6, 93, 1, 6)
theorem mp_X4_undo : mpOk M_X4_undo 0 := ⟨by decide +kernel, by decide +kernel, by decide +kernel⟩
theorem mv_X4_undo : mvOk M_X4_undo := ⟨tk4 (i := 190) (by decide +kernel) rfl, tk4 (i := 191) (by decide +kernel) rfl, tk1 (i := 1) (by decide +kernel) rfl, tk4 (i := 192) rfl rfl⟩
def M_L_undo : MM := (yL_undo, cL_undo, 2, some .int, [(0, 4, 7, 17)], 7, 113, 1, 6)
theorem mp_L_undo : mpOk M_L_undo 1 := ⟨by decide +kernel, by decide +kernel, by decide +kernel⟩
theorem ms_L_undo : msOk M_L_undo := ⟨tk4 (i := 187) (by decide +kernel) rfl, tk1 (i := 0) (by decide +kernel) rfl, tk4 (i := 188) rfl rfl⟩
def M_X5_undo : MM := (yX5_undo, cX5_undo, 2, none, [], 1, 21, 0, 0)
theorem mp_X5_undo : mpOk M_X5_undo 0 := ⟨by decide +kernel, by decide +kernel, by decide +kernel⟩
theorem mv_X5_undo : mvOk M_X5_undo := ⟨tk7 (i := 6) (by decide +kernel) rfl, tk7 (i := 7) (by decide +kernel) rfl, tk1 (i := 6) (by decide +kernel) rfl, tk7 (i := 8) rfl rfl⟩
def M_X4_savedStates : MM := (yX4_savedStates, cX4_savedStates, 1, some .int, [], 0, 0, 0, 0)
theorem mp_X4_savedStates : mpOk M_X4_savedStates 0 := ⟨by decide +kernel, by decide +kernel, by decide +kernel⟩
theorem mv_X4_savedStates : mvOk M_X4_savedStates := ⟨tk1 (i := 233) (by decide +kernel) rfl, tk1 (i := 234) (by decide +kernel) rfl, tk1 (i := 1) (by decide +kernel) rfl, tk1 (i := 235) rfl rfl⟩
def M_X5_told : MM := (yX5_told, cX5_told, 2, some .int, [], 0, 0, 0, 0)
theorem mp_X5_told : mpOk M_X5_told 1 := ⟨by decide +kernel, by decide +kernel, by decide +kernel⟩
theorem mv_X5_told : mvOk M_X5_told := ⟨tk7 (i := 15) (by decide +kernel) rfl, pk (q := (yX5_told, 15)) (List.mem_of_getElem? (i := 53) (by decide +kernel)), tk1 (i := 6) (by decide +kernel) rfl, tk7 (i := 16) rfl rfl⟩
def M_X5_savedStates : MM := (yX5_savedStates, cX5_savedStates, 1, some .int, [], 1, 21, 0, 0)
theorem mp_X5_savedStates : mpOk M_X5_savedStates 0 := ⟨by decide +kernel, by decide +kernel, by decide +kernel⟩
theorem mv_X5_savedStates : mvOk M_X5_savedStates := ⟨tk7 (i := 10) (by decide +kernel) rfl, tk7 (i := 11) (by decide +kernel) rfl, tk1 (i := 6) (by decide +kernel) rfl, tk7 (i := 12) rfl rfl⟩
def M_X4_clauses : MM := (yX4_clauses, cX4_clauses, 1, some .int, [], 0, 0, 0, 0)
theorem mp_X4_clauses : mpOk M_X4_clauses 0 := ⟨by decide +kernel, by decide +kernel, by decide +kernel⟩
theorem mv_X4_clauses : mvOk M_X4_clauses := ⟨tk1 (i := 237) (by decide +kernel) rfl, tk1 (i := 238) (by decide +kernel) rfl, tk1 (i := 1) (by decide +kernel) rfl, tk1 (i := 239) rfl rfl⟩
def M_X5_clauses : MM := (yX5_clauses, cX5_clauses, 1, some .int, [], 1, 21, 0, 0)
theorem mp_X5_clauses : mpOk M_X5_clauses 0 := ⟨by decide +kernel, by decide +kernel, by decide +kernel⟩
theorem mv_X5_clauses : mvOk M_X5_clauses := ⟨tk7 (i := 18) (by decide +kernel) rfl, tk7 (i := 19) (by decide +kernel) rfl, tk1 (i := 6) (by decide +kernel) rfl, tk7 (i := 20) rfl rfl⟩
def M_X4_reelOf : MM := (yX4_reelOf, cX4_reelOf, 2, some .int, [], 7, 107, 1, 6)
theorem mp_X4_reelOf : mpOk M_X4_reelOf 1 := ⟨by decide +kernel, by decide +kernel, by decide +kernel⟩
theorem mv_X4_reelOf : mvOk M_X4_reelOf := ⟨tk4 (i := 202) (by decide +kernel) rfl, tk4 (i := 203) (by decide +kernel) rfl, tk1 (i := 1) (by decide +kernel) rfl, tk4 (i := 204) rfl rfl⟩
def M_L_reelOf : MM := (yL_reelOf, cL_reelOf, 4, some .int, [(0, 9, 12, 13)], 8, 128, 1, 6)
theorem mp_L_reelOf : mpOk M_L_reelOf 3 := ⟨by decide +kernel, by decide +kernel, by decide +kernel⟩
theorem ms_L_reelOf : msOk M_L_reelOf := ⟨tk4 (i := 199) (by decide +kernel) rfl, tk1 (i := 0) (by decide +kernel) rfl, tk4 (i := 200) rfl rfl⟩
def M_X5_ofClause : MM := (yX5_ofClause, cX5_ofClause, 3, some .int, [], 2, 43, 0, 0)
theorem mp_X5_ofClause : mpOk M_X5_ofClause 2 := ⟨by decide +kernel, by decide +kernel, by decide +kernel⟩
theorem mv_X5_ofClause : mvOk M_X5_ofClause := ⟨tk7 (i := 27) (by decide +kernel) rfl, pk (q := (yX5_ofClause, 15)) (List.mem_of_getElem? (i := 54) (by decide +kernel)), tk1 (i := 6) (by decide +kernel) rfl, tk7 (i := 28) rfl rfl⟩
def M_X5_reelOf : MM := (yX5_reelOf, cX5_reelOf, 2, some .int, [], 3, 65, 0, 0)
theorem mp_X5_reelOf : mpOk M_X5_reelOf 1 := ⟨by decide +kernel, by decide +kernel, by decide +kernel⟩
theorem mv_X5_reelOf : mvOk M_X5_reelOf := ⟨tk7 (i := 22) (by decide +kernel) rfl, tk7 (i := 23) (by decide +kernel) rfl, tk1 (i := 6) (by decide +kernel) rfl, tk7 (i := 24) rfl rfl⟩
def M_X4_speakerOf : MM := (yX4_speakerOf, cX4_speakerOf, 2, some .int, [], 7, 107, 1, 6)
theorem mp_X4_speakerOf : mpOk M_X4_speakerOf 1 := ⟨by decide +kernel, by decide +kernel, by decide +kernel⟩
theorem mv_X4_speakerOf : mvOk M_X4_speakerOf := ⟨tk4 (i := 209) (by decide +kernel) rfl, tk4 (i := 210) (by decide +kernel) rfl, tk1 (i := 1) (by decide +kernel) rfl, tk4 (i := 211) rfl rfl⟩
def M_L_speakerOf : MM := (yL_speakerOf, cL_speakerOf, 4, some .int, [(0, 9, 12, 13)], 8, 128, 1, 6)
theorem mp_L_speakerOf : mpOk M_L_speakerOf 3 := ⟨by decide +kernel, by decide +kernel, by decide +kernel⟩
theorem ms_L_speakerOf : msOk M_L_speakerOf := ⟨tk4 (i := 206) (by decide +kernel) rfl, tk1 (i := 0) (by decide +kernel) rfl, tk4 (i := 207) rfl rfl⟩
def M_X5_speakerOf : MM := (yX5_speakerOf, cX5_speakerOf, 2, some .int, [], 3, 65, 0, 0)
theorem mp_X5_speakerOf : mpOk M_X5_speakerOf 1 := ⟨by decide +kernel, by decide +kernel, by decide +kernel⟩
theorem mv_X5_speakerOf : mvOk M_X5_speakerOf := ⟨tk7 (i := 30) (by decide +kernel) rfl, tk7 (i := 31) (by decide +kernel) rfl, tk1 (i := 6) (by decide +kernel) rfl, tk7 (i := 32) rfl rfl⟩
def M_X4_lipsOf : MM := (yX4_lipsOf, cX4_lipsOf, 2, some .int, [], 7, 107, 1, 6)
theorem mp_X4_lipsOf : mpOk M_X4_lipsOf 1 := ⟨by decide +kernel, by decide +kernel, by decide +kernel⟩
theorem mv_X4_lipsOf : mvOk M_X4_lipsOf := ⟨tk4 (i := 216) (by decide +kernel) rfl, tk4 (i := 217) (by decide +kernel) rfl, tk1 (i := 1) (by decide +kernel) rfl, tk4 (i := 218) rfl rfl⟩
def M_L_lipsOf : MM := (yL_lipsOf, cL_lipsOf, 4, some .int, [(0, 9, 12, 13)], 8, 128, 1, 6)
theorem mp_L_lipsOf : mpOk M_L_lipsOf 3 := ⟨by decide +kernel, by decide +kernel, by decide +kernel⟩
theorem ms_L_lipsOf : msOk M_L_lipsOf := ⟨tk4 (i := 213) (by decide +kernel) rfl, tk1 (i := 0) (by decide +kernel) rfl, tk4 (i := 214) rfl rfl⟩
def M_X5_lipsOf : MM := (yX5_lipsOf, cX5_lipsOf, 2, some .int, [], 3, 65, 0, 0)
theorem mp_X5_lipsOf : mpOk M_X5_lipsOf 1 := ⟨by decide +kernel, by decide +kernel, by decide +kernel⟩
theorem mv_X5_lipsOf : mvOk M_X5_lipsOf := ⟨tk7 (i := 34) (by decide +kernel) rfl, tk7 (i := 35) (by decide +kernel) rfl, tk1 (i := 6) (by decide +kernel) rfl, tk7 (i := 36) rfl rfl⟩
def M_X4_sighOf : MM := (yX4_sighOf, cX4_sighOf, 2, some .int, [], 7, 107, 1, 6)
theorem mp_X4_sighOf : mpOk M_X4_sighOf 1 := ⟨by decide +kernel, by decide +kernel, by decide +kernel⟩
theorem mv_X4_sighOf : mvOk M_X4_sighOf := ⟨tk4 (i := 223) (by decide +kernel) rfl, tk4 (i := 224) (by decide +kernel) rfl, tk1 (i := 1) (by decide +kernel) rfl, tk4 (i := 225) rfl rfl⟩
def M_L_sighOf : MM := (yL_sighOf, cL_sighOf, 4, some .int, [(0, 9, 12, 13)], 8, 128, 1, 6)
theorem mp_L_sighOf : mpOk M_L_sighOf 3 := ⟨by decide +kernel, by decide +kernel, by decide +kernel⟩
theorem ms_L_sighOf : msOk M_L_sighOf := ⟨tk4 (i := 220) (by decide +kernel) rfl, tk1 (i := 0) (by decide +kernel) rfl, tk4 (i := 221) rfl rfl⟩
def M_X5_sighOf : MM := (yX5_sighOf, cX5_sighOf, 2, some .int, [], 3, 65, 0, 0)
theorem mp_X5_sighOf : mpOk M_X5_sighOf 1 := ⟨by decide +kernel, by decide +kernel, by decide +kernel⟩
theorem mv_X5_sighOf : mvOk M_X5_sighOf := ⟨tk7 (i := 38) (by decide +kernel) rfl, tk7 (i := 39) (by decide +kernel) rfl, tk1 (i := 6) (by decide +kernel) rfl, tk7 (i := 40) rfl rfl⟩
def M_X5_isTranslated : MM := (yX5_isTranslated, cX5_isTranslated, 3, some .boolean, [], 3, 65, 0, 0)
theorem mp_X5_isTranslated : mpOk M_X5_isTranslated 2 := ⟨by decide +kernel, by decide +kernel, by decide +kernel⟩
theorem mv_X5_isTranslated : mvOk M_X5_isTranslated := ⟨tk7 (i := 42) (by decide +kernel) rfl, tk7 (i := 43) (by decide +kernel) rfl, tk1 (i := 6) (by decide +kernel) rfl, tk7 (i := 44) rfl rfl⟩
def M_X5_badTranslation : MM := (yX5_badTranslation, cX5_badTranslation, 3, some .int, [], 3, 65, 0, 0)
theorem mp_X5_badTranslation : mpOk M_X5_badTranslation 2 := ⟨by decide +kernel, by decide +kernel, by decide +kernel⟩
theorem mv_X5_badTranslation : mvOk M_X5_badTranslation := ⟨tk7 (i := 51) (by decide +kernel) rfl, pk (q := (yX5_badTranslation, 15)) (List.mem_of_getElem? (i := 55) (by decide +kernel)), tk1 (i := 6) (by decide +kernel) rfl, tk7 (i := 52) rfl rfl⟩
def M_X5_framesOf : MM := (yX5_framesOf, cX5_framesOf, 3, some .int, [], 4, 87, 0, 0)
theorem mp_X5_framesOf : mpOk M_X5_framesOf 2 := ⟨by decide +kernel, by decide +kernel, by decide +kernel⟩
theorem mv_X5_framesOf : mvOk M_X5_framesOf := ⟨tk7 (i := 46) (by decide +kernel) rfl, tk7 (i := 47) (by decide +kernel) rfl, tk1 (i := 6) (by decide +kernel) rfl, tk7 (i := 48) rfl rfl⟩
def M_X5_annexedOf : MM := (yX5_annexedOf, cX5_annexedOf, 3, some .int, [], 3, 65, 0, 0)
end XM24
