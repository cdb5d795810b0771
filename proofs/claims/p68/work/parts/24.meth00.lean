/-! the methods: their rows, and what the tables say of them -/
section XM20
def M_J6_bitCount_0f7a4 : MM := (yJ6_bitCount_0f7a4, cJ6_bitCount_0f7a4, 1, some .int, [], 0, 0, 0, 0)
theorem mp_J6_bitCount_0f7a4 : mpOk M_J6_bitCount_0f7a4 1 := ⟨by decide +kernel, by decide +kernel, by decide +kernel⟩
theorem ms_J6_bitCount_0f7a4 : msOk M_J6_bitCount_0f7a4 := ⟨tk2 (i := 178) (by decide +kernel) rfl, tk1 (i := 14) (by decide +kernel) rfl, tk2 (i := 179) rfl rfl⟩
def M_X4_clauses : MM := (yX4_clauses, cX4_clauses, 1, some .int, [], 0, 0, 0, 0)
theorem mp_X4_clauses : mpOk M_X4_clauses 0 := ⟨by decide +kernel, by decide +kernel, by decide +kernel⟩
theorem mv_X4_clauses : mvOk M_X4_clauses := ⟨tk1 (i := 235) (by decide +kernel) rfl, tk1 (i := 236) (by decide +kernel) rfl, tk1 (i := 1) (by decide +kernel) rfl, tk1 (i := 237) rfl rfl⟩
def M_X4_checkReel : MM := (yX4_checkReel, cX4_checkReel, 1, none, [], 6, 86, 1, 6)
theorem mp_X4_checkReel : mpOk M_X4_checkReel 1 := ⟨by decide +kernel, by decide +kernel, by decide +kernel⟩
theorem ms_X4_checkReel : msOk M_X4_checkReel := ⟨tk3 (i := 48) (by decide +kernel) rfl, tk1 (i := 1) (by decide +kernel) rfl, tk3 (i := 49) rfl rfl⟩
def M_X4_checkState : MM := (yX4_checkState, cX4_checkState, 1, none, [], 6, 86, 1, 6)
theorem mp_X4_checkState : mpOk M_X4_checkState 1 := ⟨by decide +kernel, by decide +kernel, by decide +kernel⟩
theorem ms_X4_checkState : msOk M_X4_checkState := ⟨tk3 (i := 119) (by decide +kernel) rfl, tk1 (i := 1) (by decide +kernel) rfl, tk3 (i := 120) rfl rfl⟩
def M_X4_checkRange : MM := (yX4_checkRange, cX4_checkRange, 3, none, [], 6, 86, 1, 6)
theorem mp_X4_checkRange : mpOk M_X4_checkRange 3 := ⟨by decide +kernel, by decide +kernel, by decide +kernel⟩
theorem ms_X4_checkRange : msOk M_X4_checkRange := ⟨tk3 (i := 123) (by decide +kernel) rfl, tk1 (i := 1) (by decide +kernel) rfl, tk3 (i := 124) rfl rfl⟩
def M_X4_treatyAt : MM := (yX4_treatyAt, cX4_treatyAt, 2, some (.object "SighTreaties$Treaty"), [], 0, 0, 0, 0)
theorem mp_X4_treatyAt : mpOk M_X4_treatyAt 2 := ⟨by decide +kernel, by decide +kernel, by decide +kernel⟩
theorem ms_X4_treatyAt : msOk M_X4_treatyAt := ⟨tk3 (i := 166) (by decide +kernel) rfl, tk1 (i := 1) (by decide +kernel) rfl, tk3 (i := 167) rfl rfl⟩
def M_X1_dropOldest : MM := (yX1_dropOldest, cX1_dropOldest, 3, none, [], 1, 21, 0, 0)
theorem mp_X1_dropOldest : mpOk M_X1_dropOldest 0 := ⟨by decide +kernel, by decide +kernel, by decide +kernel⟩
theorem mv_X1_dropOldest : mvOk M_X1_dropOldest := ⟨tk3 (i := 163) (by decide +kernel) rfl, pk (q := (yX1_dropOldest, 2)) (List.mem_of_getElem? (i := 19) (by decide +kernel)), tk1 (i := 3) (by decide +kernel) rfl, tk3 (i := 164) rfl rfl⟩
def M_X4_copyRow : MM := (yX4_copyRow, cX4_copyRow, 2, none, [], 1, 30, 0, 0)
theorem mp_X4_copyRow : mpOk M_X4_copyRow 2 := ⟨by decide +kernel, by decide +kernel, by decide +kernel⟩
theorem ms_X4_copyRow : msOk M_X4_copyRow := ⟨tk3 (i := 173) (by decide +kernel) rfl, tk1 (i := 1) (by decide +kernel) rfl, tk3 (i := 174) rfl rfl⟩
def M_X3_becomeLike : MM := (yX3_becomeLike, cX3_becomeLike, 2, none, [], 2, 51, 0, 0)
theorem mp_X3_becomeLike : mpOk M_X3_becomeLike 1 := ⟨by decide +kernel, by decide +kernel, by decide +kernel⟩
theorem mv_X3_becomeLike : mvOk M_X3_becomeLike := ⟨tk3 (i := 169) (by decide +kernel) rfl, tk3 (i := 170) (by decide +kernel) rfl, tk1 (i := 2) (by decide +kernel) rfl, tk3 (i := 171) rfl rfl⟩
def M_X1_push : MM := (yX1_push, cX1_push, 3, none, [], 3, 72, 0, 0)
theorem mp_X1_push : mpOk M_X1_push 1 := ⟨by decide +kernel, by decide +kernel, by decide +kernel⟩
theorem mv_X1_push : mvOk M_X1_push := ⟨tk3 (i := 158) (by decide +kernel) rfl, tk3 (i := 159) (by decide +kernel) rfl, tk1 (i := 3) (by decide +kernel) rfl, tk3 (i := 160) rfl rfl⟩
def M_X4_put : MM := (yX4_put, cX4_put, 3, none, [], 0, 0, 0, 0)
theorem mp_X4_put : mpOk M_X4_put 3 := ⟨by decide +kernel, by decide +kernel, by decide +kernel⟩
theorem ms_X4_put : msOk M_X4_put := ⟨tk1 (i := 208) (by decide +kernel) rfl, tk1 (i := 1) (by decide +kernel) rfl, tk1 (i := 209) rfl rfl⟩
def M_X3_place : MM := (yX3_place, cX3_place, 2, some .int, [], 0, 0, 0, 0)
theorem mp_X3_place : mpOk M_X3_place 2 := ⟨by decide +kernel, by decide +kernel, by decide +kernel⟩
theorem ms_X3_place : msOk M_X3_place := ⟨tk2 (i := 41) (by decide +kernel) rfl, tk1 (i := 2) (by decide +kernel) rfl, tk2 (i := 42) rfl rfl⟩
def M_X3_unmix : MM := (yX3_unmix, cX3_unmix, 3, none, [], 1, 22, 0, 0)
theorem mp_X3_unmix : mpOk M_X3_unmix 2 := ⟨by decide +kernel, by decide +kernel, by decide +kernel⟩
theorem mv_X3_unmix : mvOk M_X3_unmix := ⟨tk3 (i := 190) (by decide +kernel) rfl, pk (q := (yX3_unmix, 16)) (List.mem_of_getElem? (i := 20) (by decide +kernel)), tk1 (i := 2) (by decide +kernel) rfl, tk3 (i := 191) rfl rfl⟩
def M_X3_unmixEverywhere : MM := (yX3_unmixEverywhere, cX3_unmixEverywhere, 3, none, [], 2, 44, 0, 0)
theorem mp_X3_unmixEverywhere : mpOk M_X3_unmixEverywhere 1 := ⟨by decide +kernel, by decide +kernel, by decide +kernel⟩
theorem mv_X3_unmixEverywhere : mvOk M_X3_unmixEverywhere := ⟨tk3 (i := 185) (by decide +kernel) rfl, tk3 (i := 186) (by decide +kernel) rfl, tk1 (i := 2) (by decide +kernel) rfl, tk3 (i := 187) rfl rfl⟩
def M_X3_add : MM := (yX3_add, cX3_add, 6, some .int, [], 3, 66, 0, 0)
theorem mp_X3_add : mpOk M_X3_add 4 := ⟨by decide +kernel, by decide +kernel, by decide +kernel⟩
theorem mv_X3_add : mvOk M_X3_add := ⟨tk3 (i := 180) (by decide +kernel) rfl, tk3 (i := 181) (by decide +kernel) rfl, tk1 (i := 2) (by decide +kernel) rfl, tk3 (i := 182) rfl rfl⟩
def M_X4_addClause : MM := (yX4_addClause, cX4_addClause, 4, some .int, [], 7, 108, 4, 24)
theorem mp_X4_addClause : mpOk M_X4_addClause 3 := ⟨by decide +kernel, by decide +kernel, by decide +kernel⟩
theorem mv_X4_addClause : mvOk M_X4_addClause := ⟨tk3 (i := 44) (by decide +kernel) rfl, tk3 (i := 45) (by decide +kernel) rfl, tk1 (i := 1) (by decide +kernel) rfl, tk3 (i := 46) rfl rfl⟩
def M_L_addClause : MM := (yL_addClause, cL_addClause, 5, some .int, [(0, 7, 8, 15), (0, 7, 13, 17), (0, 7, 18, 19)], 8, 131, 4, 24)
theorem mp_L_addClause : mpOk M_L_addClause 4 := ⟨by decide +kernel, by decide +kernel, by decide +kernel⟩
theorem ms_L_addClause : msOk M_L_addClause := ⟨tk3 (i := 38) (by decide +kernel) rfl, tk1 (i := 0) (by decide +kernel) rfl, tk3 (i := 39) rfl rfl⟩
def M_X4_checkClause : MM := (yX4_checkClause, cX4_checkClause, 2, none, [], 6, 86, 1, 6)
theorem mp_X4_checkClause : mpOk M_X4_checkClause 1 := ⟨by decide +kernel, by decide +kernel, by decide +kernel⟩
theorem mv_X4_checkClause : mvOk M_X4_checkClause := ⟨tk3 (i := 201) (by decide +kernel) rfl, pk (q := (yX4_checkClause, 6)) (List.mem_of_getElem? (i := 21) (by decide +kernel)), tk1 (i := 1) (by decide +kernel) rfl, tk3 (i := 202) rfl rfl⟩
def M_X4_at : MM := (yX4_at, cX4_at, 2, some .int, [], 0, 0, 0, 0)
theorem mp_X4_at : mpOk M_X4_at 2 := ⟨by decide +kernel, by decide +kernel, by decide +kernel⟩
theorem ms_X4_at : msOk M_X4_at := ⟨tk1 (i := 197) (by decide +kernel) rfl, tk1 (i := 1) (by decide +kernel) rfl, tk1 (i := 198) rfl rfl⟩
def M_X3_isTaken : MM := (yX3_isTaken, cX3_isTaken, 3, some .boolean, [], 1, 21, 0, 0)
theorem mp_X3_isTaken : mpOk M_X3_isTaken 2 := ⟨by decide +kernel, by decide +kernel, by decide +kernel⟩
theorem mv_X3_isTaken : mvOk M_X3_isTaken := ⟨tk2 (i := 53) (by decide +kernel) rfl, tk2 (i := 54) (by decide +kernel) rfl, tk1 (i := 2) (by decide +kernel) rfl, tk2 (i := 55) rfl rfl⟩
def M_X3_isRecordedAnywhere : MM := (yX3_isRecordedAnywhere, cX3_isRecordedAnywhere, 3, some .boolean, [], 2, 43, 0, 0)
theorem mp_X3_isRecordedAnywhere : mpOk M_X3_isRecordedAnywhere 1 := ⟨by decide +kernel, by decide +kernel, by decide +kernel⟩
theorem mv_X3_isRecordedAnywhere : mvOk M_X3_isRecordedAnywhere := ⟨tk3 (i := 205) (by decide +kernel) rfl, tk3 (i := 206) (by decide +kernel) rfl, tk1 (i := 2) (by decide +kernel) rfl, tk3 (i := 207) rfl rfl⟩
def M_X3_sighAt : MM := (yX3_sighAt, cX3_sighAt, 2, some .int, [], 1, 21, 0, 0)
theorem mp_X3_sighAt : mpOk M_X3_sighAt 1 := ⟨by decide +kernel, by decide +kernel, by decide +kernel⟩
theorem mv_X3_sighAt : mvOk M_X3_sighAt := ⟨tk2 (i := 25) (by decide +kernel) rfl, tk2 (i := 26) (by decide +kernel) rfl, tk1 (i := 2) (by decide +kernel) rfl, tk2 (i := 27) rfl rfl⟩
def M_X3_lipsAt : MM := (yX3_lipsAt, cX3_lipsAt, 2, some .int, [], 1, 21, 0, 0)
theorem mp_X3_lipsAt : mpOk M_X3_lipsAt 1 := ⟨by decide +kernel, by decide +kernel, by decide +kernel⟩
theorem mv_X3_lipsAt : mvOk M_X3_lipsAt := ⟨tk2 (i := 21) (by decide +kernel) rfl, tk2 (i := 22) (by decide +kernel) rfl, tk1 (i := 2) (by decide +kernel) rfl, tk2 (i := 23) rfl rfl⟩
def M_X4_changeLips : MM := (yX4_changeLips, cX4_changeLips, 4, some .int, [], 7, 108, 3, 18)
theorem mp_X4_changeLips : mpOk M_X4_changeLips 2 := ⟨by decide +kernel, by decide +kernel, by decide +kernel⟩
theorem mv_X4_changeLips : mvOk M_X4_changeLips := ⟨tk4 (i := 91) (by decide +kernel) rfl, tk4 (i := 92) (by decide +kernel) rfl, tk1 (i := 1) (by decide +kernel) rfl, tk4 (i := 93) rfl rfl⟩
def M_L_changeLips : MM := (yL_changeLips, cL_changeLips, 4, some .int, [(0, 6, 7, 15), (0, 6, 11, 17), (0, 6, 15, 19)], 8, 131, 3, 18)
theorem mp_L_changeLips : mpOk M_L_changeLips 3 := ⟨by decide +kernel, by decide +kernel, by decide +kernel⟩
theorem ms_L_changeLips : msOk M_L_changeLips := ⟨tk4 (i := 88) (by decide +kernel) rfl, tk1 (i := 0) (by decide +kernel) rfl, tk4 (i := 89) rfl rfl⟩
def M_X4_changeSigh : MM := (yX4_changeSigh, cX4_changeSigh, 4, some .int, [], 7, 108, 3, 18)
theorem mp_X4_changeSigh : mpOk M_X4_changeSigh 2 := ⟨by decide +kernel, by decide +kernel, by decide +kernel⟩
theorem mv_X4_changeSigh : mvOk M_X4_changeSigh := ⟨tk3 (i := 196) (by decide +kernel) rfl, tk3 (i := 197) (by decide +kernel) rfl, tk1 (i := 1) (by decide +kernel) rfl, tk3 (i := 198) rfl rfl⟩
def M_L_changeSigh : MM := (yL_changeSigh, cL_changeSigh, 4, some .int, [(0, 6, 7, 15), (0, 6, 11, 17), (0, 6, 15, 19)], 8, 131, 3, 18)
theorem mp_L_changeSigh : mpOk M_L_changeSigh 3 := ⟨by decide +kernel, by decide +kernel, by decide +kernel⟩
theorem ms_L_changeSigh : msOk M_L_changeSigh := ⟨tk3 (i := 193) (by decide +kernel) rfl, tk1 (i := 0) (by decide +kernel) rfl, tk3 (i := 194) rfl rfl⟩
def M_X3_reelAt : MM := (yX3_reelAt, cX3_reelAt, 2, some .int, [], 1, 21, 0, 0)
theorem mp_X3_reelAt : mpOk M_X3_reelAt 1 := ⟨by decide +kernel, by decide +kernel, by decide +kernel⟩
theorem mv_X3_reelAt : mvOk M_X3_reelAt := ⟨tk2 (i := 12) (by decide +kernel) rfl, tk2 (i := 13) (by decide +kernel) rfl, tk1 (i := 2) (by decide +kernel) rfl, tk2 (i := 14) rfl rfl⟩
def M_X4_moveClause : MM := (yX4_moveClause, cX4_moveClause, 4, some .int, [], 7, 107, 3, 18)
theorem mp_X4_moveClause : mpOk M_X4_moveClause 2 := ⟨by decide +kernel, by decide +kernel, by decide +kernel⟩
end XM20
