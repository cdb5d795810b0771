/-! the methods: their rows, and what the tables say of them -/
section XM21
theorem mv_X5_saves : mvOk M_X5_saves := ⟨tk6 (i := 59) (by decide +kernel) rfl, pk (q := (yX5_saves, 15)) (List.mem_of_getElem? (i := 27) (by decide +kernel)), tk1 (i := 6) (by decide +kernel) rfl, tk6 (i := 60) (by decide +kernel) rfl⟩
def M_X5_at : MM := (yX5_at, cX5_at, 2, some .int, [], 0, 0, 0, 0)
theorem mp_X5_at : mpOk M_X5_at 2 := ⟨by decide +kernel, by decide +kernel, by decide +kernel⟩
theorem ms_X5_at : msOk M_X5_at := ⟨tk6 (i := 66) (by decide +kernel) rfl, tk1 (i := 6) (by decide +kernel) rfl, tk6 (i := 67) (by decide +kernel) rfl⟩
def M_X5_unmix : MM := (yX5_unmix, cX5_unmix, 3, none, [], 0, 0, 0, 0)
theorem mp_X5_unmix : mpOk M_X5_unmix 2 := ⟨by decide +kernel, by decide +kernel, by decide +kernel⟩
theorem mv_X5_unmix : mvOk M_X5_unmix := ⟨tk6 (i := 74) (by decide +kernel) rfl, pk (q := (yX5_unmix, 15)) (List.mem_of_getElem? (i := 30) (by decide +kernel)), tk1 (i := 6) (by decide +kernel) rfl, tk6 (i := 75) (by decide +kernel) rfl⟩
def M_X5_unmixes : MM := (yX5_unmixes, cX5_unmixes, 3, none, [], 1, 22, 0, 0)
theorem mp_X5_unmixes : mpOk M_X5_unmixes 1 := ⟨by decide +kernel, by decide +kernel, by decide +kernel⟩
theorem mv_X5_unmixes : mvOk M_X5_unmixes := ⟨tk6 (i := 70) (by decide +kernel) rfl, pk (q := (yX5_unmixes, 15)) (List.mem_of_getElem? (i := 29) (by decide +kernel)), tk1 (i := 6) (by decide +kernel) rfl, tk6 (i := 71) (by decide +kernel) rfl⟩
def M_X5_adds : MM := (yX5_adds, cX5_adds, 7, none, [], 2, 44, 0, 0)
theorem mp_X5_adds : mpOk M_X5_adds 4 := ⟨by decide +kernel, by decide +kernel, by decide +kernel⟩
theorem mv_X5_adds : mvOk M_X5_adds := ⟨tk6 (i := 63) (by decide +kernel) rfl, pk (q := (yX5_adds, 15)) (List.mem_of_getElem? (i := 28) (by decide +kernel)), tk1 (i := 6) (by decide +kernel) rfl, tk6 (i := 64) (by decide +kernel) rfl⟩
def M_X5_addClause : MM := (yX5_addClause, cX5_addClause, 4, some .int, [], 3, 70, 0, 0)
theorem mp_X5_addClause : mpOk M_X5_addClause 3 := ⟨by decide +kernel, by decide +kernel, by decide +kernel⟩
theorem mv_X5_addClause : mvOk M_X5_addClause := ⟨tk6 (i := 41) (by decide +kernel) rfl, tk6 (i := 42) (by decide +kernel) rfl, tk1 (i := 6) (by decide +kernel) rfl, tk6 (i := 43) (by decide +kernel) rfl⟩
def M_X5_thrown : MM := (yX5_thrown, cX5_thrown, 1, some .int, [], 0, 0, 0, 0)
theorem mp_X5_thrown : mpOk M_X5_thrown 0 := ⟨by decide +kernel, by decide +kernel, by decide +kernel⟩
theorem mv_X5_thrown : mvOk M_X5_thrown := ⟨tk6 (i := 37) (by decide +kernel) rfl, tk6 (i := 38) (by decide +kernel) rfl, tk1 (i := 6) (by decide +kernel) rfl, tk6 (i := 39) (by decide +kernel) rfl⟩
def M_X5_isClause : MM := (yX5_isClause, cX5_isClause, 2, some .boolean, [], 1, 22, 0, 0)
theorem mp_X5_isClause : mpOk M_X5_isClause 1 := ⟨by decide +kernel, by decide +kernel, by decide +kernel⟩
theorem mv_X5_isClause : mvOk M_X5_isClause := ⟨tk6 (i := 82) (by decide +kernel) rfl, pk (q := (yX5_isClause, 15)) (List.mem_of_getElem? (i := 31) (by decide +kernel)), tk1 (i := 6) (by decide +kernel) rfl, tk6 (i := 83) (by decide +kernel) rfl⟩
def M_X5_isTaken : MM := (yX5_isTaken, cX5_isTaken, 3, some .boolean, [], 1, 21, 0, 0)
theorem mp_X5_isTaken : mpOk M_X5_isTaken 2 := ⟨by decide +kernel, by decide +kernel, by decide +kernel⟩
theorem mv_X5_isTaken : mvOk M_X5_isTaken := ⟨tk6 (i := 90) (by decide +kernel) rfl, pk (q := (yX5_isTaken, 15)) (List.mem_of_getElem? (i := 33) (by decide +kernel)), tk1 (i := 6) (by decide +kernel) rfl, tk6 (i := 91) (by decide +kernel) rfl⟩
def M_X5_isTakenAnywhere : MM := (yX5_isTakenAnywhere, cX5_isTakenAnywhere, 2, some .boolean, [], 2, 43, 0, 0)
theorem mp_X5_isTakenAnywhere : mpOk M_X5_isTakenAnywhere 1 := ⟨by decide +kernel, by decide +kernel, by decide +kernel⟩
theorem mv_X5_isTakenAnywhere : mvOk M_X5_isTakenAnywhere := ⟨tk6 (i := 86) (by decide +kernel) rfl, pk (q := (yX5_isTakenAnywhere, 15)) (List.mem_of_getElem? (i := 32) (by decide +kernel)), tk1 (i := 6) (by decide +kernel) rfl, tk6 (i := 87) (by decide +kernel) rfl⟩
def M_X5_sets : MM := (yX5_sets, cX5_sets, 4, some .int, [], 1, 21, 0, 0)
theorem mp_X5_sets : mpOk M_X5_sets 2 := ⟨by decide +kernel, by decide +kernel, by decide +kernel⟩
theorem mv_X5_sets : mvOk M_X5_sets := ⟨tk6 (i := 94) (by decide +kernel) rfl, pk (q := (yX5_sets, 15)) (List.mem_of_getElem? (i := 34) (by decide +kernel)), tk1 (i := 6) (by decide +kernel) rfl, tk6 (i := 95) (by decide +kernel) rfl⟩
def M_X5_changeLips : MM := (yX5_changeLips, cX5_changeLips, 3, some .int, [], 3, 64, 0, 0)
theorem mp_X5_changeLips : mpOk M_X5_changeLips 2 := ⟨by decide +kernel, by decide +kernel, by decide +kernel⟩
theorem mv_X5_changeLips : mvOk M_X5_changeLips := ⟨tk6 (i := 77) (by decide +kernel) rfl, tk6 (i := 78) (by decide +kernel) rfl, tk1 (i := 6) (by decide +kernel) rfl, tk6 (i := 79) (by decide +kernel) rfl⟩
def M_X5_changeSigh : MM := (yX5_changeSigh, cX5_changeSigh, 3, some .int, [], 3, 64, 0, 0)
theorem mp_X5_changeSigh : mpOk M_X5_changeSigh 2 := ⟨by decide +kernel, by decide +kernel, by decide +kernel⟩
theorem mv_X5_changeSigh : mvOk M_X5_changeSigh := ⟨tk6 (i := 97) (by decide +kernel) rfl, tk6 (i := 98) (by decide +kernel) rfl, tk1 (i := 6) (by decide +kernel) rfl, tk6 (i := 99) (by decide +kernel) rfl⟩
def M_X4_moveClause : MM := (yX4_moveClause, cX4_moveClause, 4, some .int, [], 7, 107, 3, 18)
theorem mp_X4_moveClause : mpOk M_X4_moveClause 2 := ⟨by decide +kernel, by decide +kernel, by decide +kernel⟩
theorem mv_X4_moveClause : mvOk M_X4_moveClause := ⟨tk4 (i := 3) (by decide +kernel) rfl, tk4 (i := 4) (by decide +kernel) rfl, tk1 (i := 1) (by decide +kernel) rfl, tk4 (i := 5) (by decide +kernel) rfl⟩
def M_L_moveClause : MM := (yL_moveClause, cL_moveClause, 5, some .int, [(0, 10, 13, 13), (0, 10, 17, 17)], 8, 130, 3, 18)
theorem mp_L_moveClause : mpOk M_L_moveClause 4 := ⟨by decide +kernel, by decide +kernel, by decide +kernel⟩
theorem ms_L_moveClause : msOk M_L_moveClause := ⟨tk4 (i := 0) (by decide +kernel) rfl, tk1 (i := 0) (by decide +kernel) rfl, tk4 (i := 1) (by decide +kernel) rfl⟩
def M_X5_moveClause : MM := (yX5_moveClause, cX5_moveClause, 4, some .int, [], 3, 64, 0, 0)
theorem mp_X5_moveClause : mpOk M_X5_moveClause 2 := ⟨by decide +kernel, by decide +kernel, by decide +kernel⟩
theorem mv_X5_moveClause : mvOk M_X5_moveClause := ⟨tk6 (i := 101) (by decide +kernel) rfl, tk6 (i := 102) (by decide +kernel) rfl, tk1 (i := 6) (by decide +kernel) rfl, tk6 (i := 103) (by decide +kernel) rfl⟩
def M_X3_roomAt : MM := (yX3_roomAt, cX3_roomAt, 3, some .int, [], 2, 43, 0, 0)
theorem mp_X3_roomAt : mpOk M_X3_roomAt 2 := ⟨by decide +kernel, by decide +kernel, by decide +kernel⟩
theorem mv_X3_roomAt : mvOk M_X3_roomAt := ⟨tk2 (i := 133) (by decide +kernel) rfl, tk2 (i := 134) (by decide +kernel) rfl, tk1 (i := 2) (by decide +kernel) rfl, tk2 (i := 135) (by decide +kernel) rfl⟩
def M_X4_translate : MM := (yX4_translate, cX4_translate, 4, some .int, [], 8, 129, 4, 24)
theorem mp_X4_translate : mpOk M_X4_translate 3 := ⟨by decide +kernel, by decide +kernel, by decide +kernel⟩
theorem mv_X4_translate : mvOk M_X4_translate := ⟨tk4 (i := 12) (by decide +kernel) rfl, tk4 (i := 13) (by decide +kernel) rfl, tk1 (i := 1) (by decide +kernel) rfl, tk4 (i := 14) (by decide +kernel) rfl⟩
def M_L_translate : MM := (yL_translate, cL_translate, 6, some .int, [(0, 12, 15, 13), (0, 12, 19, 15), (0, 12, 23, 17)], 9, 152, 4, 24)
theorem mp_L_translate : mpOk M_L_translate 5 := ⟨by decide +kernel, by decide +kernel, by decide +kernel⟩
theorem ms_L_translate : msOk M_L_translate := ⟨tk4 (i := 9) (by decide +kernel) rfl, tk1 (i := 0) (by decide +kernel) rfl, tk4 (i := 10) (by decide +kernel) rfl⟩
def M_X5_isTongue : MM := (yX5_isTongue, cX5_isTongue, 1, some .boolean, [], 1, 22, 0, 0)
theorem mp_X5_isTongue : mpOk M_X5_isTongue 1 := ⟨by decide +kernel, by decide +kernel, by decide +kernel⟩
theorem ms_X5_isTongue : msOk M_X5_isTongue := ⟨tk6 (i := 113) (by decide +kernel) rfl, tk1 (i := 6) (by decide +kernel) rfl, tk6 (i := 114) (by decide +kernel) rfl⟩
def M_X5_are : MM := (yX5_are, cX5_are, 3, some .boolean, [], 2, 43, 0, 0)
theorem mp_X5_are : mpOk M_X5_are 2 := ⟨by decide +kernel, by decide +kernel, by decide +kernel⟩
theorem mv_X5_are : mvOk M_X5_are := ⟨tk6 (i := 110) (by decide +kernel) rfl, pk (q := (yX5_are, 15)) (List.mem_of_getElem? (i := 35) (by decide +kernel)), tk1 (i := 6) (by decide +kernel) rfl, tk6 (i := 111) (by decide +kernel) rfl⟩
def M_X5_frames : MM := (yX5_frames, cX5_frames, 3, some .int, [], 1, 21, 0, 0)
theorem mp_X5_frames : mpOk M_X5_frames 2 := ⟨by decide +kernel, by decide +kernel, by decide +kernel⟩
theorem mv_X5_frames : mvOk M_X5_frames := ⟨tk6 (i := 121) (by decide +kernel) rfl, pk (q := (yX5_frames, 15)) (List.mem_of_getElem? (i := 37) (by decide +kernel)), tk1 (i := 6) (by decide +kernel) rfl, tk6 (i := 122) (by decide +kernel) rfl⟩
def M_X5_both : MM := (yX5_both, cX5_both, 3, some .int, [], 2, 43, 0, 0)
theorem mp_X5_both : mpOk M_X5_both 2 := ⟨by decide +kernel, by decide +kernel, by decide +kernel⟩
theorem mv_X5_both : mvOk M_X5_both := ⟨tk6 (i := 117) (by decide +kernel) rfl, pk (q := (yX5_both, 15)) (List.mem_of_getElem? (i := 36) (by decide +kernel)), tk1 (i := 6) (by decide +kernel) rfl, tk6 (i := 118) (by decide +kernel) rfl⟩
def M_X5_translate : MM := (yX5_translate, cX5_translate, 4, some .int, [], 3, 65, 0, 0)
theorem mp_X5_translate : mpOk M_X5_translate 3 := ⟨by decide +kernel, by decide +kernel, by decide +kernel⟩
theorem mv_X5_translate : mvOk M_X5_translate := ⟨tk6 (i := 105) (by decide +kernel) rfl, tk6 (i := 106) (by decide +kernel) rfl, tk1 (i := 6) (by decide +kernel) rfl, tk6 (i := 107) (by decide +kernel) rfl⟩
def M_X5_annexed : MM := (yX5_annexed, cX5_annexed, 4, some .int, [], 1, 21, 0, 0)
theorem mp_X5_annexed : mpOk M_X5_annexed 1 := ⟨by decide +kernel, by decide +kernel, by decide +kernel⟩
theorem mv_X5_annexed : mvOk M_X5_annexed := ⟨tk6 (i := 129) (by decide +kernel) rfl, pk (q := (yX5_annexed, 15)) (List.mem_of_getElem? (i := 38) (by decide +kernel)), tk1 (i := 6) (by decide +kernel) rfl, tk6 (i := 130) (by decide +kernel) rfl⟩
def M_X5_annex : MM := (yX5_annex, cX5_annex, 4, some .int, [], 3, 65, 0, 0)
theorem mp_X5_annex : mpOk M_X5_annex 3 := ⟨by decide +kernel, by decide +kernel, by decide +kernel⟩
theorem mv_X5_annex : mvOk M_X5_annex := ⟨tk6 (i := 124) (by decide +kernel) rfl, tk6 (i := 125) (by decide +kernel) rfl, tk1 (i := 6) (by decide +kernel) rfl, tk6 (i := 126) (by decide +kernel) rfl⟩
def M_X5_bringBack : MM := (yX5_bringBack, cX5_bringBack, 4, some .int, [], 3, 65, 0, 0)
theorem mp_X5_bringBack : mpOk M_X5_bringBack 2 := ⟨by decide +kernel, by decide +kernel, by decide +kernel⟩
theorem mv_X5_bringBack : mvOk M_X5_bringBack := ⟨tk6 (i := 132) (by decide +kernel) rfl, tk6 (i := 133) (by decide +kernel) rfl, tk1 (i := 6) (by decide +kernel) rfl, tk6 (i := 134) (by decide +kernel) rfl⟩
def M_X5_isVoice : MM := (yX5_isVoice, cX5_isVoice, 2, some .boolean, [], 2, 42, 0, 0)
theorem mp_X5_isVoice : mpOk M_X5_isVoice 2 := ⟨by decide +kernel, by decide +kernel, by decide +kernel⟩
theorem ms_X5_isVoice : msOk M_X5_isVoice := ⟨tk6 (i := 140) (by decide +kernel) rfl, tk1 (i := 6) (by decide +kernel) rfl, tk6 (i := 141) (by decide +kernel) rfl⟩
def M_X5_cast : MM := (yX5_cast, cX5_cast, 4, some .int, [], 3, 63, 0, 0)
theorem mp_X5_cast : mpOk M_X5_cast 3 := ⟨by decide +kernel, by decide +kernel, by decide +kernel⟩
theorem mv_X5_cast : mvOk M_X5_cast := ⟨tk6 (i := 136) (by decide +kernel) rfl, tk6 (i := 137) (by decide +kernel) rfl, tk1 (i := 6) (by decide +kernel) rfl, tk6 (i := 138) (by decide +kernel) rfl⟩
def M_X3_strengthAt : MM := (yX3_strengthAt, cX3_strengthAt, 3, some .int, [], 2, 43, 0, 0)
theorem mp_X3_strengthAt : mpOk M_X3_strengthAt 2 := ⟨by decide +kernel, by decide +kernel, by decide +kernel⟩
theorem mv_X3_strengthAt : mvOk M_X3_strengthAt := ⟨tk2 (i := 116) (by decide +kernel) rfl, tk2 (i := 117) (by decide +kernel) rfl, tk1 (i := 2) (by decide +kernel) rfl, tk2 (i := 118) (by decide +kernel) rfl⟩
def M_X3_reasonAt : MM := (yX3_reasonAt, cX3_reasonAt, 4, some .int, [], 3, 65, 0, 0)
theorem mp_X3_reasonAt : mpOk M_X3_reasonAt 2 := ⟨by decide +kernel, by decide +kernel, by decide +kernel⟩
theorem mv_X3_reasonAt : mvOk M_X3_reasonAt := ⟨tk2 (i := 104) (by decide +kernel) rfl, tk2 (i := 105) (by decide +kernel) rfl, tk1 (i := 2) (by decide +kernel) rfl, tk2 (i := 106) (by decide +kernel) rfl⟩
def M_X3_take : MM := (yX3_take, cX3_take, 4, none, [], 2, 43, 0, 0)
theorem mp_X3_take : mpOk M_X3_take 2 := ⟨by decide +kernel, by decide +kernel, by decide +kernel⟩
theorem mv_X3_take : mvOk M_X3_take := ⟨tk4 (i := 74) (by decide +kernel) rfl, tk4 (i := 75) (by decide +kernel) rfl, tk1 (i := 2) (by decide +kernel) rfl, tk4 (i := 76) (by decide +kernel) rfl⟩
def M_X4_record : MM := (yX4_record, cX4_record, 3, some .int, [], 8, 129, 3, 18)
theorem mp_X4_record : mpOk M_X4_record 2 := ⟨by decide +kernel, by decide +kernel, by decide +kernel⟩
theorem mv_X4_record : mvOk M_X4_record := ⟨tk4 (i := 69) (by decide +kernel) rfl, tk4 (i := 70) (by decide +kernel) rfl, tk1 (i := 1) (by decide +kernel) rfl, tk4 (i := 71) (by decide +kernel) rfl⟩
def M_L_record : MM := (yL_record, cL_record, 5, some .int, [(0, 10, 13, 13), (0, 10, 17, 17)], 9, 151, 3, 18)
theorem mp_L_record : mpOk M_L_record 4 := ⟨by decide +kernel, by decide +kernel, by decide +kernel⟩
theorem ms_L_record : msOk M_L_record := ⟨tk4 (i := 66) (by decide +kernel) rfl, tk1 (i := 0) (by decide +kernel) rfl, tk4 (i := 67) (by decide +kernel) rfl⟩
def M_X5_fitting : MM := (yX5_fitting, cX5_fitting, 3, some .boolean, [], 3, 65, 0, 0)
theorem mp_X5_fitting : mpOk M_X5_fitting 2 := ⟨by decide +kernel, by decide +kernel, by decide +kernel⟩
theorem mv_X5_fitting : mvOk M_X5_fitting := ⟨tk6 (i := 152) (by decide +kernel) rfl, pk (q := (yX5_fitting, 15)) (List.mem_of_getElem? (i := 40) (by decide +kernel)), tk1 (i := 6) (by decide +kernel) rfl, tk6 (i := 153) (by decide +kernel) rfl⟩
def M_X5_left : MM := (yX5_left, cX5_left, 3, some .int, [], 0, 0, 0, 0)
theorem mp_X5_left : mpOk M_X5_left 2 := ⟨by decide +kernel, by decide +kernel, by decide +kernel⟩
theorem mv_X5_left : mvOk M_X5_left := ⟨tk6 (i := 156) (by decide +kernel) rfl, pk (q := (yX5_left, 15)) (List.mem_of_getElem? (i := 41) (by decide +kernel)), tk1 (i := 6) (by decide +kernel) rfl, tk6 (i := 157) (by decide +kernel) rfl⟩
def M_X5_reason : MM := (yX5_reason, cX5_reason, 3, some .int, [], 4, 87, 0, 0)
theorem mp_X5_reason : mpOk M_X5_reason 2 := ⟨by decide +kernel, by decide +kernel, by decide +kernel⟩
theorem mv_X5_reason : mvOk M_X5_reason := ⟨tk6 (i := 148) (by decide +kernel) rfl, pk (q := (yX5_reason, 15)) (List.mem_of_getElem? (i := 39) (by decide +kernel)), tk1 (i := 6) (by decide +kernel) rfl, tk6 (i := 149) (by decide +kernel) rfl⟩
def M_X5_record : MM := (yX5_record, cX5_record, 4, some .int, [], 5, 109, 0, 0)
theorem mp_X5_record : mpOk M_X5_record 2 := ⟨by decide +kernel, by decide +kernel, by decide +kernel⟩
theorem mv_X5_record : mvOk M_X5_record := ⟨tk6 (i := 143) (by decide +kernel) rfl, tk6 (i := 144) (by decide +kernel) rfl, tk1 (i := 6) (by decide +kernel) rfl, tk6 (i := 145) (by decide +kernel) rfl⟩
def M_X4_checkTaken : MM := (yX4_checkTaken, cX4_checkTaken, 3, none, [], 6, 86, 1, 6)
theorem mp_X4_checkTaken : mpOk M_X4_checkTaken 2 := ⟨by decide +kernel, by decide +kernel, by decide +kernel⟩
theorem mv_X4_checkTaken : mvOk M_X4_checkTaken := ⟨tk4 (i := 86) (by decide +kernel) rfl, pk (q := (yX4_checkTaken, 6)) (List.mem_of_getElem? (i := 23) (by decide +kernel)), tk1 (i := 1) (by decide +kernel) rfl, tk4 (i := 87) (by decide +kernel) rfl⟩
def M_X3_takenIn : MM := (yX3_takenIn, cX3_takenIn, 3, some .int, [], 1, 21, 0, 0)
theorem mp_X3_takenIn : mpOk M_X3_takenIn 2 := ⟨by decide +kernel, by decide +kernel, by decide +kernel⟩
theorem mv_X3_takenIn : mvOk M_X3_takenIn := ⟨tk4 (i := 90) (by decide +kernel) rfl, tk4 (i := 91) (by decide +kernel) rfl, tk1 (i := 2) (by decide +kernel) rfl, tk4 (i := 92) (by decide +kernel) rfl⟩
def M_X3_dropTaken : MM := (yX3_dropTaken, cX3_dropTaken, 3, none, [], 2, 44, 0, 0)
theorem mp_X3_dropTaken : mpOk M_X3_dropTaken 2 := ⟨by decide +kernel, by decide +kernel, by decide +kernel⟩
theorem mv_X3_dropTaken : mvOk M_X3_dropTaken := ⟨tk4 (i := 94) (by decide +kernel) rfl, tk4 (i := 95) (by decide +kernel) rfl, tk1 (i := 2) (by decide +kernel) rfl, tk4 (i := 96) (by decide +kernel) rfl⟩
def M_X4_wipe : MM := (yX4_wipe, cX4_wipe, 4, some .int, [], 8, 129, 3, 18)
theorem mp_X4_wipe : mpOk M_X4_wipe 2 := ⟨by decide +kernel, by decide +kernel, by decide +kernel⟩
theorem mv_X4_wipe : mvOk M_X4_wipe := ⟨tk4 (i := 81) (by decide +kernel) rfl, tk4 (i := 82) (by decide +kernel) rfl, tk1 (i := 1) (by decide +kernel) rfl, tk4 (i := 83) (by decide +kernel) rfl⟩
def M_L_wipe : MM := (yL_wipe, cL_wipe, 5, some .int, [(0, 10, 13, 13), (0, 10, 17, 17)], 9, 152, 3, 18)
theorem mp_L_wipe : mpOk M_L_wipe 4 := ⟨by decide +kernel, by decide +kernel, by decide +kernel⟩
theorem ms_L_wipe : msOk M_L_wipe := ⟨tk4 (i := 78) (by decide +kernel) rfl, tk1 (i := 0) (by decide +kernel) rfl, tk4 (i := 79) (by decide +kernel) rfl⟩
def M_X5_wipe : MM := (yX5_wipe, cX5_wipe, 4, some .int, [], 3, 65, 0, 0)
theorem mp_X5_wipe : mpOk M_X5_wipe 2 := ⟨by decide +kernel, by decide +kernel, by decide +kernel⟩
theorem mv_X5_wipe : mvOk M_X5_wipe := ⟨tk6 (i := 159) (by decide +kernel) rfl, tk6 (i := 160) (by decide +kernel) rfl, tk1 (i := 6) (by decide +kernel) rfl, tk6 (i := 161) (by decide +kernel) rfl⟩
def M_X3_beginSession : MM := (yX3_beginSession, cX3_beginSession, 2, none, [], 0, 0, 0, 0)
theorem mp_X3_beginSession : mpOk M_X3_beginSession 0 := ⟨by decide +kernel, by decide +kernel, by decide +kernel⟩
theorem mv_X3_beginSession : mvOk M_X3_beginSession := ⟨tk4 (i := 106) (by decide +kernel) rfl, tk4 (i := 107) (by decide +kernel) rfl, tk1 (i := 2) (by decide +kernel) rfl, tk4 (i := 108) (by decide +kernel) rfl⟩
def M_X4_nextSession : MM := (yX4_nextSession, cX4_nextSession, 1, some .int, [], 6, 94, 1, 6)
theorem mp_X4_nextSession : mpOk M_X4_nextSession 0 := ⟨by decide +kernel, by decide +kernel, by decide +kernel⟩
theorem mv_X4_nextSession : mvOk M_X4_nextSession := ⟨tk4 (i := 101) (by decide +kernel) rfl, tk4 (i := 102) (by decide +kernel) rfl, tk1 (i := 1) (by decide +kernel) rfl, tk4 (i := 103) (by decide +kernel) rfl⟩
def M_L_nextSession : MM := (yL_nextSession, cL_nextSession, 3, some .int, [(0, 8, 11, 17)], 7, 114, 1, 6)
theorem mp_L_nextSession : mpOk M_L_nextSession 2 := ⟨by decide +kernel, by decide +kernel, by decide +kernel⟩
theorem ms_L_nextSession : msOk M_L_nextSession := ⟨tk4 (i := 98) (by decide +kernel) rfl, tk1 (i := 0) (by decide +kernel) rfl, tk4 (i := 99) (by decide +kernel) rfl⟩
def M_X5_nextSession : MM := (yX5_nextSession, cX5_nextSession, 2, some .int, [], 1, 21, 0, 0)
theorem mp_X5_nextSession : mpOk M_X5_nextSession 0 := ⟨by decide +kernel, by decide +kernel, by decide +kernel⟩
theorem mv_X5_nextSession : mvOk M_X5_nextSession := ⟨tk6 (i := 163) (by decide +kernel) rfl, tk6 (i := 164) (by decide +kernel) rfl, tk1 (i := 6) (by decide +kernel) rfl, tk6 (i := 165) (by decide +kernel) rfl⟩
def M_X3_putMix : MM := (yX3_putMix, cX3_putMix, 3, none, [], 1, 22, 0, 0)
theorem mp_X3_putMix : mpOk M_X3_putMix 2 := ⟨by decide +kernel, by decide +kernel, by decide +kernel⟩
theorem mv_X3_putMix : mvOk M_X3_putMix := ⟨tk4 (i := 118) (by decide +kernel) rfl, tk4 (i := 119) (by decide +kernel) rfl, tk1 (i := 2) (by decide +kernel) rfl, tk4 (i := 120) (by decide +kernel) rfl⟩
def M_X3_silenceIn : MM := (yX3_silenceIn, cX3_silenceIn, 5, some .int, [], 3, 65, 0, 0)
theorem mp_X3_silenceIn : mpOk M_X3_silenceIn 2 := ⟨by decide +kernel, by decide +kernel, by decide +kernel⟩
theorem mv_X3_silenceIn : mvOk M_X3_silenceIn := ⟨tk4 (i := 122) (by decide +kernel) rfl, tk4 (i := 123) (by decide +kernel) rfl, tk1 (i := 2) (by decide +kernel) rfl, tk4 (i := 124) (by decide +kernel) rfl⟩
def M_X4_mix : MM := (yX4_mix, cX4_mix, 3, some .int, [], 7, 106, 3, 18)
theorem mp_X4_mix : mpOk M_X4_mix 2 := ⟨by decide +kernel, by decide +kernel, by decide +kernel⟩
theorem mv_X4_mix : mvOk M_X4_mix := ⟨tk4 (i := 113) (by decide +kernel) rfl, tk4 (i := 114) (by decide +kernel) rfl, tk1 (i := 1) (by decide +kernel) rfl, tk4 (i := 115) (by decide +kernel) rfl⟩
def M_L_mix : MM := (yL_mix, cL_mix, 5, some .int, [(0, 10, 13, 13), (0, 10, 17, 17)], 8, 128, 3, 18)
theorem mp_L_mix : mpOk M_L_mix 4 := ⟨by decide +kernel, by decide +kernel, by decide +kernel⟩
theorem ms_L_mix : msOk M_L_mix := ⟨tk4 (i := 110) (by decide +kernel) rfl, tk1 (i := 0) (by decide +kernel) rfl, tk4 (i := 111) (by decide +kernel) rfl⟩
def M_X5_isPlace : MM := (yX5_isPlace, cX5_isPlace, 2, some .boolean, [], 2, 42, 0, 0)
theorem mp_X5_isPlace : mpOk M_X5_isPlace 2 := ⟨by decide +kernel, by decide +kernel, by decide +kernel⟩
theorem ms_X5_isPlace : msOk M_X5_isPlace := ⟨tk6 (i := 171) (by decide +kernel) rfl, tk1 (i := 6) (by decide +kernel) rfl, tk6 (i := 172) (by decide +kernel) rfl⟩
def M_X5_mixed : MM := (yX5_mixed, cX5_mixed, 3, some .boolean, [], 0, 0, 0, 0)
theorem mp_X5_mixed : mpOk M_X5_mixed 2 := ⟨by decide +kernel, by decide +kernel, by decide +kernel⟩
theorem mv_X5_mixed : mvOk M_X5_mixed := ⟨tk6 (i := 175) (by decide +kernel) rfl, pk (q := (yX5_mixed, 15)) (List.mem_of_getElem? (i := 42) (by decide +kernel)), tk1 (i := 6) (by decide +kernel) rfl, tk6 (i := 176) (by decide +kernel) rfl⟩
def M_X5_complete : MM := (yX5_complete, cX5_complete, 7, some .boolean, [], 2, 43, 0, 0)
theorem mp_X5_complete : mpOk M_X5_complete 2 := ⟨by decide +kernel, by decide +kernel, by decide +kernel⟩
theorem mv_X5_complete : mvOk M_X5_complete := ⟨tk6 (i := 179) (by decide +kernel) rfl, pk (q := (yX5_complete, 15)) (List.mem_of_getElem? (i := 43) (by decide +kernel)), tk1 (i := 6) (by decide +kernel) rfl, tk6 (i := 180) (by decide +kernel) rfl⟩
def M_X5_mix : MM := (yX5_mix, cX5_mix, 5, some .int, [], 3, 69, 0, 0)
theorem mp_X5_mix : mpOk M_X5_mix 2 := ⟨by decide +kernel, by decide +kernel, by decide +kernel⟩
theorem mv_X5_mix : mvOk M_X5_mix := ⟨tk6 (i := 167) (by decide +kernel) rfl, tk6 (i := 168) (by decide +kernel) rfl, tk1 (i := 6) (by decide +kernel) rfl, tk6 (i := 169) (by decide +kernel) rfl⟩
def M_X3_putSignature : MM := (yX3_putSignature, cX3_putSignature, 5, none, [], 1, 22, 0, 0)
theorem mp_X3_putSignature : mpOk M_X3_putSignature 3 := ⟨by decide +kernel, by decide +kernel, by decide +kernel⟩
theorem mv_X3_putSignature : mvOk M_X3_putSignature := ⟨tk4 (i := 136) (by decide +kernel) rfl, tk4 (i := 137) (by decide +kernel) rfl, tk1 (i := 2) (by decide +kernel) rfl, tk4 (i := 138) (by decide +kernel) rfl⟩
def M_X4_sign : MM := (yX4_sign, cX4_sign, 4, some .int, [], 7, 106, 4, 24)
theorem mp_X4_sign : mpOk M_X4_sign 3 := ⟨by decide +kernel, by decide +kernel, by decide +kernel⟩
theorem mv_X4_sign : mvOk M_X4_sign := ⟨tk4 (i := 129) (by decide +kernel) rfl, tk4 (i := 130) (by decide +kernel) rfl, tk1 (i := 1) (by decide +kernel) rfl, tk4 (i := 131) (by decide +kernel) rfl⟩
def M_L_sign : MM := (yL_sign, cL_sign, 6, some .int, [(0, 12, 15, 13), (0, 12, 19, 17)], 8, 129, 4, 24)
theorem mp_L_sign : mpOk M_L_sign 5 := ⟨by decide +kernel, by decide +kernel, by decide +kernel⟩
theorem ms_L_sign : msOk M_L_sign := ⟨tk4 (i := 126) (by decide +kernel) rfl, tk1 (i := 0) (by decide +kernel) rfl, tk4 (i := 127) (by decide +kernel) rfl⟩
def M_X5_speaks : MM := (yX5_speaks, cX5_speaks, 5, some .boolean, [], 1, 21, 0, 0)
theorem mp_X5_speaks : mpOk M_X5_speaks 2 := ⟨by decide +kernel, by decide +kernel, by decide +kernel⟩
theorem mv_X5_speaks : mvOk M_X5_speaks := ⟨tk6 (i := 187) (by decide +kernel) rfl, pk (q := (yX5_speaks, 15)) (List.mem_of_getElem? (i := 44) (by decide +kernel)), tk1 (i := 6) (by decide +kernel) rfl, tk6 (i := 188) (by decide +kernel) rfl⟩
def M_X5_signed : MM := (yX5_signed, cX5_signed, 4, some .boolean, [], 0, 0, 0, 0)
theorem mp_X5_signed : mpOk M_X5_signed 3 := ⟨by decide +kernel, by decide +kernel, by decide +kernel⟩
theorem mv_X5_signed : mvOk M_X5_signed := ⟨tk6 (i := 191) (by decide +kernel) rfl, pk (q := (yX5_signed, 15)) (List.mem_of_getElem? (i := 45) (by decide +kernel)), tk1 (i := 6) (by decide +kernel) rfl, tk6 (i := 192) (by decide +kernel) rfl⟩
def M_X5_missing : MM := (yX5_missing, cX5_missing, 5, some .int, [], 2, 45, 0, 0)
theorem mp_X5_missing : mpOk M_X5_missing 2 := ⟨by decide +kernel, by decide +kernel, by decide +kernel⟩
theorem mv_X5_missing : mvOk M_X5_missing := ⟨tk6 (i := 195) (by decide +kernel) rfl, pk (q := (yX5_missing, 15)) (List.mem_of_getElem? (i := 46) (by decide +kernel)), tk1 (i := 6) (by decide +kernel) rfl, tk6 (i := 196) (by decide +kernel) rfl⟩
def M_X5_sign : MM := (yX5_sign, cX5_sign, 4, some .int, [], 3, 69, 0, 0)
theorem mp_X5_sign : mpOk M_X5_sign 3 := ⟨by decide +kernel, by decide +kernel, by decide +kernel⟩
theorem mv_X5_sign : mvOk M_X5_sign := ⟨tk6 (i := 182) (by decide +kernel) rfl, tk6 (i := 183) (by decide +kernel) rfl, tk1 (i := 6) (by decide +kernel) rfl, tk6 (i := 184) (by decide +kernel) rfl⟩
def M_X5_append : MM := (yX5_append, cX5_append, 2, some .int, [], 1, 22, 0, 0)
theorem mp_X5_append : mpOk M_X5_append 1 := ⟨by decide +kernel, by decide +kernel, by decide +kernel⟩
theorem mv_X5_append : mvOk M_X5_append := ⟨tk6 (i := 198) (by decide +kernel) rfl, tk6 (i := 199) (by decide +kernel) rfl, tk1 (i := 6) (by decide +kernel) rfl, tk6 (i := 200) (by decide +kernel) rfl⟩
def M_X4_clearBuffer : MM := (yX4_clearBuffer, cX4_clearBuffer, 2, some .int, [], 0, 0, 0, 0)
theorem mp_X4_clearBuffer : mpOk M_X4_clearBuffer 0 := ⟨by decide +kernel, by decide +kernel, by decide +kernel⟩
theorem mv_X4_clearBuffer : mvOk M_X4_clearBuffer := ⟨tk1 (i := 187) (by decide +kernel) rfl, tk1 (i := 188) (by decide +kernel) rfl, tk1 (i := 1) (by decide +kernel) rfl, tk1 (i := 189) (by decide +kernel) rfl⟩
def M_X5_clearBuffer : MM := (yX5_clearBuffer, cX5_clearBuffer, 2, some .int, [], 0, 0, 0, 0)
theorem mp_X5_clearBuffer : mpOk M_X5_clearBuffer 0 := ⟨by decide +kernel, by decide +kernel, by decide +kernel⟩
theorem mv_X5_clearBuffer : mvOk M_X5_clearBuffer := ⟨tk6 (i := 202) (by decide +kernel) rfl, tk6 (i := 203) (by decide +kernel) rfl, tk1 (i := 6) (by decide +kernel) rfl, tk6 (i := 204) (by decide +kernel) rfl⟩
def M_X0_acceptsReel : MM := (yX0_acceptsReel, cX0_acceptsReel, 2, some .boolean, [], 1, 22, 0, 0)
theorem mp_X0_acceptsReel : mpOk M_X0_acceptsReel 1 := ⟨by decide +kernel, by decide +kernel, by decide +kernel⟩
theorem mv_X0_acceptsReel : mvOk M_X0_acceptsReel := ⟨tk1 (i := 207) (by decide +kernel) rfl, pk (q := (yX0_acceptsReel, 8)) (List.mem_of_getElem? (i := 1) (by decide +kernel)), tk1 (i := 4) (by decide +kernel) rfl, tk1 (i := 208) (by decide +kernel) rfl⟩
def M_X0_acceptsSpeaker : MM := (yX0_acceptsSpeaker, cX0_acceptsSpeaker, 2, some .boolean, [], 1, 22, 0, 0)
theorem mp_X0_acceptsSpeaker : mpOk M_X0_acceptsSpeaker 1 := ⟨by decide +kernel, by decide +kernel, by decide +kernel⟩
theorem mv_X0_acceptsSpeaker : mvOk M_X0_acceptsSpeaker := ⟨tk1 (i := 214) (by decide +kernel) rfl, pk (q := (yX0_acceptsSpeaker, 8)) (List.mem_of_getElem? (i := 2) (by decide +kernel)), tk1 (i := 4) (by decide +kernel) rfl, tk1 (i := 215) (by decide +kernel) rfl⟩
def M_X0_acceptsDigit : MM := (yX0_acceptsDigit, cX0_acceptsDigit, 5, some .boolean, [], 1, 22, 0, 0)
theorem mp_X0_acceptsDigit : mpOk M_X0_acceptsDigit 3 := ⟨by decide +kernel, by decide +kernel, by decide +kernel⟩
theorem mv_X0_acceptsDigit : mvOk M_X0_acceptsDigit := ⟨tk1 (i := 222) (by decide +kernel) rfl, pk (q := (yX0_acceptsDigit, 8)) (List.mem_of_getElem? (i := 4) (by decide +kernel)), tk1 (i := 4) (by decide +kernel) rfl, tk1 (i := 223) (by decide +kernel) rfl⟩
def M_X0_acceptsEnd : MM := (yX0_acceptsEnd, cX0_acceptsEnd, 2, some .boolean, [], 0, 0, 0, 0)
theorem mp_X0_acceptsEnd : mpOk M_X0_acceptsEnd 1 := ⟨by decide +kernel, by decide +kernel, by decide +kernel⟩
theorem mv_X0_acceptsEnd : mvOk M_X0_acceptsEnd := ⟨tk1 (i := 226) (by decide +kernel) rfl, pk (q := (yX0_acceptsEnd, 8)) (List.mem_of_getElem? (i := 5) (by decide +kernel)), tk1 (i := 4) (by decide +kernel) rfl, tk1 (i := 227) (by decide +kernel) rfl⟩
def M_X0_acceptsLips : MM := (yX0_acceptsLips, cX0_acceptsLips, 2, some .boolean, [], 2, 46, 0, 0)
theorem mp_X0_acceptsLips : mpOk M_X0_acceptsLips 1 := ⟨by decide +kernel, by decide +kernel, by decide +kernel⟩
theorem mv_X0_acceptsLips : mvOk M_X0_acceptsLips := ⟨tk1 (i := 218) (by decide +kernel) rfl, pk (q := (yX0_acceptsLips, 8)) (List.mem_of_getElem? (i := 3) (by decide +kernel)), tk1 (i := 4) (by decide +kernel) rfl, tk1 (i := 219) (by decide +kernel) rfl⟩
def M_X0_acceptsSigh : MM := (yX0_acceptsSigh, cX0_acceptsSigh, 2, some .boolean, [], 2, 46, 0, 0)
theorem mp_X0_acceptsSigh : mpOk M_X0_acceptsSigh 1 := ⟨by decide +kernel, by decide +kernel, by decide +kernel⟩
theorem mv_X0_acceptsSigh : mvOk M_X0_acceptsSigh := ⟨tk1 (i := 230) (by decide +kernel) rfl, pk (q := (yX0_acceptsSigh, 8)) (List.mem_of_getElem? (i := 6) (by decide +kernel)), tk1 (i := 4) (by decide +kernel) rfl, tk1 (i := 231) (by decide +kernel) rfl⟩
def M_X0_accepts : MM := (yX0_accepts, cX0_accepts, 2, some .boolean, [], 3, 67, 0, 0)
theorem mp_X0_accepts : mpOk M_X0_accepts 1 := ⟨by decide +kernel, by decide +kernel, by decide +kernel⟩
theorem mv_X0_accepts : mvOk M_X0_accepts := ⟨tk1 (i := 203) (by decide +kernel) rfl, pk (q := (yX0_accepts, 8)) (List.mem_of_getElem? (i := 0) (by decide +kernel)), tk1 (i := 4) (by decide +kernel) rfl, tk1 (i := 204) (by decide +kernel) rfl⟩
def M_X0_readToError : MM := (yX0_readToError, cX0_readToError, 2, some .int, [], 4, 88, 0, 0)
theorem mp_X0_readToError : mpOk M_X0_readToError 0 := ⟨by decide +kernel, by decide +kernel, by decide +kernel⟩
theorem mv_X0_readToError : mvOk M_X0_readToError := ⟨tk1 (i := 195) (by decide +kernel) rfl, tk1 (i := 196) (by decide +kernel) rfl, tk1 (i := 4) (by decide +kernel) rfl, tk1 (i := 197) (by decide +kernel) rfl⟩
def M_X4_firstError : MM := (yX4_firstError, cX4_firstError, 1, some .int, [], 5, 109, 0, 0)
theorem mp_X4_firstError : mpOk M_X4_firstError 0 := ⟨by decide +kernel, by decide +kernel, by decide +kernel⟩
theorem mv_X4_firstError : mvOk M_X4_firstError := ⟨tk1 (i := 191) (by decide +kernel) rfl, tk1 (i := 192) (by decide +kernel) rfl, tk1 (i := 1) (by decide +kernel) rfl, tk1 (i := 193) (by decide +kernel) rfl⟩
def M_X5_next : MM := (yX5_next, cX5_next, 1, some .int, [], 0, 0, 0, 0)
theorem mp_X5_next : mpOk M_X5_next 0 := ⟨by decide +kernel, by decide +kernel, by decide +kernel⟩
theorem mv_X5_next : mvOk M_X5_next := ⟨tk6 (i := 223) (by decide +kernel) rfl, pk (q := (yX5_next, 15)) (List.mem_of_getElem? (i := 50) (by decide +kernel)), tk1 (i := 6) (by decide +kernel) rfl, tk6 (i := 224) (by decide +kernel) rfl⟩
def M_X5_within : MM := (yX5_within, cX5_within, 4, some .int, [], 1, 22, 0, 0)
theorem mp_X5_within : mpOk M_X5_within 2 := ⟨by decide +kernel, by decide +kernel, by decide +kernel⟩
theorem mv_X5_within : mvOk M_X5_within := ⟨tk6 (i := 219) (by decide +kernel) rfl, pk (q := (yX5_within, 15)) (List.mem_of_getElem? (i := 49) (by decide +kernel)), tk1 (i := 6) (by decide +kernel) rfl, tk6 (i := 220) (by decide +kernel) rfl⟩
def M_X5_number : MM := (yX5_number, cX5_number, 6, some .int, [], 2, 45, 0, 0)
theorem mp_X5_number : mpOk M_X5_number 2 := ⟨by decide +kernel, by decide +kernel, by decide +kernel⟩
theorem mv_X5_number : mvOk M_X5_number := ⟨tk6 (i := 227) (by decide +kernel) rfl, pk (q := (yX5_number, 15)) (List.mem_of_getElem? (i := 51) (by decide +kernel)), tk1 (i := 6) (by decide +kernel) rfl, tk6 (i := 228) (by decide +kernel) rfl⟩
def M_X5_part : MM := (yX5_part, cX5_part, 1, none, [], 3, 70, 0, 0)
theorem mp_X5_part : mpOk M_X5_part 0 := ⟨by decide +kernel, by decide +kernel, by decide +kernel⟩
theorem mv_X5_part : mvOk M_X5_part := ⟨tk6 (i := 215) (by decide +kernel) rfl, pk (q := (yX5_part, 15)) (List.mem_of_getElem? (i := 48) (by decide +kernel)), tk1 (i := 6) (by decide +kernel) rfl, tk6 (i := 216) (by decide +kernel) rfl⟩
def M_X5_isWhole : MM := (yX5_isWhole, cX5_isWhole, 3, some .boolean, [], 4, 90, 0, 0)
theorem mp_X5_isWhole : mpOk M_X5_isWhole 0 := ⟨by decide +kernel, by decide +kernel, by decide +kernel⟩
theorem mv_X5_isWhole : mvOk M_X5_isWhole := ⟨tk6 (i := 211) (by decide +kernel) rfl, pk (q := (yX5_isWhole, 15)) (List.mem_of_getElem? (i := 47) (by decide +kernel)), tk1 (i := 6) (by decide +kernel) rfl, tk6 (i := 212) (by decide +kernel) rfl⟩
def M_X5_firstError : MM := (yX5_firstError, cX5_firstError, 1, some .int, [], 5, 112, 0, 0)
theorem mp_X5_firstError : mpOk M_X5_firstError 0 := ⟨by decide +kernel, by decide +kernel, by decide +kernel⟩
theorem mv_X5_firstError : mvOk M_X5_firstError := ⟨tk6 (i := 206) (by decide +kernel) rfl, tk6 (i := 207) (by decide +kernel) rfl, tk1 (i := 6) (by decide +kernel) rfl, tk6 (i := 208) (by decide +kernel) rfl⟩
def M_X0_readWhole : MM := (yX0_readWhole, cX0_readWhole, 1, some .boolean, [], 5, 109, 0, 0)
theorem mp_X0_readWhole : mpOk M_X0_readWhole 0 := ⟨by decide +kernel, by decide +kernel, by decide +kernel⟩
theorem mv_X0_readWhole : mvOk M_X0_readWhole := ⟨tk4 (i := 159) (by decide +kernel) rfl, tk4 (i := 160) (by decide +kernel) rfl, tk1 (i := 4) (by decide +kernel) rfl, tk4 (i := 161) (by decide +kernel) rfl⟩
def M_X0_hasSighBeyondLips : MM := (yX0_hasSighBeyondLips, cX0_hasSighBeyondLips, 3, some .boolean, [], 1, 21, 0, 0)
theorem mp_X0_hasSighBeyondLips : mpOk M_X0_hasSighBeyondLips 1 := ⟨by decide +kernel, by decide +kernel, by decide +kernel⟩
theorem mv_X0_hasSighBeyondLips : mvOk M_X0_hasSighBeyondLips := ⟨tk4 (i := 165) (by decide +kernel) rfl, tk4 (i := 166) (by decide +kernel) rfl, tk1 (i := 4) (by decide +kernel) rfl, tk4 (i := 167) (by decide +kernel) rfl⟩
def M_X4_load : MM := (yX4_load, cX4_load, 3, some .int, [], 6, 129, 1, 6)
theorem mp_X4_load : mpOk M_X4_load 0 := ⟨by decide +kernel, by decide +kernel, by decide +kernel⟩
theorem mv_X4_load : mvOk M_X4_load := ⟨tk4 (i := 155) (by decide +kernel) rfl, tk4 (i := 156) (by decide +kernel) rfl, tk1 (i := 1) (by decide +kernel) rfl, tk4 (i := 157) (by decide +kernel) rfl⟩
def M_L_load : MM := (yL_load, cL_load, 3, some .int, [(0, 8, 11, 15), (0, 8, 14, 17)], 7, 151, 1, 6)
theorem mp_L_load : mpOk M_L_load 2 := ⟨by decide +kernel, by decide +kernel, by decide +kernel⟩
theorem ms_L_load : msOk M_L_load := ⟨tk4 (i := 152) (by decide +kernel) rfl, tk1 (i := 0) (by decide +kernel) rfl, tk4 (i := 153) (by decide +kernel) rfl⟩
def M_X5_canLoad : MM := (yX5_canLoad, cX5_canLoad, 3, some .boolean, [], 4, 90, 0, 0)
theorem mp_X5_canLoad : mpOk M_X5_canLoad 0 := ⟨by decide +kernel, by decide +kernel, by decide +kernel⟩
theorem mv_X5_canLoad : mvOk M_X5_canLoad := ⟨tk6 (i := 235) (by decide +kernel) rfl, pk (q := (yX5_canLoad, 15)) (List.mem_of_getElem? (i := 52) (by decide +kernel)), tk1 (i := 6) (by decide +kernel) rfl, tk6 (i := 236) (by decide +kernel) rfl⟩
def M_X5_load : MM := (yX5_load, cX5_load, 1, some .int, [], 5, 112, 0, 0)
theorem mp_X5_load : mpOk M_X5_load 0 := ⟨by decide +kernel, by decide +kernel, by decide +kernel⟩
theorem mv_X5_load : mvOk M_X5_load := ⟨tk6 (i := 230) (by decide +kernel) rfl, tk6 (i := 231) (by decide +kernel) rfl, tk1 (i := 6) (by decide +kernel) rfl, tk6 (i := 232) (by decide +kernel) rfl⟩
def M_X5_keep : MM := (yX5_keep, cX5_keep, 3, none, [], 1, 22, 0, 0)
theorem mp_X5_keep : mpOk M_X5_keep 1 := ⟨by decide +kernel, by decide +kernel, by decide +kernel⟩
theorem mv_X5_keep : mvOk M_X5_keep := ⟨tk6 (i := 238) (by decide +kernel) rfl, tk6 (i := 239) (by decide +kernel) rfl, tk1 (i := 6) (by decide +kernel) rfl, tk7 (i := 0) (by decide +kernel) rfl⟩
def M_X5_goBack : MM := (yX5_goBack, cX5_goBack, 3, none, [], 1, 22, 0, 0)
theorem mp_X5_goBack : mpOk M_X5_goBack 1 := ⟨by decide +kernel, by decide +kernel, by decide +kernel⟩
theorem mv_X5_goBack : mvOk M_X5_goBack := ⟨tk7 (i := 2) (by decide +kernel) rfl, tk7 (i := 3) (by decide +kernel) rfl, tk1 (i := 6) (by decide +kernel) rfl, tk7 (i := 4) (by decide +kernel) rfl⟩
def M_X1_popInto : MM := (yX1_popInto, cX1_popInto, 2, none, [], 3, 72, 0, 0)
theorem mp_X1_popInto : mpOk M_X1_popInto 1 := ⟨by decide +kernel, by decide +kernel, by decide +kernel⟩
theorem mv_X1_popInto : mvOk M_X1_popInto := ⟨tk4 (i := 195) (by decide +kernel) rfl, tk4 (i := 196) (by decide +kernel) rfl, tk1 (i := 3) (by decide +kernel) rfl, tk4 (i := 197) (by decide +kernel) rfl⟩
def M_X4_undo : MM := (yX4_undo, cX4_undo, 1, none, [], 6, 93, 1, 6)
theorem mp_X4_undo : mpOk M_X4_undo 0 := ⟨by decide +kernel, by decide +kernel, by decide +kernel⟩
theorem mv_X4_undo : mvOk M_X4_undo := ⟨tk4 (i := 190) (by decide +kernel) rfl, tk4 (i := 191) (by decide +kernel) rfl, tk1 (i := 1) (by decide +kernel) rfl, tk4 (i := 192) (by decide +kernel) rfl⟩
def M_L_undo : MM := (yL_undo, cL_undo, 2, some .int, [(0, 4, 7, 17)], 7, 113, 1, 6)
theorem mp_L_undo : mpOk M_L_undo 1 := ⟨by decide +kernel, by decide +kernel, by decide +kernel⟩
theorem ms_L_undo : msOk M_L_undo := ⟨tk4 (i := 187) (by decide +kernel) rfl, tk1 (i := 0) (by decide +kernel) rfl, tk4 (i := 188) (by decide +kernel) rfl⟩
def M_X5_undo : MM := (yX5_undo, cX5_undo, 2, none, [], 1, 21, 0, 0)
theorem mp_X5_undo : mpOk M_X5_undo 0 := ⟨by decide +kernel, by decide +kernel, by decide +kernel⟩
theorem mv_X5_undo : mvOk M_X5_undo := ⟨tk7 (i := 6) (by decide +kernel) rfl, tk7 (i := 7) (by decide +kernel) rfl, tk1 (i := 6) (by decide +kernel) rfl, tk7 (i := 8) (by decide +kernel) rfl⟩
def M_X4_savedStates : MM := (yX4_savedStates, cX4_savedStates, 1, some .int, [], 0, 0, 0, 0)
theorem mp_X4_savedStates : mpOk M_X4_savedStates 0 := ⟨by decide +kernel, by decide +kernel, by decide +kernel⟩
theorem mv_X4_savedStates : mvOk M_X4_savedStates := ⟨tk1 (i := 233) (by decide +kernel) rfl, tk1 (i := 234) (by decide +kernel) rfl, tk1 (i := 1) (by decide +kernel) rfl, tk1 (i := 235) (by decide +kernel) rfl⟩
def M_X5_told : MM := (yX5_told, cX5_told, 2, some .int, [], 0, 0, 0, 0)
theorem mp_X5_told : mpOk M_X5_told 1 := ⟨by decide +kernel, by decide +kernel, by decide +kernel⟩
theorem mv_X5_told : mvOk M_X5_told := ⟨tk7 (i := 15) (by decide +kernel) rfl, pk (q := (yX5_told, 15)) (List.mem_of_getElem? (i := 53) (by decide +kernel)), tk1 (i := 6) (by decide +kernel) rfl, tk7 (i := 16) (by decide +kernel) rfl⟩
def M_X5_savedStates : MM := (yX5_savedStates, cX5_savedStates, 1, some .int, [], 1, 21, 0, 0)
theorem mp_X5_savedStates : mpOk M_X5_savedStates 0 := ⟨by decide +kernel, by decide +kernel, by decide +kernel⟩
theorem mv_X5_savedStates : mvOk M_X5_savedStates := ⟨tk7 (i := 10) (by decide +kernel) rfl, tk7 (i := 11) (by decide +kernel) rfl, tk1 (i := 6) (by decide +kernel) rfl, tk7 (i := 12) (by decide +kernel) rfl⟩
def M_X4_clauses : MM := (yX4_clauses, cX4_clauses, 1, some .int, [], 0, 0, 0, 0)
theorem mp_X4_clauses : mpOk M_X4_clauses 0 := ⟨by decide +kernel, by decide +kernel, by decide +kernel⟩
theorem mv_X4_clauses : mvOk M_X4_clauses := ⟨tk1 (i := 237) (by decide +kernel) rfl, tk1 (i := 238) (by decide +kernel) rfl, tk1 (i := 1) (by decide +kernel) rfl, tk1 (i := 239) (by decide +kernel) rfl⟩
def M_X5_clauses : MM := (yX5_clauses, cX5_clauses, 1, some .int, [], 1, 21, 0, 0)
theorem mp_X5_clauses : mpOk M_X5_clauses 0 := ⟨by decide +kernel, by decide +kernel, by decide +kernel⟩
theorem mv_X5_clauses : mvOk M_X5_clauses := ⟨tk7 (i := 18) (by decide +kernel) rfl, tk7 (i := 19) (by decide +kernel) rfl, tk1 (i := 6) (by decide +kernel) rfl, tk7 (i := 20) (by decide +kernel) rfl⟩
def M_X4_reelOf : MM := (yX4_reelOf, cX4_reelOf, 2, some .int, [], 7, 107, 1, 6)
theorem mp_X4_reelOf : mpOk M_X4_reelOf 1 := ⟨by decide +kernel, by decide +kernel, by decide +kernel⟩
theorem mv_X4_reelOf : mvOk M_X4_reelOf := ⟨tk4 (i := 202) (by decide +kernel) rfl, tk4 (i := 203) (by decide +kernel) rfl, tk1 (i := 1) (by decide +kernel) rfl, tk4 (i := 204) (by decide +kernel) rfl⟩
def M_L_reelOf : MM := (yL_reelOf, cL_reelOf, 4, some .int, [(0, 9, 12, 13)], 8, 128, 1, 6)
theorem mp_L_reelOf : mpOk M_L_reelOf 3 := ⟨by decide +kernel, by decide +kernel, by decide +kernel⟩
theorem ms_L_reelOf : msOk M_L_reelOf := ⟨tk4 (i := 199) (by decide +kernel) rfl, tk1 (i := 0) (by decide +kernel) rfl, tk4 (i := 200) (by decide +kernel) rfl⟩
def M_X5_ofClause : MM := (yX5_ofClause, cX5_ofClause, 3, some .int, [], 2, 43, 0, 0)
theorem mp_X5_ofClause : mpOk M_X5_ofClause 2 := ⟨by decide +kernel, by decide +kernel, by decide +kernel⟩
theorem mv_X5_ofClause : mvOk M_X5_ofClause := ⟨tk7 (i := 27) (by decide +kernel) rfl, pk (q := (yX5_ofClause, 15)) (List.mem_of_getElem? (i := 54) (by decide +kernel)), tk1 (i := 6) (by decide +kernel) rfl, tk7 (i := 28) (by decide +kernel) rfl⟩
def M_X5_reelOf : MM := (yX5_reelOf, cX5_reelOf, 2, some .int, [], 3, 65, 0, 0)
theorem mp_X5_reelOf : mpOk M_X5_reelOf 1 := ⟨by decide +kernel, by decide +kernel, by decide +kernel⟩
theorem mv_X5_reelOf : mvOk M_X5_reelOf := ⟨tk7 (i := 22) (by decide +kernel) rfl, tk7 (i := 23) (by decide +kernel) rfl, tk1 (i := 6) (by decide +kernel) rfl, tk7 (i := 24) (by decide +kernel) rfl⟩
def M_X4_speakerOf : MM := (yX4_speakerOf, cX4_speakerOf, 2, some .int, [], 7, 107, 1, 6)
theorem mp_X4_speakerOf : mpOk M_X4_speakerOf 1 := ⟨by decide +kernel, by decide +kernel, by decide +kernel⟩
theorem mv_X4_speakerOf : mvOk M_X4_speakerOf := ⟨tk4 (i := 209) (by decide +kernel) rfl, tk4 (i := 210) (by decide +kernel) rfl, tk1 (i := 1) (by decide +kernel) rfl, tk4 (i := 211) (by decide +kernel) rfl⟩
def M_L_speakerOf : MM := (yL_speakerOf, cL_speakerOf, 4, some .int, [(0, 9, 12, 13)], 8, 128, 1, 6)
theorem mp_L_speakerOf : mpOk M_L_speakerOf 3 := ⟨by decide +kernel, by decide +kernel, by decide +kernel⟩
theorem ms_L_speakerOf : msOk M_L_speakerOf := ⟨tk4 (i := 206) (by decide +kernel) rfl, tk1 (i := 0) (by decide +kernel) rfl, tk4 (i := 207) (by decide +kernel) rfl⟩
def M_X5_speakerOf : MM := (yX5_speakerOf, cX5_speakerOf, 2, some .int, [], 3, 65, 0, 0)
theorem mp_X5_speakerOf : mpOk M_X5_speakerOf 1 := ⟨by decide +kernel, by decide +kernel, by decide +kernel⟩
theorem mv_X5_speakerOf : mvOk M_X5_speakerOf := ⟨tk7 (i := 30) (by decide +kernel) rfl, tk7 (i := 31) (by decide +kernel) rfl, tk1 (i := 6) (by decide +kernel) rfl, tk7 (i := 32) (by decide +kernel) rfl⟩
def M_X4_lipsOf : MM := (yX4_lipsOf, cX4_lipsOf, 2, some .int, [], 7, 107, 1, 6)
end XM21
