/-! the methods: their rows, and what the tables say of them -/
section XM22
theorem mp_L_isRatified : mpOk M_L_isRatified 3 := ⟨by decide +kernel, by decide +kernel, by decide +kernel⟩
theorem ms_L_isRatified : msOk M_L_isRatified := ⟨tk5 (i := 180) (by decide +kernel) rfl, tk1 (i := 0) (by decide +kernel) rfl, tk5 (i := 181) rfl rfl⟩
def M_X4_isRecorded : MM := (yX4_isRecorded, cX4_isRecorded, 3, some .boolean, [], 8, 129, 2, 12)
theorem mp_X4_isRecorded : mpOk M_X4_isRecorded 2 := ⟨by decide +kernel, by decide +kernel, by decide +kernel⟩
theorem mv_X4_isRecorded : mvOk M_X4_isRecorded := ⟨tk5 (i := 16) (by decide +kernel) rfl, tk5 (i := 17) (by decide +kernel) rfl, tk1 (i := 1) (by decide +kernel) rfl, tk5 (i := 18) rfl rfl⟩
def M_L_isRecorded : MM := (yL_isRecorded, cL_isRecorded, 5, some .int, [(0, 17, 20, 13)], 9, 151, 2, 12)
theorem mp_L_isRecorded : mpOk M_L_isRecorded 4 := ⟨by decide +kernel, by decide +kernel, by decide +kernel⟩
theorem ms_L_isRecorded : msOk M_L_isRecorded := ⟨tk5 (i := 13) (by decide +kernel) rfl, tk1 (i := 0) (by decide +kernel) rfl, tk5 (i := 14) rfl rfl⟩
def M_X4_isTranslated : MM := (yX4_isTranslated, cX4_isTranslated, 3, some .boolean, [], 8, 129, 2, 12)
theorem mp_X4_isTranslated : mpOk M_X4_isTranslated 2 := ⟨by decide +kernel, by decide +kernel, by decide +kernel⟩
theorem mv_X4_isTranslated : mvOk M_X4_isTranslated := ⟨tk4 (i := 230) (by decide +kernel) rfl, tk4 (i := 231) (by decide +kernel) rfl, tk1 (i := 1) (by decide +kernel) rfl, tk4 (i := 232) rfl rfl⟩
def M_L_isTranslated : MM := (yL_isTranslated, cL_isTranslated, 5, some .int, [(0, 17, 20, 13)], 9, 151, 2, 12)
theorem mp_L_isTranslated : mpOk M_L_isTranslated 4 := ⟨by decide +kernel, by decide +kernel, by decide +kernel⟩
theorem ms_L_isTranslated : msOk M_L_isTranslated := ⟨tk4 (i := 227) (by decide +kernel) rfl, tk1 (i := 0) (by decide +kernel) rfl, tk4 (i := 228) rfl rfl⟩
def M_X4_keep : MM := (yX4_keep, cX4_keep, 3, none, [], 7, 108, 1, 6)
theorem mp_X4_keep : mpOk M_X4_keep 1 := ⟨by decide +kernel, by decide +kernel, by decide +kernel⟩
theorem mv_X4_keep : mvOk M_X4_keep := ⟨tk4 (i := 173) (by decide +kernel) rfl, tk4 (i := 174) (by decide +kernel) rfl, tk1 (i := 1) (by decide +kernel) rfl, tk4 (i := 175) rfl rfl⟩
def M_L_keep : MM := (yL_keep, cL_keep, 3, some .int, [(0, 5, 8, 15)], 8, 130, 1, 6)
theorem mp_L_keep : mpOk M_L_keep 2 := ⟨by decide +kernel, by decide +kernel, by decide +kernel⟩
theorem ms_L_keep : msOk M_L_keep := ⟨tk4 (i := 170) (by decide +kernel) rfl, tk1 (i := 0) (by decide +kernel) rfl, tk4 (i := 171) rfl rfl⟩
def M_X3_init : MM := (yX3_init, cX3_init, 2, none, [], 1, 12, 11, 366)
theorem mp_X3_init : mpOk M_X3_init 0 := ⟨by decide +kernel, by decide +kernel, by decide +kernel⟩
theorem mi_X3_init : miOk M_X3_init := ⟨rfl, tk1 (i := 28) (by decide +kernel) rfl, tk1 (i := 2) (by decide +kernel) rfl, tk1 (i := 29) rfl rfl⟩
def M_X1_init : MM := (yX1_init, cX1_init, 2, none, [], 2, 33, 73, 2298)
theorem mp_X1_init : mpOk M_X1_init 0 := ⟨by decide +kernel, by decide +kernel, by decide +kernel⟩
theorem mi_X1_init : miOk M_X1_init := ⟨rfl, tk1 (i := 92) (by decide +kernel) rfl, tk1 (i := 3) (by decide +kernel) rfl, tk1 (i := 93) rfl rfl⟩
def M_X0_init : MM := (yX0_init, cX0_init, 1, none, [], 1, 12, 5, 300)
theorem mp_X0_init : mpOk M_X0_init 0 := ⟨by decide +kernel, by decide +kernel, by decide +kernel⟩
theorem mi_X0_init : miOk M_X0_init := ⟨rfl, tk1 (i := 109) (by decide +kernel) rfl, tk1 (i := 4) (by decide +kernel) rfl, tk1 (i := 110) rfl rfl⟩
def M_X2_init : MM := (yX2_init, cX2_init, 1, none, [], 1, 12, 2, 49)
theorem mp_X2_init : mpOk M_X2_init 0 := ⟨by decide +kernel, by decide +kernel, by decide +kernel⟩
theorem mi_X2_init : miOk M_X2_init := ⟨rfl, tk1 (i := 148) (by decide +kernel) rfl, tk1 (i := 5) (by decide +kernel) rfl, tk1 (i := 149) rfl rfl⟩
def M_X4_init : MM := (yX4_init, cX4_init, 2, none, [], 3, 54, 121, 3812)
theorem mp_X4_init : mpOk M_X4_init 0 := ⟨by decide +kernel, by decide +kernel, by decide +kernel⟩
theorem mi_X4_init : miOk M_X4_init := ⟨rfl, tk1 (i := 20) (by decide +kernel) rfl, tk1 (i := 1) (by decide +kernel) rfl, tk1 (i := 21) rfl rfl⟩
def M_X5_init : MM := (yX5_init, cX5_init, 2, none, [], 1, 12, 5, 3401)
theorem mp_X5_init : mpOk M_X5_init 0 := ⟨by decide +kernel, by decide +kernel, by decide +kernel⟩
theorem mi_X5_init : miOk M_X5_init := ⟨rfl, tk5 (i := 227) (by decide +kernel) rfl, tk1 (i := 6) (by decide +kernel) rfl, tk5 (i := 228) rfl rfl⟩
def M_X5_in : MM := (yX5_in, cX5_in, 3, some .boolean, [], 0, 0, 0, 0)
theorem mp_X5_in : mpOk M_X5_in 3 := ⟨by decide +kernel, by decide +kernel, by decide +kernel⟩
theorem ms_X5_in : msOk M_X5_in := ⟨tk6 (i := 48) (by decide +kernel) rfl, tk1 (i := 6) (by decide +kernel) rfl, tk6 (i := 49) rfl rfl⟩
def M_X5_isReel : MM := (yX5_isReel, cX5_isReel, 1, some .boolean, [], 1, 22, 0, 0)
theorem mp_X5_isReel : mpOk M_X5_isReel 1 := ⟨by decide +kernel, by decide +kernel, by decide +kernel⟩
theorem ms_X5_isReel : msOk M_X5_isReel := ⟨tk6 (i := 45) (by decide +kernel) rfl, tk1 (i := 6) (by decide +kernel) rfl, tk6 (i := 46) rfl rfl⟩
def M_X5_isState : MM := (yX5_isState, cX5_isState, 1, some .boolean, [], 1, 22, 0, 0)
theorem mp_X5_isState : mpOk M_X5_isState 1 := ⟨by decide +kernel, by decide +kernel, by decide +kernel⟩
theorem ms_X5_isState : msOk M_X5_isState := ⟨tk6 (i := 51) (by decide +kernel) rfl, tk1 (i := 6) (by decide +kernel) rfl, tk6 (i := 52) rfl rfl⟩
def M_X5_refused : MM := (yX5_refused, cX5_refused, 2, some .boolean, [], 0, 0, 0, 0)
theorem mp_X5_refused : mpOk M_X5_refused 1 := ⟨by decide +kernel, by decide +kernel, by decide +kernel⟩
theorem mv_X5_refused : mvOk M_X5_refused := ⟨tk6 (i := 55) (by decide +kernel) rfl, pk (q := (yX5_refused, 15)) (List.mem_of_getElem? (i := 26) (by decide +kernel)), tk1 (i := 6) (by decide +kernel) rfl, tk6 (i := 56) rfl rfl⟩
def M_X5_saves : MM := (yX5_saves, cX5_saves, 2, none, [], 0, 0, 0, 0)
theorem mp_X5_saves : mpOk M_X5_saves 0 := ⟨by decide +kernel, by decide +kernel, by decide +kernel⟩
theorem mv_X5_saves : mvOk M_X5_saves := ⟨tk6 (i := 59) (by decide +kernel) rfl, pk (q := (yX5_saves, 15)) (List.mem_of_getElem? (i := 27) (by decide +kernel)), tk1 (i := 6) (by decide +kernel) rfl, tk6 (i := 60) rfl rfl⟩
def M_X5_at : MM := (yX5_at, cX5_at, 2, some .int, [], 0, 0, 0, 0)
theorem mp_X5_at : mpOk M_X5_at 2 := ⟨by decide +kernel, by decide +kernel, by decide +kernel⟩
theorem ms_X5_at : msOk M_X5_at := ⟨tk6 (i := 66) (by decide +kernel) rfl, tk1 (i := 6) (by decide +kernel) rfl, tk6 (i := 67) rfl rfl⟩
def M_X5_unmix : MM := (yX5_unmix, cX5_unmix, 3, none, [], 0, 0, 0, 0)
theorem mp_X5_unmix : mpOk M_X5_unmix 2 := ⟨by decide +kernel, by decide +kernel, by decide +kernel⟩
theorem mv_X5_unmix : mvOk M_X5_unmix := ⟨tk6 (i := 74) (by decide +kernel) rfl, pk (q := (yX5_unmix, 15)) (List.mem_of_getElem? (i := 30) (by decide +kernel)), tk1 (i := 6) (by decide +kernel) rfl, tk6 (i := 75) rfl rfl⟩
def M_X5_unmixes : MM := (yX5_unmixes, cX5_unmixes, 3, none, [], 1, 22, 0, 0)
theorem mp_X5_unmixes : mpOk M_X5_unmixes 1 := ⟨by decide +kernel, by decide +kernel, by decide +kernel⟩
theorem mv_X5_unmixes : mvOk M_X5_unmixes := ⟨tk6 (i := 70) (by decide +kernel) rfl, pk (q := (yX5_unmixes, 15)) (List.mem_of_getElem? (i := 29) (by decide +kernel)), tk1 (i := 6) (by decide +kernel) rfl, tk6 (i := 71) rfl rfl⟩
def M_X5_adds : MM := (yX5_adds, cX5_adds, 7, none, [], 2, 44, 0, 0)
theorem mp_X5_adds : mpOk M_X5_adds 4 := ⟨by decide +kernel, by decide +kernel, by decide +kernel⟩
theorem mv_X5_adds : mvOk M_X5_adds := ⟨tk6 (i := 63) (by decide +kernel) rfl, pk (q := (yX5_adds, 15)) (List.mem_of_getElem? (i := 28) (by decide +kernel)), tk1 (i := 6) (by decide +kernel) rfl, tk6 (i := 64) rfl rfl⟩
def M_X5_addClause : MM := (yX5_addClause, cX5_addClause, 4, some .int, [], 3, 70, 0, 0)
theorem mp_X5_addClause : mpOk M_X5_addClause 3 := ⟨by decide +kernel, by decide +kernel, by decide +kernel⟩
theorem mv_X5_addClause : mvOk M_X5_addClause := ⟨tk6 (i := 41) (by decide +kernel) rfl, tk6 (i := 42) (by decide +kernel) rfl, tk1 (i := 6) (by decide +kernel) rfl, tk6 (i := 43) rfl rfl⟩
def M_X5_thrown : MM := (yX5_thrown, cX5_thrown, 1, some .int, [], 0, 0, 0, 0)
theorem mp_X5_thrown : mpOk M_X5_thrown 0 := ⟨by decide +kernel, by decide +kernel, by decide +kernel⟩
theorem mv_X5_thrown : mvOk M_X5_thrown := ⟨tk6 (i := 37) (by decide +kernel) rfl, tk6 (i := 38) (by decide +kernel) rfl, tk1 (i := 6) (by decide +kernel) rfl, tk6 (i := 39) rfl rfl⟩
def M_X5_isClause : MM := (yX5_isClause, cX5_isClause, 2, some .boolean, [], 1, 22, 0, 0)
theorem mp_X5_isClause : mpOk M_X5_isClause 1 := ⟨by decide +kernel, by decide +kernel, by decide +kernel⟩
theorem mv_X5_isClause : mvOk M_X5_isClause := ⟨tk6 (i := 82) (by decide +kernel) rfl, pk (q := (yX5_isClause, 15)) (List.mem_of_getElem? (i := 31) (by decide +kernel)), tk1 (i := 6) (by decide +kernel) rfl, tk6 (i := 83) rfl rfl⟩
def M_X5_isTaken : MM := (yX5_isTaken, cX5_isTaken, 3, some .boolean, [], 1, 21, 0, 0)
theorem mp_X5_isTaken : mpOk M_X5_isTaken 2 := ⟨by decide +kernel, by decide +kernel, by decide +kernel⟩
theorem mv_X5_isTaken : mvOk M_X5_isTaken := ⟨tk6 (i := 90) (by decide +kernel) rfl, pk (q := (yX5_isTaken, 15)) (List.mem_of_getElem? (i := 33) (by decide +kernel)), tk1 (i := 6) (by decide +kernel) rfl, tk6 (i := 91) rfl rfl⟩
def M_X5_isTakenAnywhere : MM := (yX5_isTakenAnywhere, cX5_isTakenAnywhere, 2, some .boolean, [], 2, 43, 0, 0)
theorem mp_X5_isTakenAnywhere : mpOk M_X5_isTakenAnywhere 1 := ⟨by decide +kernel, by decide +kernel, by decide +kernel⟩
theorem mv_X5_isTakenAnywhere : mvOk M_X5_isTakenAnywhere := ⟨tk6 (i := 86) (by decide +kernel) rfl, pk (q := (yX5_isTakenAnywhere, 15)) (List.mem_of_getElem? (i := 32) (by decide +kernel)), tk1 (i := 6) (by decide +kernel) rfl, tk6 (i := 87) rfl rfl⟩
def M_X5_sets : MM := (yX5_sets, cX5_sets, 4, some .int, [], 1, 21, 0, 0)
theorem mp_X5_sets : mpOk M_X5_sets 2 := ⟨by decide +kernel, by decide +kernel, by decide +kernel⟩
theorem mv_X5_sets : mvOk M_X5_sets := ⟨tk6 (i := 94) (by decide +kernel) rfl, pk (q := (yX5_sets, 15)) (List.mem_of_getElem? (i := 34) (by decide +kernel)), tk1 (i := 6) (by decide +kernel) rfl, tk6 (i := 95) rfl rfl⟩
def M_X5_changeLips : MM := (yX5_changeLips, cX5_changeLips, 3, some .int, [], 3, 64, 0, 0)
theorem mp_X5_changeLips : mpOk M_X5_changeLips 2 := ⟨by decide +kernel, by decide +kernel, by decide +kernel⟩
theorem mv_X5_changeLips : mvOk M_X5_changeLips := ⟨tk6 (i := 77) (by decide +kernel) rfl, tk6 (i := 78) (by decide +kernel) rfl, tk1 (i := 6) (by decide +kernel) rfl, tk6 (i := 79) rfl rfl⟩
def M_X5_changeSigh : MM := (yX5_changeSigh, cX5_changeSigh, 3, some .int, [], 3, 64, 0, 0)
theorem mp_X5_changeSigh : mpOk M_X5_changeSigh 2 := ⟨by decide +kernel, by decide +kernel, by decide +kernel⟩
theorem mv_X5_changeSigh : mvOk M_X5_changeSigh := ⟨tk6 (i := 97) (by decide +kernel) rfl, tk6 (i := 98) (by decide +kernel) rfl, tk1 (i := 6) (by decide +kernel) rfl, tk6 (i := 99) rfl rfl⟩
def M_X4_moveClause : MM := (yX4_moveClause, cX4_moveClause, 4, some .int, [], 7, 107, 3, 18)
theorem mp_X4_moveClause : mpOk M_X4_moveClause 2 := ⟨by decide +kernel, by decide +kernel, by decide +kernel⟩
theorem mv_X4_moveClause : mvOk M_X4_moveClause := ⟨tk4 (i := 3) (by decide +kernel) rfl, tk4 (i := 4) (by decide +kernel) rfl, tk1 (i := 1) (by decide +kernel) rfl, tk4 (i := 5) rfl rfl⟩
def M_L_moveClause : MM := (yL_moveClause, cL_moveClause, 5, some .int, [(0, 10, 13, 13), (0, 10, 17, 17)], 8, 130, 3, 18)
theorem mp_L_moveClause : mpOk M_L_moveClause 4 := ⟨by decide +kernel, by decide +kernel, by decide +kernel⟩
theorem ms_L_moveClause : msOk M_L_moveClause := ⟨tk4 (i := 0) (by decide +kernel) rfl, tk1 (i := 0) (by decide +kernel) rfl, tk4 (i := 1) rfl rfl⟩
def M_X5_moveClause : MM := (yX5_moveClause, cX5_moveClause, 4, some .int, [], 3, 64, 0, 0)
theorem mp_X5_moveClause : mpOk M_X5_moveClause 2 := ⟨by decide +kernel, by decide +kernel, by decide +kernel⟩
theorem mv_X5_moveClause : mvOk M_X5_moveClause := ⟨tk6 (i := 101) (by decide +kernel) rfl, tk6 (i := 102) (by decide +kernel) rfl, tk1 (i := 6) (by decide +kernel) rfl, tk6 (i := 103) rfl rfl⟩
def M_X3_roomAt : MM := (yX3_roomAt, cX3_roomAt, 3, some .int, [], 2, 43, 0, 0)
theorem mp_X3_roomAt : mpOk M_X3_roomAt 2 := ⟨by decide +kernel, by decide +kernel, by decide +kernel⟩
theorem mv_X3_roomAt : mvOk M_X3_roomAt := ⟨tk2 (i := 133) (by decide +kernel) rfl, tk2 (i := 134) (by decide +kernel) rfl, tk1 (i := 2) (by decide +kernel) rfl, tk2 (i := 135) rfl rfl⟩
def M_X4_translate : MM := (yX4_translate, cX4_translate, 4, some .int, [], 8, 129, 4, 24)
theorem mp_X4_translate : mpOk M_X4_translate 3 := ⟨by decide +kernel, by decide +kernel, by decide +kernel⟩
theorem mv_X4_translate : mvOk M_X4_translate := ⟨tk4 (i := 12) (by decide +kernel) rfl, tk4 (i := 13) (by decide +kernel) rfl, tk1 (i := 1) (by decide +kernel) rfl, tk4 (i := 14) rfl rfl⟩
def M_L_translate : MM := (yL_translate, cL_translate, 6, some .int, [(0, 12, 15, 13), (0, 12, 19, 15), (0, 12, 23, 17)], 9, 152, 4, 24)
theorem mp_L_translate : mpOk M_L_translate 5 := ⟨by decide +kernel, by decide +kernel, by decide +kernel⟩
theorem ms_L_translate : msOk M_L_translate := ⟨tk4 (i := 9) (by decide +kernel) rfl, tk1 (i := 0) (by decide +kernel) rfl, tk4 (i := 10) rfl rfl⟩
def M_X5_isTongue : MM := (yX5_isTongue, cX5_isTongue, 1, some .boolean, [], 1, 22, 0, 0)
theorem mp_X5_isTongue : mpOk M_X5_isTongue 1 := ⟨by decide +kernel, by decide +kernel, by decide +kernel⟩
theorem ms_X5_isTongue : msOk M_X5_isTongue := ⟨tk6 (i := 113) (by decide +kernel) rfl, tk1 (i := 6) (by decide +kernel) rfl, tk6 (i := 114) rfl rfl⟩
def M_X5_are : MM := (yX5_are, cX5_are, 3, some .boolean, [], 2, 43, 0, 0)
theorem mp_X5_are : mpOk M_X5_are 2 := ⟨by decide +kernel, by decide +kernel, by decide +kernel⟩
theorem mv_X5_are : mvOk M_X5_are := ⟨tk6 (i := 110) (by decide +kernel) rfl, pk (q := (yX5_are, 15)) (List.mem_of_getElem? (i := 35) (by decide +kernel)), tk1 (i := 6) (by decide +kernel) rfl, tk6 (i := 111) rfl rfl⟩
def M_X5_frames : MM := (yX5_frames, cX5_frames, 3, some .int, [], 1, 21, 0, 0)
theorem mp_X5_frames : mpOk M_X5_frames 2 := ⟨by decide +kernel, by decide +kernel, by decide +kernel⟩
theorem mv_X5_frames : mvOk M_X5_frames := ⟨tk6 (i := 121) (by decide +kernel) rfl, pk (q := (yX5_frames, 15)) (List.mem_of_getElem? (i := 37) (by decide +kernel)), tk1 (i := 6) (by decide +kernel) rfl, tk6 (i := 122) rfl rfl⟩
def M_X5_both : MM := (yX5_both, cX5_both, 3, some .int, [], 2, 43, 0, 0)
theorem mp_X5_both : mpOk M_X5_both 2 := ⟨by decide +kernel, by decide +kernel, by decide +kernel⟩
theorem mv_X5_both : mvOk M_X5_both := ⟨tk6 (i := 117) (by decide +kernel) rfl, pk (q := (yX5_both, 15)) (List.mem_of_getElem? (i := 36) (by decide +kernel)), tk1 (i := 6) (by decide +kernel) rfl, tk6 (i := 118) rfl rfl⟩
def M_X5_translate : MM := (yX5_translate, cX5_translate, 4, some .int, [], 3, 65, 0, 0)
theorem mp_X5_translate : mpOk M_X5_translate 3 := ⟨by decide +kernel, by decide +kernel, by decide +kernel⟩
theorem mv_X5_translate : mvOk M_X5_translate := ⟨tk6 (i := 105) (by decide +kernel) rfl, tk6 (i := 106) (by decide +kernel) rfl, tk1 (i := 6) (by decide +kernel) rfl, tk6 (i := 107) rfl rfl⟩
def M_X5_annexed : MM := (yX5_annexed, cX5_annexed, 4, some .int, [], 1, 21, 0, 0)
theorem mp_X5_annexed : mpOk M_X5_annexed 1 := ⟨by decide +kernel, by decide +kernel, by decide +kernel⟩
theorem mv_X5_annexed : mvOk M_X5_annexed := ⟨tk6 (i := 129) (by decide +kernel) rfl, pk (q := (yX5_annexed, 15)) (List.mem_of_getElem? (i := 38) (by decide +kernel)), tk1 (i := 6) (by decide +kernel) rfl, tk6 (i := 130) rfl rfl⟩
def M_X5_annex : MM := (yX5_annex, cX5_annex, 4, some .int, [], 3, 65, 0, 0)
theorem mp_X5_annex : mpOk M_X5_annex 3 := ⟨by decide +kernel, by decide +kernel, by decide +kernel⟩
theorem mv_X5_annex : mvOk M_X5_annex := ⟨tk6 (i := 124) (by decide +kernel) rfl, tk6 (i := 125) (by decide +kernel) rfl, tk1 (i := 6) (by decide +kernel) rfl, tk6 (i := 126) rfl rfl⟩
def M_X5_bringBack : MM := (yX5_bringBack, cX5_bringBack, 4, some .int, [], 3, 65, 0, 0)
theorem mp_X5_bringBack : mpOk M_X5_bringBack 2 := ⟨by decide +kernel, by decide +kernel, by decide +kernel⟩
theorem mv_X5_bringBack : mvOk M_X5_bringBack := ⟨tk6 (i := 132) (by decide +kernel) rfl, tk6 (i := 133) (by decide +kernel) rfl, tk1 (i := 6) (by decide +kernel) rfl, tk6 (i := 134) rfl rfl⟩
end XM22
