/-! the methods: their rows, and what the tables say of them -/
section XM24
def M_X4_isRecorded : MM := (yX4_isRecorded, cX4_isRecorded, 3, some .boolean, [], 8, 129, 2, 12)
theorem mp_X4_isRecorded : mpOk M_X4_isRecorded 2 := ⟨by decide +kernel, by decide +kernel, by decide +kernel⟩
theorem mv_X4_isRecorded : mvOk M_X4_isRecorded := ⟨tk5 (i := 16) (by decide +kernel) rfl, tk5 (i := 17) (by decide +kernel) rfl, tk1 (i := 1) (by decide +kernel) rfl, tk5 (i := 18) (by decide +kernel) rfl⟩
def M_L_isRecorded : MM := (yL_isRecorded, cL_isRecorded, 5, some .int, [(0, 17, 20, 13)], 9, 151, 2, 12)
theorem mp_L_isRecorded : mpOk M_L_isRecorded 4 := ⟨by decide +kernel, by decide +kernel, by decide +kernel⟩
theorem ms_L_isRecorded : msOk M_L_isRecorded := ⟨tk5 (i := 13) (by decide +kernel) rfl, tk1 (i := 0) (by decide +kernel) rfl, tk5 (i := 14) (by decide +kernel) rfl⟩
def M_X4_isTranslated : MM := (yX4_isTranslated, cX4_isTranslated, 3, some .boolean, [], 8, 129, 2, 12)
theorem mp_X4_isTranslated : mpOk M_X4_isTranslated 2 := ⟨by decide +kernel, by decide +kernel, by decide +kernel⟩
theorem mv_X4_isTranslated : mvOk M_X4_isTranslated := ⟨tk4 (i := 230) (by decide +kernel) rfl, tk4 (i := 231) (by decide +kernel) rfl, tk1 (i := 1) (by decide +kernel) rfl, tk4 (i := 232) (by decide +kernel) rfl⟩
def M_L_isTranslated : MM := (yL_isTranslated, cL_isTranslated, 5, some .int, [(0, 17, 20, 13)], 9, 151, 2, 12)
theorem mp_L_isTranslated : mpOk M_L_isTranslated 4 := ⟨by decide +kernel, by decide +kernel, by decide +kernel⟩
theorem ms_L_isTranslated : msOk M_L_isTranslated := ⟨tk4 (i := 227) (by decide +kernel) rfl, tk1 (i := 0) (by decide +kernel) rfl, tk4 (i := 228) (by decide +kernel) rfl⟩
def M_X4_keep : MM := (yX4_keep, cX4_keep, 3, none, [], 7, 108, 1, 6)
theorem mp_X4_keep : mpOk M_X4_keep 1 := ⟨by decide +kernel, by decide +kernel, by decide +kernel⟩
theorem mv_X4_keep : mvOk M_X4_keep := ⟨tk4 (i := 173) (by decide +kernel) rfl, tk4 (i := 174) (by decide +kernel) rfl, tk1 (i := 1) (by decide +kernel) rfl, tk4 (i := 175) (by decide +kernel) rfl⟩
def M_L_keep : MM := (yL_keep, cL_keep, 3, some .int, [(0, 5, 8, 15)], 8, 130, 1, 6)
theorem mp_L_keep : mpOk M_L_keep 2 := ⟨by decide +kernel, by decide +kernel, by decide +kernel⟩
theorem ms_L_keep : msOk M_L_keep := ⟨tk4 (i := 170) (by decide +kernel) rfl, tk1 (i := 0) (by decide +kernel) rfl, tk4 (i := 171) (by decide +kernel) rfl⟩
def M_X3_init : MM := (yX3_init, cX3_init, 2, none, [], 1, 12, 11, 366)
theorem mp_X3_init : mpOk M_X3_init 0 := ⟨by decide +kernel, by decide +kernel, by decide +kernel⟩
theorem mi_X3_init : miOk M_X3_init := ⟨rfl, tk1 (i := 28) (by decide +kernel) rfl, tk1 (i := 2) (by decide +kernel) rfl, tk1 (i := 29) (by decide +kernel) rfl⟩
def M_X1_init : MM := (yX1_init, cX1_init, 2, none, [], 2, 33, 73, 2298)
theorem mp_X1_init : mpOk M_X1_init 0 := ⟨by decide +kernel, by decide +kernel, by decide +kernel⟩
theorem mi_X1_init : miOk M_X1_init := ⟨rfl, tk1 (i := 92) (by decide +kernel) rfl, tk1 (i := 3) (by decide +kernel) rfl, tk1 (i := 93) (by decide +kernel) rfl⟩
def M_X0_init : MM := (yX0_init, cX0_init, 1, none, [], 1, 12, 5, 300)
theorem mp_X0_init : mpOk M_X0_init 0 := ⟨by decide +kernel, by decide +kernel, by decide +kernel⟩
theorem mi_X0_init : miOk M_X0_init := ⟨rfl, tk1 (i := 109) (by decide +kernel) rfl, tk1 (i := 4) (by decide +kernel) rfl, tk1 (i := 110) (by decide +kernel) rfl⟩
def M_X2_init : MM := (yX2_init, cX2_init, 1, none, [], 1, 12, 2, 49)
theorem mp_X2_init : mpOk M_X2_init 0 := ⟨by decide +kernel, by decide +kernel, by decide +kernel⟩
theorem mi_X2_init : miOk M_X2_init := ⟨rfl, tk1 (i := 148) (by decide +kernel) rfl, tk1 (i := 5) (by decide +kernel) rfl, tk1 (i := 149) (by decide +kernel) rfl⟩
def M_X4_init : MM := (yX4_init, cX4_init, 2, none, [], 3, 54, 121, 3812)
theorem mp_X4_init : mpOk M_X4_init 0 := ⟨by decide +kernel, by decide +kernel, by decide +kernel⟩
theorem mi_X4_init : miOk M_X4_init := ⟨rfl, tk1 (i := 20) (by decide +kernel) rfl, tk1 (i := 1) (by decide +kernel) rfl, tk1 (i := 21) (by decide +kernel) rfl⟩
def M_X5_init : MM := (yX5_init, cX5_init, 2, none, [], 1, 12, 5, 3401)
theorem mp_X5_init : mpOk M_X5_init 0 := ⟨by decide +kernel, by decide +kernel, by decide +kernel⟩
theorem mi_X5_init : miOk M_X5_init := ⟨rfl, tk5 (i := 227) (by decide +kernel) rfl, tk1 (i := 6) (by decide +kernel) rfl, tk5 (i := 228) (by decide +kernel) rfl⟩
def M_X5_in : MM := (yX5_in, cX5_in, 3, some .boolean, [], 0, 0, 0, 0)
theorem mp_X5_in : mpOk M_X5_in 3 := ⟨by decide +kernel, by decide +kernel, by decide +kernel⟩
theorem ms_X5_in : msOk M_X5_in := ⟨tk6 (i := 48) (by decide +kernel) rfl, tk1 (i := 6) (by decide +kernel) rfl, tk6 (i := 49) (by decide +kernel) rfl⟩
def M_X5_isReel : MM := (yX5_isReel, cX5_isReel, 1, some .boolean, [], 1, 22, 0, 0)
theorem mp_X5_isReel : mpOk M_X5_isReel 1 := ⟨by decide +kernel, by decide +kernel, by decide +kernel⟩
theorem ms_X5_isReel : msOk M_X5_isReel := ⟨tk6 (i := 45) (by decide +kernel) rfl, tk1 (i := 6) (by decide +kernel) rfl, tk6 (i := 46) (by decide +kernel) rfl⟩
def M_X5_isState : MM := (yX5_isState, cX5_isState, 1, some .boolean, [], 1, 22, 0, 0)
theorem mp_X5_isState : mpOk M_X5_isState 1 := ⟨by decide +kernel, by decide +kernel, by decide +kernel⟩
theorem ms_X5_isState : msOk M_X5_isState := ⟨tk6 (i := 51) (by decide +kernel) rfl, tk1 (i := 6) (by decide +kernel) rfl, tk6 (i := 52) (by decide +kernel) rfl⟩
def M_X5_refused : MM := (yX5_refused, cX5_refused, 2, some .boolean, [], 0, 0, 0, 0)
theorem mp_X5_refused : mpOk M_X5_refused 1 := ⟨by decide +kernel, by decide +kernel, by decide +kernel⟩
theorem mv_X5_refused : mvOk M_X5_refused := ⟨tk6 (i := 55) (by decide +kernel) rfl, pk (q := (yX5_refused, 15)) (List.mem_of_getElem? (i := 26) (by decide +kernel)), tk1 (i := 6) (by decide +kernel) rfl, tk6 (i := 56) (by decide +kernel) rfl⟩
def M_X5_saves : MM := (yX5_saves, cX5_saves, 2, none, [], 0, 0, 0, 0)
theorem mp_X5_saves : mpOk M_X5_saves 0 := ⟨by decide +kernel, by decide +kernel, by decide +kernel⟩
theorem mv_X5_saves : mvOk M_X5_saves := ⟨tk6 (i := 59) (by decide +kernel) rfl, pk (q := (yX5_saves, 15)) (List.mem_of_getElem? (i := 27) (by decide +kernel)), tk1 (i := 6) (by decide +kernel) rfl, tk6 (i := 60) (by decide +kernel) rfl⟩
def M_X5_at : MM := (yX5_at, cX5_at, 2, some .int, [], 0, 0, 0, 0)
theorem mp_X5_at : mpOk M_X5_at 2 := ⟨by decide +kernel, by decide +kernel, by decide +kernel⟩
theorem ms_X5_at : msOk M_X5_at := ⟨tk6 (i := 66) (by decide +kernel) rfl, tk1 (i := 6) (by decide +kernel) rfl, tk6 (i := 67) (by decide +kernel) rfl⟩
def M_X5_unmix : MM := (yX5_unmix, cX5_unmix, 3, none, [], 0, 0, 0, 0)
theorem mp_X5_unmix : mpOk M_X5_unmix 2 := ⟨by decide +kernel, by decide +kernel, by decide +kernel⟩
theorem mv_X5_unmix : mvOk M_X5_unmix := ⟨tk6 (i := 74) (by decide +kernel) rfl, pk (q := (yX5_unmix, 15)) (List.mem_of_getElem? (i := 30) (by decide +kernel)), tk1 (i := 6) (by decide +kernel) rfl, tk6 (i := 75) (by decide +kernel) rfl⟩
def M_X5_unmixes : MM := (yX5_unmixes, cX5_unmixes, 3, none, [], 1, 22, 0, 0)
theorem mp_X5_unmixes : mpOk M_X5_unmixes 1 := ⟨by decide +kernel, by decide +kernel, by decide +kernel⟩
theorem mv_X5_unmixes : mvOk M_X5_unmixes := ⟨tk6 (i := 70) (by decide +kernel) rfl, pk (q := (yX5_unmixes, 15)) (List.mem_of_getElem? (i := 29) (by decide +kernel)), tk1 (i := 6) (by decide +kernel) rfl, tk6 (i := 71) (by decide +kernel) rfl⟩
def M_X5_adds : MM := (yX5_adds, cX5_adds, 7, none, [], 2, 44, 0, 0)
theorem mp_X5_adds : mpOk M_X5_adds 4 := ⟨by decide +kernel, by decide +kernel, by decide +kernel⟩
theorem mv_X5_adds : mvOk M_X5_adds := ⟨tk6 (i := 63) (by decide +kernel) rfl, pk (q := (yX5_adds, 15)) (List.mem_of_getElem? (i := 28) (by decide +kernel)), tk1 (i := 6) (by decide +kernel) rfl, tk6 (i := 64) (by decide +kernel) rfl⟩
def M_X5_addClause : MM := (yX5_addClause, cX5_addClause, 4, some .int, [], 3, 70, 0, 0)
theorem mp_X5_addClause : mpOk M_X5_addClause 3 := ⟨by decide +kernel, by decide +kernel, by decide +kernel⟩
theorem mv_X5_addClause : mvOk M_X5_addClause := ⟨tk6 (i := 41) (by decide +kernel) rfl, tk6 (i := 42) (by decide +kernel) rfl, tk1 (i := 6) (by decide +kernel) rfl, tk6 (i := 43) (by decide +kernel) rfl⟩
end XM24
