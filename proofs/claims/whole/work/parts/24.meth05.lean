/-! the methods: their rows, and what the tables say of them -/
section XM25
def M_X5_thrown : MM := (yX5_thrown, cX5_thrown, 1, some .int, [], 0, 0, 0, 0)
theorem mp_X5_thrown : mpOk M_X5_thrown 0 := ⟨by decide +kernel, by decide +kernel, by decide +kernel⟩
theorem mv_X5_thrown : mvOk M_X5_thrown := ⟨tk6 (i := 37) (by decide +kernel) rfl, tk6 (i := 38) (by decide +kernel) rfl, tk1 (i := 6) (by decide +kernel) rfl, tk6 (i := 39) (by decide +kernel) rfl⟩
def M_X5_isClause : MM := (yX5_isClause, cX5_isClause, 2, some .boolean, [], 1, 22, 0, 0)
theorem mp_X5_isClause : mpOk M_X5_isClause 1 := ⟨by decide +kernel, by decide +kernel, by decide +kernel⟩
theorem mv_X5_isClause : mvOk M_X5_isClause := ⟨tk6 (i := 82) (by decide +kernel) rfl, pk (q := (yX5_isClause, 15)) (List.mem_of_getElem? (i := 31) (by decide +kernel)), tk1 (i := 6) (by decide +kernel) rfl, tk6 (i := 83) (by decide +kernel) rfl⟩
def M_X5_isTaken : MM := (yX5_isTaken, cX5_isTaken, 3, some .boolean, [], 1, 21, 0, 0)
theorem mp_X5_isTaken : mpOk M_X5_isTaken 2 := ⟨by decide +kernel, by decide +kernel, by decide +kernel⟩
theorem mv_X5_isTaken : mvOk M_X5_isTaken := ⟨tk6 (i := 90) (by decide +kernel) rfl, pk (q := (yX5_isTaken, 15)) (List.mem_of_getElem? (i := 33) (by decide +kernel)), tk1 (i := 6) (by decide +kernel) rfl, tk6 (i := 91) (by decide +kernel) rfl⟩
def M_X5_isTakenAnywhere : MM := (yX5_isTakenAnywhere, cX5_isTakenAnywhere, 2, some .boolean, [], 2, 43, 0, 0)
theorem mp_X5_isTakenAnywhere : mpOk M_X5_isTakenAnywhere 1 := ⟨by decide +kernel, by decide +kernel, by decide +kernel⟩
theorem mv_X5_isTakenAnywhere : mvOk M_X5_isTakenAnywhere := ⟨tk6 (i := 86) (by decide +kernel) rfl, pk (q := (yX5_isTakenAnywhere, 15)) (List.mem_of_getElem? (i := 32) (by decide +kernel)), tk1 (i := 6) (by decide +kernel) rfl, tk6 (i := 87) (by decide +kernel) rfl⟩
def M_X5_sets : MM := (yX5_sets, cX5_sets, 4, some .int, [], 1, 21, 0, 0)
theorem mp_X5_sets : mpOk M_X5_sets 2 := ⟨by decide +kernel, by decide +kernel, by decide +kernel⟩
theorem mv_X5_sets : mvOk M_X5_sets := ⟨tk6 (i := 94) (by decide +kernel) rfl, pk (q := (yX5_sets, 15)) (List.mem_of_getElem? (i := 34) (by decide +kernel)), tk1 (i := 6) (by decide +kernel) rfl, tk6 (i := 95) (by decide +kernel) rfl⟩
def M_X5_changeLips : MM := (yX5_changeLips, cX5_changeLips, 3, some .int, [], 3, 64, 0, 0)
theorem mp_X5_changeLips : mpOk M_X5_changeLips 2 := ⟨by decide +kernel, by decide +kernel, by decide +kernel⟩
theorem mv_X5_changeLips : mvOk M_X5_changeLips := ⟨tk6 (i := 77) (by decide +kernel) rfl, tk6 (i := 78) (by decide +kernel) rfl, tk1 (i := 6) (by decide +kernel) rfl, tk6 (i := 79) (by decide +kernel) rfl⟩
def M_X5_changeSigh : MM := (yX5_changeSigh, cX5_changeSigh, 3, some .int, [], 3, 64, 0, 0)
theorem mp_X5_changeSigh : mpOk M_X5_changeSigh 2 := ⟨by decide +kernel, by decide +kernel, by decide +kernel⟩
theorem mv_X5_changeSigh : mvOk M_X5_changeSigh := ⟨tk6 (i := 97) (by decide +kernel) rfl, tk6 (i := 98) (by decide +kernel) rfl, tk1 (i := 6) (by decide +kernel) rfl, tk6 (i := 99) (by decide +kernel) rfl⟩
def M_X4_moveClause : MM := (yX4_moveClause, cX4_moveClause, 4, some .int, [], 7, 107, 3, 18)
theorem mp_X4_moveClause : mpOk M_X4_moveClause 2 := ⟨by decide +kernel, by decide +kernel, by decide +kernel⟩
theorem mv_X4_moveClause : mvOk M_X4_moveClause := ⟨tk4 (i := 3) (by decide +kernel) rfl, tk4 (i := 4) (by decide +kernel) rfl, tk1 (i := 1) (by decide +kernel) rfl, tk4 (i := 5) (by decide +kernel) rfl⟩
def M_L_moveClause : MM := (yL_moveClause, cL_moveClause, 5, some .int, [(0, 10, 13, 13), (0, 10, 17, 17)], 8, 130, 3, 18)
theorem mp_L_moveClause : mpOk M_L_moveClause 4 := ⟨by decide +kernel, by decide +kernel, by decide +kernel⟩
theorem ms_L_moveClause : msOk M_L_moveClause := ⟨tk4 (i := 0) (by decide +kernel) rfl, tk1 (i := 0) (by decide +kernel) rfl, tk4 (i := 1) (by decide +kernel) rfl⟩
def M_X5_moveClause : MM := (yX5_moveClause, cX5_moveClause, 4, some .int, [], 3, 64, 0, 0)
theorem mp_X5_moveClause : mpOk M_X5_moveClause 2 := ⟨by decide +kernel, by decide +kernel, by decide +kernel⟩
theorem mv_X5_moveClause : mvOk M_X5_moveClause := ⟨tk6 (i := 101) (by decide +kernel) rfl, tk6 (i := 102) (by decide +kernel) rfl, tk1 (i := 6) (by decide +kernel) rfl, tk6 (i := 103) (by decide +kernel) rfl⟩
def M_X3_roomAt : MM := (yX3_roomAt, cX3_roomAt, 3, some .int, [], 2, 43, 0, 0)
theorem mp_X3_roomAt : mpOk M_X3_roomAt 2 := ⟨by decide +kernel, by decide +kernel, by decide +kernel⟩
theorem mv_X3_roomAt : mvOk M_X3_roomAt := ⟨tk2 (i := 133) (by decide +kernel) rfl, tk2 (i := 134) (by decide +kernel) rfl, tk1 (i := 2) (by decide +kernel) rfl, tk2 (i := 135) (by decide +kernel) rfl⟩
def M_X4_translate : MM := (yX4_translate, cX4_translate, 4, some .int, [], 8, 129, 4, 24)
theorem mp_X4_translate : mpOk M_X4_translate 3 := ⟨by decide +kernel, by decide +kernel, by decide +kernel⟩
theorem mv_X4_translate : mvOk M_X4_translate := ⟨tk4 (i := 12) (by decide +kernel) rfl, tk4 (i := 13) (by decide +kernel) rfl, tk1 (i := 1) (by decide +kernel) rfl, tk4 (i := 14) (by decide +kernel) rfl⟩
def M_L_translate : MM := (yL_translate, cL_translate, 6, some .int, [(0, 12, 15, 13), (0, 12, 19, 15), (0, 12, 23, 17)], 9, 152, 4, 24)
theorem mp_L_translate : mpOk M_L_translate 5 := ⟨by decide +kernel, by decide +kernel, by decide +kernel⟩
theorem ms_L_translate : msOk M_L_translate := ⟨tk4 (i := 9) (by decide +kernel) rfl, tk1 (i := 0) (by decide +kernel) rfl, tk4 (i := 10) (by decide +kernel) rfl⟩
def M_X5_isTongue : MM := (yX5_isTongue, cX5_isTongue, 1, some .boolean, [], 1, 22, 0, 0)
theorem mp_X5_isTongue : mpOk M_X5_isTongue 1 := ⟨by decide +kernel, by decide +kernel, by decide +kernel⟩
theorem ms_X5_isTongue : msOk M_X5_isTongue := ⟨tk6 (i := 113) (by decide +kernel) rfl, tk1 (i := 6) (by decide +kernel) rfl, tk6 (i := 114) (by decide +kernel) rfl⟩
def M_X5_are : MM := (yX5_are, cX5_are, 3, some .boolean, [], 2, 43, 0, 0)
theorem mp_X5_are : mpOk M_X5_are 2 := ⟨by decide +kernel, by decide +kernel, by decide +kernel⟩
theorem mv_X5_are : mvOk M_X5_are := ⟨tk6 (i := 110) (by decide +kernel) rfl, pk (q := (yX5_are, 15)) (List.mem_of_getElem? (i := 35) (by decide +kernel)), tk1 (i := 6) (by decide +kernel) rfl, tk6 (i := 111) (by decide +kernel) rfl⟩
def M_X5_frames : MM := (yX5_frames, cX5_frames, 3, some .int, [], 1, 21, 0, 0)
theorem mp_X5_frames : mpOk M_X5_frames 2 := ⟨by decide +kernel, by decide +kernel, by decide +kernel⟩
theorem mv_X5_frames : mvOk M_X5_frames := ⟨tk6 (i := 121) (by decide +kernel) rfl, pk (q := (yX5_frames, 15)) (List.mem_of_getElem? (i := 37) (by decide +kernel)), tk1 (i := 6) (by decide +kernel) rfl, tk6 (i := 122) (by decide +kernel) rfl⟩
def M_X5_both : MM := (yX5_both, cX5_both, 3, some .int, [], 2, 43, 0, 0)
theorem mp_X5_both : mpOk M_X5_both 2 := ⟨by decide +kernel, by decide +kernel, by decide +kernel⟩
theorem mv_X5_both : mvOk M_X5_both := ⟨tk6 (i := 117) (by decide +kernel) rfl, pk (q := (yX5_both, 15)) (List.mem_of_getElem? (i := 36) (by decide +kernel)), tk1 (i := 6) (by decide +kernel) rfl, tk6 (i := 118) (by decide +kernel) rfl⟩
def M_X5_translate : MM := (yX5_translate, cX5_translate, 4, some .int, [], 3, 65, 0, 0)
theorem mp_X5_translate : mpOk M_X5_translate 3 := ⟨by decide +kernel, by decide +kernel, by decide +kernel⟩
theorem mv_X5_translate : mvOk M_X5_translate := ⟨tk6 (i := 105) (by decide +kernel) rfl, tk6 (i := 106) (by decide +kernel) rfl, tk1 (i := 6) (by decide +kernel) rfl, tk6 (i := 107) (by decide +kernel) rfl⟩
def M_X5_annexed : MM := (yX5_annexed, cX5_annexed, 4, some .int, [], 1, 21, 0, 0)
theorem mp_X5_annexed : mpOk M_X5_annexed 1 := ⟨by decide +kernel, by decide +kernel, by decide +kernel⟩
theorem mv_X5_annexed : mvOk M_X5_annexed := ⟨tk6 (i := 129) (by decide +kernel) rfl, pk (q := (yX5_annexed, 15)) (List.mem_of_getElem? (i := 38) (by decide +kernel)), tk1 (i := 6) (by decide +kernel) rfl, tk6 (i := 130) (by decide +kernel) rfl⟩
def M_X5_annex : MM := (yX5_annex, cX5_annex, 4, some .int, [], 3, 65, 0, 0)
theorem mp_X5_annex : mpOk M_X5_annex 3 := ⟨by decide +kernel, by decide +kernel, by decide +kernel⟩
theorem mv_X5_annex : mvOk M_X5_annex := ⟨tk6 (i := 124) (by decide +kernel) rfl, tk6 (i := 125) (by decide +kernel) rfl, tk1 (i := 6) (by decide +kernel) rfl, tk6 (i := 126) (by decide +kernel) rfl⟩
def M_X5_bringBack : MM := (yX5_bringBack, cX5_bringBack, 4, some .int, [], 3, 65, 0, 0)
theorem mp_X5_bringBack : mpOk M_X5_bringBack 2 := ⟨by decide +kernel, by decide +kernel, by decide +kernel⟩
theorem mv_X5_bringBack : mvOk M_X5_bringBack := ⟨tk6 (i := 132) (by decide +kernel) rfl, tk6 (i := 133) (by decide +kernel) rfl, tk1 (i := 6) (by decide +kernel) rfl, tk6 (i := 134) (by decide +kernel) rfl⟩
def M_X5_isVoice : MM := (yX5_isVoice, cX5_isVoice, 2, some .boolean, [], 2, 42, 0, 0)
theorem mp_X5_isVoice : mpOk M_X5_isVoice 2 := ⟨by decide +kernel, by decide +kernel, by decide +kernel⟩
theorem ms_X5_isVoice : msOk M_X5_isVoice := ⟨tk6 (i := 140) (by decide +kernel) rfl, tk1 (i := 6) (by decide +kernel) rfl, tk6 (i := 141) (by decide +kernel) rfl⟩
end XM25
