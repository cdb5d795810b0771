/-! the methods: their rows, and what the tables say of them -/
section XM27
theorem mi_X3_init : miOk M_X3_init := ⟨rfl, tk1 (i := 26) (by decide +kernel) rfl, tk1 (i := 2) (by decide +kernel) rfl, tk1 (i := 27) rfl rfl⟩
def M_X1_init : MM := (yX1_init, cX1_init, 2, none, [], 2, 33, 73, 2298)
theorem mp_X1_init : mpOk M_X1_init 0 := ⟨by decide +kernel, by decide +kernel, by decide +kernel⟩
theorem mi_X1_init : miOk M_X1_init := ⟨rfl, tk1 (i := 90) (by decide +kernel) rfl, tk1 (i := 3) (by decide +kernel) rfl, tk1 (i := 91) rfl rfl⟩
def M_X0_init : MM := (yX0_init, cX0_init, 1, none, [], 1, 12, 5, 300)
theorem mp_X0_init : mpOk M_X0_init 0 := ⟨by decide +kernel, by decide +kernel, by decide +kernel⟩
theorem mi_X0_init : miOk M_X0_init := ⟨rfl, tk1 (i := 107) (by decide +kernel) rfl, tk1 (i := 4) (by decide +kernel) rfl, tk1 (i := 108) rfl rfl⟩
def M_X2_init : MM := (yX2_init, cX2_init, 1, none, [], 1, 12, 2, 49)
theorem mp_X2_init : mpOk M_X2_init 0 := ⟨by decide +kernel, by decide +kernel, by decide +kernel⟩
theorem mi_X2_init : miOk M_X2_init := ⟨rfl, tk1 (i := 146) (by decide +kernel) rfl, tk1 (i := 5) (by decide +kernel) rfl, tk1 (i := 147) rfl rfl⟩
def M_X4_init : MM := (yX4_init, cX4_init, 2, none, [], 3, 54, 121, 3812)
theorem mp_X4_init : mpOk M_X4_init 0 := ⟨by decide +kernel, by decide +kernel, by decide +kernel⟩
theorem mi_X4_init : miOk M_X4_init := ⟨rfl, tk1 (i := 18) (by decide +kernel) rfl, tk1 (i := 1) (by decide +kernel) rfl, tk1 (i := 19) rfl rfl⟩
def M_X3_longestSighAt : MM := (yX3_longestSighAt, cX3_longestSighAt, 4, some .int, [], 2, 43, 0, 0)
theorem mp_X3_longestSighAt : mpOk M_X3_longestSighAt 1 := ⟨by decide +kernel, by decide +kernel, by decide +kernel⟩
theorem mv_X3_longestSighAt : mvOk M_X3_longestSighAt := ⟨tk2 (i := 29) (by decide +kernel) rfl, tk2 (i := 30) (by decide +kernel) rfl, tk1 (i := 2) (by decide +kernel) rfl, tk2 (i := 31) rfl rfl⟩
def M_X4_longestSigh : MM := (yX4_longestSigh, cX4_longestSigh, 3, some .int, [], 7, 107, 2, 12)
theorem mp_X4_longestSigh : mpOk M_X4_longestSigh 1 := ⟨by decide +kernel, by decide +kernel, by decide +kernel⟩
theorem mv_X4_longestSigh : mvOk M_X4_longestSigh := ⟨tk4 (i := 28) (by decide +kernel) rfl, tk4 (i := 29) (by decide +kernel) rfl, tk1 (i := 1) (by decide +kernel) rfl, tk4 (i := 30) rfl rfl⟩
def M_L_longestSigh : MM := (yL_longestSigh, cL_longestSigh, 3, some .int, [(0, 5, 6, 15), (0, 5, 10, 19)], 8, 129, 2, 12)
theorem mp_L_longestSigh : mpOk M_L_longestSigh 2 := ⟨by decide +kernel, by decide +kernel, by decide +kernel⟩
theorem ms_L_longestSigh : msOk M_L_longestSigh := ⟨tk4 (i := 25) (by decide +kernel) rfl, tk1 (i := 0) (by decide +kernel) rfl, tk4 (i := 26) rfl rfl⟩
def M_L_refuses : MM := (yL_refuses, cL_refuses, 11, some .boolean, [], 10, 177, 2000, 12000)
theorem mp_L_refuses : mpOk M_L_refuses 2 := ⟨by decide +kernel, by decide +kernel, by decide +kernel⟩
theorem ms_L_refuses : msOk M_L_refuses := ⟨tk5 (i := 203) (by decide +kernel) rfl, tk1 (i := 0) (by decide +kernel) rfl, tk5 (i := 204) rfl rfl⟩
def M_X4_chain : MM := (yX4_chain, cX4_chain, 4, some .long, [], 0, 0, 0, 0)
theorem mp_X4_chain : mpOk M_X4_chain 2 := ⟨by decide +kernel, by decide +kernel, by decide +kernel⟩
theorem ms_X4_chain : msOk M_X4_chain := ⟨tk2 (i := 4) (by decide +kernel) rfl, tk1 (i := 1) (by decide +kernel) rfl, tk2 (i := 5) rfl rfl⟩
def M_X4_chainFlag : MM := (yX4_chainFlag, cX4_chainFlag, 3, some .long, [], 1, 23, 0, 0)
theorem mp_X4_chainFlag : mpOk M_X4_chainFlag 2 := ⟨by decide +kernel, by decide +kernel, by decide +kernel⟩
theorem ms_X4_chainFlag : msOk M_X4_chainFlag := ⟨tk2 (i := 57) (by decide +kernel) rfl, tk1 (i := 1) (by decide +kernel) rfl, tk2 (i := 58) rfl rfl⟩
def M_X4_chainTranslation : MM := (yX4_chainTranslation, cX4_chainTranslation, 7, some .long, [], 4, 88, 0, 0)
theorem mp_X4_chainTranslation : mpOk M_X4_chainTranslation 3 := ⟨by decide +kernel, by decide +kernel, by decide +kernel⟩
theorem mv_X4_chainTranslation : mvOk M_X4_chainTranslation := ⟨tk2 (i := 45) (by decide +kernel) rfl, pk (q := (yX4_chainTranslation, 6)) (List.mem_of_getElem? (i := 8) (by decide +kernel)), tk1 (i := 1) (by decide +kernel) rfl, tk2 (i := 46) rfl rfl⟩
def M_X4_chainClause : MM := (yX4_chainClause, cX4_chainClause, 7, some .long, [], 5, 114, 0, 0)
theorem mp_X4_chainClause : mpOk M_X4_chainClause 2 := ⟨by decide +kernel, by decide +kernel, by decide +kernel⟩
theorem mv_X4_chainClause : mvOk M_X4_chainClause := ⟨tk2 (i := 9) (by decide +kernel) rfl, pk (q := (yX4_chainClause, 6)) (List.mem_of_getElem? (i := 7) (by decide +kernel)), tk1 (i := 1) (by decide +kernel) rfl, tk2 (i := 10) rfl rfl⟩
def M_X4_chainVoice : MM := (yX4_chainVoice, cX4_chainVoice, 7, some .long, [], 4, 90, 0, 0)
theorem mp_X4_chainVoice : mpOk M_X4_chainVoice 3 := ⟨by decide +kernel, by decide +kernel, by decide +kernel⟩
theorem mv_X4_chainVoice : mvOk M_X4_chainVoice := ⟨tk2 (i := 108) (by decide +kernel) rfl, pk (q := (yX4_chainVoice, 6)) (List.mem_of_getElem? (i := 9) (by decide +kernel)), tk1 (i := 1) (by decide +kernel) rfl, tk2 (i := 109) rfl rfl⟩
def M_X4_chainReel : MM := (yX4_chainReel, cX4_chainReel, 7, some .long, [], 4, 89, 0, 0)
theorem mp_X4_chainReel : mpOk M_X4_chainReel 2 := ⟨by decide +kernel, by decide +kernel, by decide +kernel⟩
theorem mv_X4_chainReel : mvOk M_X4_chainReel := ⟨tk2 (i := 153) (by decide +kernel) rfl, pk (q := (yX4_chainReel, 6)) (List.mem_of_getElem? (i := 11) (by decide +kernel)), tk1 (i := 1) (by decide +kernel) rfl, tk2 (i := 154) rfl rfl⟩
def M_X4_bitsOf : MM := (yX4_bitsOf, cX4_bitsOf, 8, some .long, [], 0, 0, 0, 0)
theorem mp_X4_bitsOf : mpOk M_X4_bitsOf 1 := ⟨by decide +kernel, by decide +kernel, by decide +kernel⟩
theorem ms_X4_bitsOf : msOk M_X4_bitsOf := ⟨tk3 (i := 1) (by decide +kernel) rfl, tk1 (i := 1) (by decide +kernel) rfl, tk3 (i := 2) rfl rfl⟩
def M_X4_chainTongue : MM := (yX4_chainTongue, cX4_chainTongue, 6, some .long, [], 5, 113, 0, 0)
theorem mp_X4_chainTongue : mpOk M_X4_chainTongue 2 := ⟨by decide +kernel, by decide +kernel, by decide +kernel⟩
theorem mv_X4_chainTongue : mvOk M_X4_chainTongue := ⟨tk2 (i := 197) (by decide +kernel) rfl, pk (q := (yX4_chainTongue, 6)) (List.mem_of_getElem? (i := 12) (by decide +kernel)), tk1 (i := 1) (by decide +kernel) rfl, tk2 (i := 198) rfl rfl⟩
def M_X4_chainAccounts : MM := (yX4_chainAccounts, cX4_chainAccounts, 6, some .long, [], 4, 88, 0, 0)
theorem mp_X4_chainAccounts : mpOk M_X4_chainAccounts 1 := ⟨by decide +kernel, by decide +kernel, by decide +kernel⟩
theorem mv_X4_chainAccounts : mvOk M_X4_chainAccounts := ⟨tk3 (i := 8) (by decide +kernel) rfl, pk (q := (yX4_chainAccounts, 6)) (List.mem_of_getElem? (i := 14) (by decide +kernel)), tk1 (i := 1) (by decide +kernel) rfl, tk3 (i := 9) rfl rfl⟩
def M_X4_chainBuffer : MM := (yX4_chainBuffer, cX4_chainBuffer, 6, some .long, [], 1, 23, 0, 0)
theorem mp_X4_chainBuffer : mpOk M_X4_chainBuffer 1 := ⟨by decide +kernel, by decide +kernel, by decide +kernel⟩
theorem mv_X4_chainBuffer : mvOk M_X4_chainBuffer := ⟨tk3 (i := 29) (by decide +kernel) rfl, pk (q := (yX4_chainBuffer, 6)) (List.mem_of_getElem? (i := 17) (by decide +kernel)), tk1 (i := 1) (by decide +kernel) rfl, tk3 (i := 30) rfl rfl⟩
def M_X4_digest : MM := (yX4_digest, cX4_digest, 5, some .long, [], 6, 140, 0, 0)
theorem mp_X4_digest : mpOk M_X4_digest 0 := ⟨by decide +kernel, by decide +kernel, by decide +kernel⟩
theorem mv_X4_digest : mvOk M_X4_digest := ⟨tk1 (i := 239) (by decide +kernel) rfl, tk2 (i := 0) (by decide +kernel) rfl, tk1 (i := 1) (by decide +kernel) rfl, tk2 (i := 1) rfl rfl⟩
def M_L_law : MM := (yL_law, cL_law, 9, some .boolean, [], 13, 506, 600130, 7301080)
theorem fl_RX0_9 : flOk RX0 9 0 0 := ⟨tk1 (i := 110) (by decide +kernel) rfl, by decide, by decide, rfl⟩
theorem fl_RX0_15 : flOk RX0 15 0 2 := ⟨tk1 (i := 114) (by decide +kernel) rfl, by decide, by decide, rfl⟩
theorem fl_RX0_18 : flOk RX0 18 0 3 := ⟨tk1 (i := 116) (by decide +kernel) rfl, by decide, by decide, rfl⟩
theorem fl_RX0_21 : flOk RX0 21 0 4 := ⟨tk1 (i := 118) (by decide +kernel) rfl, by decide, by decide, rfl⟩
theorem fl_RX0_24 : flOk RX0 24 0 5 := ⟨tk1 (i := 120) (by decide +kernel) rfl, by decide, by decide, rfl⟩
theorem fl_RX0_27 : flOk RX0 27 0 1 := ⟨tk1 (i := 112) (by decide +kernel) rfl, by decide, by decide, rfl⟩
theorem fl_RX0_35 : flOk RX0 35 0 6 := ⟨tk1 (i := 122) (by decide +kernel) rfl, by decide, by decide, rfl⟩
theorem fl_RX0_38 : flOk RX0 38 0 7 := ⟨tk1 (i := 124) (by decide +kernel) rfl, by decide, by decide, rfl⟩
theorem fl_RX1_11 : flOk RX1 11 1 0 := ⟨tk1 (i := 96) (by decide +kernel) rfl, by decide, by decide, rfl⟩
theorem fl_RX1_18 : flOk RX1 18 1 1 := ⟨tk1 (i := 97) (by decide +kernel) rfl, by decide, by decide, rfl⟩
theorem fl_RX2_9 : flOk RX2 9 2 0 := ⟨tk1 (i := 149) (by decide +kernel) rfl, by decide, by decide, rfl⟩
theorem fl_RX2_15 : flOk RX2 15 2 1 := ⟨tk1 (i := 150) (by decide +kernel) rfl, by decide, by decide, rfl⟩
theorem fl_RX2_18 : flOk RX2 18 2 2 := ⟨tk1 (i := 151) (by decide +kernel) rfl, by decide, by decide, rfl⟩
theorem fl_RX2_22 : flOk RX2 22 2 3 := ⟨tk1 (i := 152) (by decide +kernel) rfl, by decide, by decide, rfl⟩
theorem fl_RX2_25 : flOk RX2 25 2 4 := ⟨tk1 (i := 153) (by decide +kernel) rfl, by decide, by decide, rfl⟩
theorem fl_RX3_9 : flOk RX3 9 3 1 := ⟨tk1 (i := 31) (by decide +kernel) rfl, by decide, by decide, rfl⟩
theorem fl_RX3_15 : flOk RX3 15 3 2 := ⟨tk1 (i := 33) (by decide +kernel) rfl, by decide, by decide, rfl⟩
theorem fl_RX3_18 : flOk RX3 18 3 3 := ⟨tk1 (i := 34) (by decide +kernel) rfl, by decide, by decide, rfl⟩
theorem fl_RX3_21 : flOk RX3 21 3 4 := ⟨tk1 (i := 36) (by decide +kernel) rfl, by decide, by decide, rfl⟩
theorem fl_RX3_24 : flOk RX3 24 3 5 := ⟨tk1 (i := 38) (by decide +kernel) rfl, by decide, by decide, rfl⟩
theorem fl_RX3_27 : flOk RX3 27 3 6 := ⟨tk1 (i := 39) (by decide +kernel) rfl, by decide, by decide, rfl⟩
theorem fl_RX3_30 : flOk RX3 30 3 7 := ⟨tk1 (i := 40) (by decide +kernel) rfl, by decide, by decide, rfl⟩
theorem fl_RX3_33 : flOk RX3 33 3 8 := ⟨tk1 (i := 41) (by decide +kernel) rfl, by decide, by decide, rfl⟩
theorem fl_RX3_36 : flOk RX3 36 3 9 := ⟨tk1 (i := 42) (by decide +kernel) rfl, by decide, by decide, rfl⟩
theorem fl_RX3_39 : flOk RX3 39 3 10 := ⟨tk1 (i := 43) (by decide +kernel) rfl, by decide, by decide, rfl⟩
theorem fl_RX3_42 : flOk RX3 42 3 11 := ⟨tk1 (i := 44) (by decide +kernel) rfl, by decide, by decide, rfl⟩
theorem fl_RX3_45 : flOk RX3 45 3 0 := ⟨tk1 (i := 29) (by decide +kernel) rfl, by decide, by decide, rfl⟩
end XM27
