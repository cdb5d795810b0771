/-! the methods: their rows, and what the tables say of them -/
section XM20
def M_J6_bitCount_0f7a4 : MM := (yJ6_bitCount_0f7a4, cJ6_bitCount_0f7a4, 1, some .int, [], 0, 0, 0, 0)
theorem mp_J6_bitCount_0f7a4 : mpOk M_J6_bitCount_0f7a4 1 := ⟨by decide +kernel, by decide +kernel, by decide +kernel⟩
theorem ms_J6_bitCount_0f7a4 : msOk M_J6_bitCount_0f7a4 := ⟨tk2 (i := 220) (by decide +kernel) rfl, tk1 (i := 15) (by decide +kernel) rfl, tk2 (i := 221) rfl rfl⟩
def M_Jxe99ae_isNaN_b9ae7 : MM := (yJxe99ae_isNaN_b9ae7, cJxe99ae_isNaN_b9ae7, 2, some .boolean, [], 0, 0, 0, 0)
theorem mp_Jxe99ae_isNaN_b9ae7 : mpOk M_Jxe99ae_isNaN_b9ae7 1 := ⟨by decide +kernel, by decide +kernel, by decide +kernel⟩
theorem ms_Jxe99ae_isNaN_b9ae7 : msOk M_Jxe99ae_isNaN_b9ae7 := ⟨tk8 (i := 51) (by decide +kernel) rfl, tk1 (i := 16) (by decide +kernel) rfl, tk8 (i := 52) rfl rfl⟩
def M_Jxe99ae_doubleToLongBits_ccdee : MM := (yJxe99ae_doubleToLongBits_ccdee, cJxe99ae_doubleToLongBits_ccdee, 2, some .long, [], 1, 21, 0, 0)
theorem mp_Jxe99ae_doubleToLongBits_ccdee : mpOk M_Jxe99ae_doubleToLongBits_ccdee 1 := ⟨by decide +kernel, by decide +kernel, by decide +kernel⟩
theorem ms_Jxe99ae_doubleToLongBits_ccdee : msOk M_Jxe99ae_doubleToLongBits_ccdee := ⟨tk8 (i := 48) (by decide +kernel) rfl, tk1 (i := 16) (by decide +kernel) rfl, tk8 (i := 49) rfl rfl⟩
def M_X4_checkReel : MM := (yX4_checkReel, cX4_checkReel, 1, none, [], 6, 86, 1, 6)
theorem mp_X4_checkReel : mpOk M_X4_checkReel 1 := ⟨by decide +kernel, by decide +kernel, by decide +kernel⟩
theorem ms_X4_checkReel : msOk M_X4_checkReel := ⟨tk3 (i := 69) (by decide +kernel) rfl, tk1 (i := 1) (by decide +kernel) rfl, tk3 (i := 70) rfl rfl⟩
def M_X4_checkState : MM := (yX4_checkState, cX4_checkState, 1, none, [], 6, 86, 1, 6)
theorem mp_X4_checkState : mpOk M_X4_checkState 1 := ⟨by decide +kernel, by decide +kernel, by decide +kernel⟩
theorem ms_X4_checkState : msOk M_X4_checkState := ⟨tk3 (i := 140) (by decide +kernel) rfl, tk1 (i := 1) (by decide +kernel) rfl, tk3 (i := 141) rfl rfl⟩
def M_X4_checkRange : MM := (yX4_checkRange, cX4_checkRange, 3, none, [], 6, 86, 1, 6)
theorem mp_X4_checkRange : mpOk M_X4_checkRange 3 := ⟨by decide +kernel, by decide +kernel, by decide +kernel⟩
theorem ms_X4_checkRange : msOk M_X4_checkRange := ⟨tk3 (i := 144) (by decide +kernel) rfl, tk1 (i := 1) (by decide +kernel) rfl, tk3 (i := 145) rfl rfl⟩
def M_X4_treatyAt : MM := (yX4_treatyAt, cX4_treatyAt, 2, some (.object "SighTreaties$Treaty"), [], 0, 0, 0, 0)
theorem mp_X4_treatyAt : mpOk M_X4_treatyAt 2 := ⟨by decide +kernel, by decide +kernel, by decide +kernel⟩
theorem ms_X4_treatyAt : msOk M_X4_treatyAt := ⟨tk3 (i := 187) (by decide +kernel) rfl, tk1 (i := 1) (by decide +kernel) rfl, tk3 (i := 188) rfl rfl⟩
def M_X1_dropOldest : MM := (yX1_dropOldest, cX1_dropOldest, 3, none, [], 1, 21, 0, 0)
theorem mp_X1_dropOldest : mpOk M_X1_dropOldest 0 := ⟨by decide +kernel, by decide +kernel, by decide +kernel⟩
theorem mv_X1_dropOldest : mvOk M_X1_dropOldest := ⟨tk3 (i := 184) (by decide +kernel) rfl, pk (q := (yX1_dropOldest, 2)) (List.mem_of_getElem? (i := 19) (by decide +kernel)), tk1 (i := 3) (by decide +kernel) rfl, tk3 (i := 185) rfl rfl⟩
def M_X4_copyRow : MM := (yX4_copyRow, cX4_copyRow, 2, none, [], 1, 30, 0, 0)
theorem mp_X4_copyRow : mpOk M_X4_copyRow 2 := ⟨by decide +kernel, by decide +kernel, by decide +kernel⟩
theorem ms_X4_copyRow : msOk M_X4_copyRow := ⟨tk3 (i := 194) (by decide +kernel) rfl, tk1 (i := 1) (by decide +kernel) rfl, tk3 (i := 195) rfl rfl⟩
def M_X3_becomeLike : MM := (yX3_becomeLike, cX3_becomeLike, 2, none, [], 2, 51, 0, 0)
theorem mp_X3_becomeLike : mpOk M_X3_becomeLike 1 := ⟨by decide +kernel, by decide +kernel, by decide +kernel⟩
theorem mv_X3_becomeLike : mvOk M_X3_becomeLike := ⟨tk3 (i := 190) (by decide +kernel) rfl, tk3 (i := 191) (by decide +kernel) rfl, tk1 (i := 2) (by decide +kernel) rfl, tk3 (i := 192) rfl rfl⟩
def M_X1_push : MM := (yX1_push, cX1_push, 3, none, [], 3, 72, 0, 0)
theorem mp_X1_push : mpOk M_X1_push 1 := ⟨by decide +kernel, by decide +kernel, by decide +kernel⟩
theorem mv_X1_push : mvOk M_X1_push := ⟨tk3 (i := 179) (by decide +kernel) rfl, tk3 (i := 180) (by decide +kernel) rfl, tk1 (i := 3) (by decide +kernel) rfl, tk3 (i := 181) rfl rfl⟩
def M_X4_put : MM := (yX4_put, cX4_put, 3, none, [], 0, 0, 0, 0)
theorem mp_X4_put : mpOk M_X4_put 3 := ⟨by decide +kernel, by decide +kernel, by decide +kernel⟩
theorem ms_X4_put : msOk M_X4_put := ⟨tk1 (i := 210) (by decide +kernel) rfl, tk1 (i := 1) (by decide +kernel) rfl, tk1 (i := 211) rfl rfl⟩
def M_X3_place : MM := (yX3_place, cX3_place, 2, some .int, [], 0, 0, 0, 0)
theorem mp_X3_place : mpOk M_X3_place 2 := ⟨by decide +kernel, by decide +kernel, by decide +kernel⟩
theorem ms_X3_place : msOk M_X3_place := ⟨tk2 (i := 33) (by decide +kernel) rfl, tk1 (i := 2) (by decide +kernel) rfl, tk2 (i := 34) rfl rfl⟩
def M_X3_unmix : MM := (yX3_unmix, cX3_unmix, 3, none, [], 1, 22, 0, 0)
theorem mp_X3_unmix : mpOk M_X3_unmix 2 := ⟨by decide +kernel, by decide +kernel, by decide +kernel⟩
theorem mv_X3_unmix : mvOk M_X3_unmix := ⟨tk3 (i := 211) (by decide +kernel) rfl, pk (q := (yX3_unmix, 16)) (List.mem_of_getElem? (i := 20) (by decide +kernel)), tk1 (i := 2) (by decide +kernel) rfl, tk3 (i := 212) rfl rfl⟩
def M_X3_unmixEverywhere : MM := (yX3_unmixEverywhere, cX3_unmixEverywhere, 3, none, [], 2, 44, 0, 0)
theorem mp_X3_unmixEverywhere : mpOk M_X3_unmixEverywhere 1 := ⟨by decide +kernel, by decide +kernel, by decide +kernel⟩
theorem mv_X3_unmixEverywhere : mvOk M_X3_unmixEverywhere := ⟨tk3 (i := 206) (by decide +kernel) rfl, tk3 (i := 207) (by decide +kernel) rfl, tk1 (i := 2) (by decide +kernel) rfl, tk3 (i := 208) rfl rfl⟩
def M_X3_add : MM := (yX3_add, cX3_add, 6, some .int, [], 3, 66, 0, 0)
theorem mp_X3_add : mpOk M_X3_add 4 := ⟨by decide +kernel, by decide +kernel, by decide +kernel⟩
theorem mv_X3_add : mvOk M_X3_add := ⟨tk3 (i := 201) (by decide +kernel) rfl, tk3 (i := 202) (by decide +kernel) rfl, tk1 (i := 2) (by decide +kernel) rfl, tk3 (i := 203) rfl rfl⟩
def M_X4_addClause : MM := (yX4_addClause, cX4_addClause, 4, some .int, [], 7, 108, 4, 24)
theorem mp_X4_addClause : mpOk M_X4_addClause 3 := ⟨by decide +kernel, by decide +kernel, by decide +kernel⟩
theorem mv_X4_addClause : mvOk M_X4_addClause := ⟨tk3 (i := 65) (by decide +kernel) rfl, tk3 (i := 66) (by decide +kernel) rfl, tk1 (i := 1) (by decide +kernel) rfl, tk3 (i := 67) rfl rfl⟩
def M_L_addClause : MM := (yL_addClause, cL_addClause, 6, some .int, [(0, 12, 15, 13), (0, 12, 19, 15), (0, 12, 23, 17)], 8, 131, 4, 24)
theorem mp_L_addClause : mpOk M_L_addClause 5 := ⟨by decide +kernel, by decide +kernel, by decide +kernel⟩
theorem ms_L_addClause : msOk M_L_addClause := ⟨tk3 (i := 59) (by decide +kernel) rfl, tk1 (i := 0) (by decide +kernel) rfl, tk3 (i := 60) rfl rfl⟩
def M_X4_checkClause : MM := (yX4_checkClause, cX4_checkClause, 2, none, [], 6, 86, 1, 6)
theorem mp_X4_checkClause : mpOk M_X4_checkClause 1 := ⟨by decide +kernel, by decide +kernel, by decide +kernel⟩
theorem mv_X4_checkClause : mvOk M_X4_checkClause := ⟨tk3 (i := 222) (by decide +kernel) rfl, pk (q := (yX4_checkClause, 6)) (List.mem_of_getElem? (i := 21) (by decide +kernel)), tk1 (i := 1) (by decide +kernel) rfl, tk3 (i := 223) rfl rfl⟩
def M_X4_checkTongue : MM := (yX4_checkTongue, cX4_checkTongue, 1, none, [], 6, 86, 1, 6)
theorem mp_X4_checkTongue : mpOk M_X4_checkTongue 1 := ⟨by decide +kernel, by decide +kernel, by decide +kernel⟩
theorem ms_X4_checkTongue : msOk M_X4_checkTongue := ⟨tk4 (i := 20) (by decide +kernel) rfl, tk1 (i := 1) (by decide +kernel) rfl, tk4 (i := 21) rfl rfl⟩
def M_X4_checkTranslation : MM := (yX4_checkTranslation, cX4_checkTranslation, 3, none, [], 7, 107, 2, 12)
theorem mp_X4_checkTranslation : mpOk M_X4_checkTranslation 2 := ⟨by decide +kernel, by decide +kernel, by decide +kernel⟩
theorem mv_X4_checkTranslation : mvOk M_X4_checkTranslation := ⟨tk4 (i := 17) (by decide +kernel) rfl, pk (q := (yX4_checkTranslation, 6)) (List.mem_of_getElem? (i := 22) (by decide +kernel)), tk1 (i := 1) (by decide +kernel) rfl, tk4 (i := 18) rfl rfl⟩
def M_X4_at : MM := (yX4_at, cX4_at, 2, some .int, [], 0, 0, 0, 0)
theorem mp_X4_at : mpOk M_X4_at 2 := ⟨by decide +kernel, by decide +kernel, by decide +kernel⟩
theorem ms_X4_at : msOk M_X4_at := ⟨tk1 (i := 199) (by decide +kernel) rfl, tk1 (i := 1) (by decide +kernel) rfl, tk1 (i := 200) rfl rfl⟩
def M_X3_framesAt : MM := (yX3_framesAt, cX3_framesAt, 3, some .int, [], 1, 21, 0, 0)
theorem mp_X3_framesAt : mpOk M_X3_framesAt 2 := ⟨by decide +kernel, by decide +kernel, by decide +kernel⟩
theorem mv_X3_framesAt : mvOk M_X3_framesAt := ⟨tk2 (i := 87) (by decide +kernel) rfl, tk2 (i := 88) (by decide +kernel) rfl, tk1 (i := 2) (by decide +kernel) rfl, tk2 (i := 89) rfl rfl⟩
def M_X3_hasTranslation : MM := (yX3_hasTranslation, cX3_hasTranslation, 3, some .boolean, [], 2, 43, 0, 0)
theorem mp_X3_hasTranslation : mpOk M_X3_hasTranslation 2 := ⟨by decide +kernel, by decide +kernel, by decide +kernel⟩
theorem mv_X3_hasTranslation : mvOk M_X3_hasTranslation := ⟨tk2 (i := 108) (by decide +kernel) rfl, tk2 (i := 109) (by decide +kernel) rfl, tk1 (i := 2) (by decide +kernel) rfl, tk2 (i := 110) rfl rfl⟩
def M_X3_isTaken : MM := (yX3_isTaken, cX3_isTaken, 3, some .boolean, [], 1, 21, 0, 0)
theorem mp_X3_isTaken : mpOk M_X3_isTaken 2 := ⟨by decide +kernel, by decide +kernel, by decide +kernel⟩
theorem mv_X3_isTaken : mvOk M_X3_isTaken := ⟨tk2 (i := 29) (by decide +kernel) rfl, tk2 (i := 30) (by decide +kernel) rfl, tk1 (i := 2) (by decide +kernel) rfl, tk2 (i := 31) rfl rfl⟩
def M_X3_annexedAt : MM := (yX3_annexedAt, cX3_annexedAt, 3, some .int, [], 1, 21, 0, 0)
theorem mp_X3_annexedAt : mpOk M_X3_annexedAt 2 := ⟨by decide +kernel, by decide +kernel, by decide +kernel⟩
theorem mv_X3_annexedAt : mvOk M_X3_annexedAt := ⟨tk2 (i := 96) (by decide +kernel) rfl, tk2 (i := 97) (by decide +kernel) rfl, tk1 (i := 2) (by decide +kernel) rfl, tk2 (i := 98) rfl rfl⟩
def M_X3_annexTotal : MM := (yX3_annexTotal, cX3_annexTotal, 4, some .int, [], 2, 43, 0, 0)
theorem mp_X3_annexTotal : mpOk M_X3_annexTotal 1 := ⟨by decide +kernel, by decide +kernel, by decide +kernel⟩
theorem mv_X3_annexTotal : mvOk M_X3_annexTotal := ⟨tk3 (i := 2) (by decide +kernel) rfl, tk3 (i := 3) (by decide +kernel) rfl, tk1 (i := 2) (by decide +kernel) rfl, tk3 (i := 4) rfl rfl⟩
def M_X3_canAnnex : MM := (yX3_canAnnex, cX3_canAnnex, 4, some .boolean, [], 3, 66, 0, 0)
theorem mp_X3_canAnnex : mpOk M_X3_canAnnex 3 := ⟨by decide +kernel, by decide +kernel, by decide +kernel⟩
theorem mv_X3_canAnnex : mvOk M_X3_canAnnex := ⟨tk4 (i := 36) (by decide +kernel) rfl, tk4 (i := 37) (by decide +kernel) rfl, tk1 (i := 2) (by decide +kernel) rfl, tk4 (i := 38) rfl rfl⟩
def M_X3_putTranslation : MM := (yX3_putTranslation, cX3_putTranslation, 5, none, [], 1, 22, 0, 0)
theorem mp_X3_putTranslation : mpOk M_X3_putTranslation 4 := ⟨by decide +kernel, by decide +kernel, by decide +kernel⟩
theorem mv_X3_putTranslation : mvOk M_X3_putTranslation := ⟨tk4 (i := 25) (by decide +kernel) rfl, tk4 (i := 26) (by decide +kernel) rfl, tk1 (i := 2) (by decide +kernel) rfl, tk4 (i := 27) rfl rfl⟩
def M_X4_annex : MM := (yX4_annex, cX4_annex, 5, some .int, [], 8, 129, 4, 24)
theorem mp_X4_annex : mpOk M_X4_annex 3 := ⟨by decide +kernel, by decide +kernel, by decide +kernel⟩
theorem mv_X4_annex : mvOk M_X4_annex := ⟨tk4 (i := 32) (by decide +kernel) rfl, tk4 (i := 33) (by decide +kernel) rfl, tk1 (i := 1) (by decide +kernel) rfl, tk4 (i := 34) rfl rfl⟩
def M_L_annex : MM := (yL_annex, cL_annex, 6, some .int, [(0, 12, 15, 13), (0, 12, 19, 15), (0, 12, 23, 17)], 9, 153, 4, 24)
theorem mp_L_annex : mpOk M_L_annex 5 := ⟨by decide +kernel, by decide +kernel, by decide +kernel⟩
theorem ms_L_annex : msOk M_L_annex := ⟨tk4 (i := 29) (by decide +kernel) rfl, tk1 (i := 0) (by decide +kernel) rfl, tk4 (i := 30) rfl rfl⟩
def M_X4_annexOf : MM := (yX4_annexOf, cX4_annexOf, 2, some .int, [], 7, 106, 1, 6)
theorem mp_X4_annexOf : mpOk M_X4_annexOf 1 := ⟨by decide +kernel, by decide +kernel, by decide +kernel⟩
theorem mv_X4_annexOf : mvOk M_X4_annexOf := ⟨tk5 (i := 155) (by decide +kernel) rfl, tk5 (i := 156) (by decide +kernel) rfl, tk1 (i := 1) (by decide +kernel) rfl, tk5 (i := 157) rfl rfl⟩
def M_L_annexOf : MM := (yL_annexOf, cL_annexOf, 4, some .int, [(0, 9, 12, 13)], 8, 127, 1, 6)
theorem mp_L_annexOf : mpOk M_L_annexOf 3 := ⟨by decide +kernel, by decide +kernel, by decide +kernel⟩
theorem ms_L_annexOf : msOk M_L_annexOf := ⟨tk5 (i := 152) (by decide +kernel) rfl, tk1 (i := 0) (by decide +kernel) rfl, tk5 (i := 153) rfl rfl⟩
def M_X4_annexedOf : MM := (yX4_annexedOf, cX4_annexedOf, 3, some .int, [], 8, 129, 2, 12)
theorem mp_X4_annexedOf : mpOk M_X4_annexedOf 2 := ⟨by decide +kernel, by decide +kernel, by decide +kernel⟩
theorem mv_X4_annexedOf : mvOk M_X4_annexedOf := ⟨tk5 (i := 9) (by decide +kernel) rfl, tk5 (i := 10) (by decide +kernel) rfl, tk1 (i := 1) (by decide +kernel) rfl, tk5 (i := 11) rfl rfl⟩
def M_L_annexedOf : MM := (yL_annexedOf, cL_annexedOf, 5, some .int, [(0, 10, 13, 13)], 9, 151, 2, 12)
theorem mp_L_annexedOf : mpOk M_L_annexedOf 4 := ⟨by decide +kernel, by decide +kernel, by decide +kernel⟩
theorem ms_L_annexedOf : msOk M_L_annexedOf := ⟨tk5 (i := 6) (by decide +kernel) rfl, tk1 (i := 0) (by decide +kernel) rfl, tk5 (i := 7) rfl rfl⟩
def M_X0_putSign : MM := (yX0_putSign, cX0_putSign, 2, none, [], 1, 22, 0, 0)
theorem mp_X0_putSign : mpOk M_X0_putSign 1 := ⟨by decide +kernel, by decide +kernel, by decide +kernel⟩
theorem mv_X0_putSign : mvOk M_X0_putSign := ⟨tk4 (i := 148) (by decide +kernel) rfl, tk4 (i := 149) (by decide +kernel) rfl, tk1 (i := 4) (by decide +kernel) rfl, tk4 (i := 150) rfl rfl⟩
def M_X4_append : MM := (yX4_append, cX4_append, 2, some .int, [], 7, 108, 2, 12)
theorem mp_X4_append : mpOk M_X4_append 1 := ⟨by decide +kernel, by decide +kernel, by decide +kernel⟩
theorem mv_X4_append : mvOk M_X4_append := ⟨tk4 (i := 143) (by decide +kernel) rfl, tk4 (i := 144) (by decide +kernel) rfl, tk1 (i := 1) (by decide +kernel) rfl, tk4 (i := 145) rfl rfl⟩
def M_L_append : MM := (yL_append, cL_append, 4, some .int, [(0, 9, 12, 15), (0, 9, 15, 17)], 8, 129, 2, 12)
theorem mp_L_append : mpOk M_L_append 3 := ⟨by decide +kernel, by decide +kernel, by decide +kernel⟩
theorem ms_L_append : msOk M_L_append := ⟨tk4 (i := 140) (by decide +kernel) rfl, tk1 (i := 0) (by decide +kernel) rfl, tk4 (i := 141) rfl rfl⟩
def M_X4_bringBack : MM := (yX4_bringBack, cX4_bringBack, 4, some .int, [], 8, 129, 3, 18)
theorem mp_X4_bringBack : mpOk M_X4_bringBack 2 := ⟨by decide +kernel, by decide +kernel, by decide +kernel⟩
theorem mv_X4_bringBack : mvOk M_X4_bringBack := ⟨tk4 (i := 45) (by decide +kernel) rfl, tk4 (i := 46) (by decide +kernel) rfl, tk1 (i := 1) (by decide +kernel) rfl, tk4 (i := 47) rfl rfl⟩
def M_L_bringBack : MM := (yL_bringBack, cL_bringBack, 5, some .int, [(0, 10, 13, 13), (0, 10, 17, 17)], 9, 152, 3, 18)
theorem mp_L_bringBack : mpOk M_L_bringBack 4 := ⟨by decide +kernel, by decide +kernel, by decide +kernel⟩
theorem ms_L_bringBack : msOk M_L_bringBack := ⟨tk4 (i := 42) (by decide +kernel) rfl, tk1 (i := 0) (by decide +kernel) rfl, tk4 (i := 43) rfl rfl⟩
def M_X4_checkVoice : MM := (yX4_checkVoice, cX4_checkVoice, 2, none, [], 7, 106, 2, 12)
theorem mp_X4_checkVoice : mpOk M_X4_checkVoice 2 := ⟨by decide +kernel, by decide +kernel, by decide +kernel⟩
theorem ms_X4_checkVoice : msOk M_X4_checkVoice := ⟨tk4 (i := 57) (by decide +kernel) rfl, tk1 (i := 1) (by decide +kernel) rfl, tk4 (i := 58) rfl rfl⟩
def M_X3_usedBy : MM := (yX3_usedBy, cX3_usedBy, 3, some .int, [], 1, 21, 0, 0)
theorem mp_X3_usedBy : mpOk M_X3_usedBy 2 := ⟨by decide +kernel, by decide +kernel, by decide +kernel⟩
theorem mv_X3_usedBy : mvOk M_X3_usedBy := ⟨tk2 (i := 124) (by decide +kernel) rfl, tk2 (i := 125) (by decide +kernel) rfl, tk1 (i := 2) (by decide +kernel) rfl, tk2 (i := 126) rfl rfl⟩
def M_X3_staminaAt : MM := (yX3_staminaAt, cX3_staminaAt, 3, some .int, [], 1, 21, 0, 0)
theorem mp_X3_staminaAt : mpOk M_X3_staminaAt 2 := ⟨by decide +kernel, by decide +kernel, by decide +kernel⟩
theorem mv_X3_staminaAt : mvOk M_X3_staminaAt := ⟨tk2 (i := 120) (by decide +kernel) rfl, tk2 (i := 121) (by decide +kernel) rfl, tk1 (i := 2) (by decide +kernel) rfl, tk2 (i := 122) rfl rfl⟩
def M_X3_putStamina : MM := (yX3_putStamina, cX3_putStamina, 4, none, [], 1, 22, 0, 0)
theorem mp_X3_putStamina : mpOk M_X3_putStamina 3 := ⟨by decide +kernel, by decide +kernel, by decide +kernel⟩
end XM20
