/-! the methods: their rows, and what the tables say of them -/
section XM20
def M_J6_bitCount_0f7a4 : MM := (yJ6_bitCount_0f7a4, cJ6_bitCount_0f7a4, 1, some .int, [], 0, 0, 0, 0)
theorem mp_J6_bitCount_0f7a4 : mpOk M_J6_bitCount_0f7a4 1 := ⟨by decide +kernel, by decide +kernel, by decide +kernel⟩
theorem ms_J6_bitCount_0f7a4 : msOk M_J6_bitCount_0f7a4 := ⟨tk2 (i := 220) (by decide +kernel) rfl, tk1 (i := 15) (by decide +kernel) rfl, tk2 (i := 221) (by decide +kernel) rfl⟩
def M_Jxe99ae_isNaN_b9ae7 : MM := (yJxe99ae_isNaN_b9ae7, cJxe99ae_isNaN_b9ae7, 2, some .boolean, [], 0, 0, 0, 0)
theorem mp_Jxe99ae_isNaN_b9ae7 : mpOk M_Jxe99ae_isNaN_b9ae7 1 := ⟨by decide +kernel, by decide +kernel, by decide +kernel⟩
theorem ms_Jxe99ae_isNaN_b9ae7 : msOk M_Jxe99ae_isNaN_b9ae7 := ⟨tk8 (i := 51) (by decide +kernel) rfl, tk1 (i := 16) (by decide +kernel) rfl, tk8 (i := 52) (by decide +kernel) rfl⟩
def M_Jxe99ae_doubleToLongBits_ccdee : MM := (yJxe99ae_doubleToLongBits_ccdee, cJxe99ae_doubleToLongBits_ccdee, 2, some .long, [], 1, 21, 0, 0)
theorem mp_Jxe99ae_doubleToLongBits_ccdee : mpOk M_Jxe99ae_doubleToLongBits_ccdee 1 := ⟨by decide +kernel, by decide +kernel, by decide +kernel⟩
theorem ms_Jxe99ae_doubleToLongBits_ccdee : msOk M_Jxe99ae_doubleToLongBits_ccdee := ⟨tk8 (i := 48) (by decide +kernel) rfl, tk1 (i := 16) (by decide +kernel) rfl, tk8 (i := 49) (by decide +kernel) rfl⟩
def M_X4_checkReel : MM := (yX4_checkReel, cX4_checkReel, 1, none, [], 6, 86, 1, 6)
theorem mp_X4_checkReel : mpOk M_X4_checkReel 1 := ⟨by decide +kernel, by decide +kernel, by decide +kernel⟩
theorem ms_X4_checkReel : msOk M_X4_checkReel := ⟨tk3 (i := 69) (by decide +kernel) rfl, tk1 (i := 1) (by decide +kernel) rfl, tk3 (i := 70) (by decide +kernel) rfl⟩
def M_X4_checkState : MM := (yX4_checkState, cX4_checkState, 1, none, [], 6, 86, 1, 6)
theorem mp_X4_checkState : mpOk M_X4_checkState 1 := ⟨by decide +kernel, by decide +kernel, by decide +kernel⟩
theorem ms_X4_checkState : msOk M_X4_checkState := ⟨tk3 (i := 140) (by decide +kernel) rfl, tk1 (i := 1) (by decide +kernel) rfl, tk3 (i := 141) (by decide +kernel) rfl⟩
def M_X4_checkRange : MM := (yX4_checkRange, cX4_checkRange, 3, none, [], 6, 86, 1, 6)
theorem mp_X4_checkRange : mpOk M_X4_checkRange 3 := ⟨by decide +kernel, by decide +kernel, by decide +kernel⟩
theorem ms_X4_checkRange : msOk M_X4_checkRange := ⟨tk3 (i := 144) (by decide +kernel) rfl, tk1 (i := 1) (by decide +kernel) rfl, tk3 (i := 145) (by decide +kernel) rfl⟩
def M_X4_treatyAt : MM := (yX4_treatyAt, cX4_treatyAt, 2, some (.object "SighTreaties$Treaty"), [], 0, 0, 0, 0)
theorem mp_X4_treatyAt : mpOk M_X4_treatyAt 2 := ⟨by decide +kernel, by decide +kernel, by decide +kernel⟩
theorem ms_X4_treatyAt : msOk M_X4_treatyAt := ⟨tk3 (i := 187) (by decide +kernel) rfl, tk1 (i := 1) (by decide +kernel) rfl, tk3 (i := 188) (by decide +kernel) rfl⟩
def M_X1_dropOldest : MM := (yX1_dropOldest, cX1_dropOldest, 3, none, [], 1, 21, 0, 0)
theorem mp_X1_dropOldest : mpOk M_X1_dropOldest 0 := ⟨by decide +kernel, by decide +kernel, by decide +kernel⟩
theorem mv_X1_dropOldest : mvOk M_X1_dropOldest := ⟨tk3 (i := 184) (by decide +kernel) rfl, pk (q := (yX1_dropOldest, 2)) (List.mem_of_getElem? (i := 19) (by decide +kernel)), tk1 (i := 3) (by decide +kernel) rfl, tk3 (i := 185) (by decide +kernel) rfl⟩
def M_X4_copyRow : MM := (yX4_copyRow, cX4_copyRow, 2, none, [], 1, 30, 0, 0)
theorem mp_X4_copyRow : mpOk M_X4_copyRow 2 := ⟨by decide +kernel, by decide +kernel, by decide +kernel⟩
theorem ms_X4_copyRow : msOk M_X4_copyRow := ⟨tk3 (i := 194) (by decide +kernel) rfl, tk1 (i := 1) (by decide +kernel) rfl, tk3 (i := 195) (by decide +kernel) rfl⟩
def M_X3_becomeLike : MM := (yX3_becomeLike, cX3_becomeLike, 2, none, [], 2, 51, 0, 0)
theorem mp_X3_becomeLike : mpOk M_X3_becomeLike 1 := ⟨by decide +kernel, by decide +kernel, by decide +kernel⟩
theorem mv_X3_becomeLike : mvOk M_X3_becomeLike := ⟨tk3 (i := 190) (by decide +kernel) rfl, tk3 (i := 191) (by decide +kernel) rfl, tk1 (i := 2) (by decide +kernel) rfl, tk3 (i := 192) (by decide +kernel) rfl⟩
def M_X1_push : MM := (yX1_push, cX1_push, 3, none, [], 3, 72, 0, 0)
theorem mp_X1_push : mpOk M_X1_push 1 := ⟨by decide +kernel, by decide +kernel, by decide +kernel⟩
theorem mv_X1_push : mvOk M_X1_push := ⟨tk3 (i := 179) (by decide +kernel) rfl, tk3 (i := 180) (by decide +kernel) rfl, tk1 (i := 3) (by decide +kernel) rfl, tk3 (i := 181) (by decide +kernel) rfl⟩
def M_X4_put : MM := (yX4_put, cX4_put, 3, none, [], 0, 0, 0, 0)
theorem mp_X4_put : mpOk M_X4_put 3 := ⟨by decide +kernel, by decide +kernel, by decide +kernel⟩
theorem ms_X4_put : msOk M_X4_put := ⟨tk1 (i := 210) (by decide +kernel) rfl, tk1 (i := 1) (by decide +kernel) rfl, tk1 (i := 211) (by decide +kernel) rfl⟩
def M_X3_place : MM := (yX3_place, cX3_place, 2, some .int, [], 0, 0, 0, 0)
theorem mp_X3_place : mpOk M_X3_place 2 := ⟨by decide +kernel, by decide +kernel, by decide +kernel⟩
theorem ms_X3_place : msOk M_X3_place := ⟨tk2 (i := 33) (by decide +kernel) rfl, tk1 (i := 2) (by decide +kernel) rfl, tk2 (i := 34) (by decide +kernel) rfl⟩
def M_X3_unmix : MM := (yX3_unmix, cX3_unmix, 3, none, [], 1, 22, 0, 0)
theorem mp_X3_unmix : mpOk M_X3_unmix 2 := ⟨by decide +kernel, by decide +kernel, by decide +kernel⟩
theorem mv_X3_unmix : mvOk M_X3_unmix := ⟨tk3 (i := 211) (by decide +kernel) rfl, pk (q := (yX3_unmix, 16)) (List.mem_of_getElem? (i := 20) (by decide +kernel)), tk1 (i := 2) (by decide +kernel) rfl, tk3 (i := 212) (by decide +kernel) rfl⟩
def M_X3_unmixEverywhere : MM := (yX3_unmixEverywhere, cX3_unmixEverywhere, 3, none, [], 2, 44, 0, 0)
theorem mp_X3_unmixEverywhere : mpOk M_X3_unmixEverywhere 1 := ⟨by decide +kernel, by decide +kernel, by decide +kernel⟩
theorem mv_X3_unmixEverywhere : mvOk M_X3_unmixEverywhere := ⟨tk3 (i := 206) (by decide +kernel) rfl, tk3 (i := 207) (by decide +kernel) rfl, tk1 (i := 2) (by decide +kernel) rfl, tk3 (i := 208) (by decide +kernel) rfl⟩
def M_X3_add : MM := (yX3_add, cX3_add, 6, some .int, [], 3, 66, 0, 0)
theorem mp_X3_add : mpOk M_X3_add 4 := ⟨by decide +kernel, by decide +kernel, by decide +kernel⟩
theorem mv_X3_add : mvOk M_X3_add := ⟨tk3 (i := 201) (by decide +kernel) rfl, tk3 (i := 202) (by decide +kernel) rfl, tk1 (i := 2) (by decide +kernel) rfl, tk3 (i := 203) (by decide +kernel) rfl⟩
def M_X4_addClause : MM := (yX4_addClause, cX4_addClause, 4, some .int, [], 7, 108, 4, 24)
theorem mp_X4_addClause : mpOk M_X4_addClause 3 := ⟨by decide +kernel, by decide +kernel, by decide +kernel⟩
theorem mv_X4_addClause : mvOk M_X4_addClause := ⟨tk3 (i := 65) (by decide +kernel) rfl, tk3 (i := 66) (by decide +kernel) rfl, tk1 (i := 1) (by decide +kernel) rfl, tk3 (i := 67) (by decide +kernel) rfl⟩
def M_L_addClause : MM := (yL_addClause, cL_addClause, 6, some .int, [(0, 12, 15, 13), (0, 12, 19, 15), (0, 12, 23, 17)], 8, 131, 4, 24)
theorem mp_L_addClause : mpOk M_L_addClause 5 := ⟨by decide +kernel, by decide +kernel, by decide +kernel⟩
theorem ms_L_addClause : msOk M_L_addClause := ⟨tk3 (i := 59) (by decide +kernel) rfl, tk1 (i := 0) (by decide +kernel) rfl, tk3 (i := 60) (by decide +kernel) rfl⟩
def M_X4_checkClause : MM := (yX4_checkClause, cX4_checkClause, 2, none, [], 6, 86, 1, 6)
theorem mp_X4_checkClause : mpOk M_X4_checkClause 1 := ⟨by decide +kernel, by decide +kernel, by decide +kernel⟩
theorem mv_X4_checkClause : mvOk M_X4_checkClause := ⟨tk3 (i := 222) (by decide +kernel) rfl, pk (q := (yX4_checkClause, 6)) (List.mem_of_getElem? (i := 21) (by decide +kernel)), tk1 (i := 1) (by decide +kernel) rfl, tk3 (i := 223) (by decide +kernel) rfl⟩
def M_X4_checkTongue : MM := (yX4_checkTongue, cX4_checkTongue, 1, none, [], 6, 86, 1, 6)
theorem mp_X4_checkTongue : mpOk M_X4_checkTongue 1 := ⟨by decide +kernel, by decide +kernel, by decide +kernel⟩
theorem ms_X4_checkTongue : msOk M_X4_checkTongue := ⟨tk4 (i := 20) (by decide +kernel) rfl, tk1 (i := 1) (by decide +kernel) rfl, tk4 (i := 21) (by decide +kernel) rfl⟩
def M_X4_checkTranslation : MM := (yX4_checkTranslation, cX4_checkTranslation, 3, none, [], 7, 107, 2, 12)
theorem mp_X4_checkTranslation : mpOk M_X4_checkTranslation 2 := ⟨by decide +kernel, by decide +kernel, by decide +kernel⟩
theorem mv_X4_checkTranslation : mvOk M_X4_checkTranslation := ⟨tk4 (i := 17) (by decide +kernel) rfl, pk (q := (yX4_checkTranslation, 6)) (List.mem_of_getElem? (i := 22) (by decide +kernel)), tk1 (i := 1) (by decide +kernel) rfl, tk4 (i := 18) (by decide +kernel) rfl⟩
def M_X4_at : MM := (yX4_at, cX4_at, 2, some .int, [], 0, 0, 0, 0)
theorem mp_X4_at : mpOk M_X4_at 2 := ⟨by decide +kernel, by decide +kernel, by decide +kernel⟩
theorem ms_X4_at : msOk M_X4_at := ⟨tk1 (i := 199) (by decide +kernel) rfl, tk1 (i := 1) (by decide +kernel) rfl, tk1 (i := 200) (by decide +kernel) rfl⟩
def M_X3_framesAt : MM := (yX3_framesAt, cX3_framesAt, 3, some .int, [], 1, 21, 0, 0)
theorem mp_X3_framesAt : mpOk M_X3_framesAt 2 := ⟨by decide +kernel, by decide +kernel, by decide +kernel⟩
theorem mv_X3_framesAt : mvOk M_X3_framesAt := ⟨tk2 (i := 87) (by decide +kernel) rfl, tk2 (i := 88) (by decide +kernel) rfl, tk1 (i := 2) (by decide +kernel) rfl, tk2 (i := 89) (by decide +kernel) rfl⟩
def M_X3_hasTranslation : MM := (yX3_hasTranslation, cX3_hasTranslation, 3, some .boolean, [], 2, 43, 0, 0)
theorem mp_X3_hasTranslation : mpOk M_X3_hasTranslation 2 := ⟨by decide +kernel, by decide +kernel, by decide +kernel⟩
theorem mv_X3_hasTranslation : mvOk M_X3_hasTranslation := ⟨tk2 (i := 108) (by decide +kernel) rfl, tk2 (i := 109) (by decide +kernel) rfl, tk1 (i := 2) (by decide +kernel) rfl, tk2 (i := 110) (by decide +kernel) rfl⟩
def M_X3_isTaken : MM := (yX3_isTaken, cX3_isTaken, 3, some .boolean, [], 1, 21, 0, 0)
theorem mp_X3_isTaken : mpOk M_X3_isTaken 2 := ⟨by decide +kernel, by decide +kernel, by decide +kernel⟩
theorem mv_X3_isTaken : mvOk M_X3_isTaken := ⟨tk2 (i := 29) (by decide +kernel) rfl, tk2 (i := 30) (by decide +kernel) rfl, tk1 (i := 2) (by decide +kernel) rfl, tk2 (i := 31) (by decide +kernel) rfl⟩
def M_X3_annexedAt : MM := (yX3_annexedAt, cX3_annexedAt, 3, some .int, [], 1, 21, 0, 0)
theorem mp_X3_annexedAt : mpOk M_X3_annexedAt 2 := ⟨by decide +kernel, by decide +kernel, by decide +kernel⟩
theorem mv_X3_annexedAt : mvOk M_X3_annexedAt := ⟨tk2 (i := 96) (by decide +kernel) rfl, tk2 (i := 97) (by decide +kernel) rfl, tk1 (i := 2) (by decide +kernel) rfl, tk2 (i := 98) (by decide +kernel) rfl⟩
def M_X3_annexTotal : MM := (yX3_annexTotal, cX3_annexTotal, 4, some .int, [], 2, 43, 0, 0)
theorem mp_X3_annexTotal : mpOk M_X3_annexTotal 1 := ⟨by decide +kernel, by decide +kernel, by decide +kernel⟩
theorem mv_X3_annexTotal : mvOk M_X3_annexTotal := ⟨tk3 (i := 2) (by decide +kernel) rfl, tk3 (i := 3) (by decide +kernel) rfl, tk1 (i := 2) (by decide +kernel) rfl, tk3 (i := 4) (by decide +kernel) rfl⟩
def M_X3_canAnnex : MM := (yX3_canAnnex, cX3_canAnnex, 4, some .boolean, [], 3, 66, 0, 0)
theorem mp_X3_canAnnex : mpOk M_X3_canAnnex 3 := ⟨by decide +kernel, by decide +kernel, by decide +kernel⟩
theorem mv_X3_canAnnex : mvOk M_X3_canAnnex := ⟨tk4 (i := 36) (by decide +kernel) rfl, tk4 (i := 37) (by decide +kernel) rfl, tk1 (i := 2) (by decide +kernel) rfl, tk4 (i := 38) (by decide +kernel) rfl⟩
def M_X3_putTranslation : MM := (yX3_putTranslation, cX3_putTranslation, 5, none, [], 1, 22, 0, 0)
theorem mp_X3_putTranslation : mpOk M_X3_putTranslation 4 := ⟨by decide +kernel, by decide +kernel, by decide +kernel⟩
theorem mv_X3_putTranslation : mvOk M_X3_putTranslation := ⟨tk4 (i := 25) (by decide +kernel) rfl, tk4 (i := 26) (by decide +kernel) rfl, tk1 (i := 2) (by decide +kernel) rfl, tk4 (i := 27) (by decide +kernel) rfl⟩
def M_X4_annex : MM := (yX4_annex, cX4_annex, 5, some .int, [], 8, 129, 4, 24)
theorem mp_X4_annex : mpOk M_X4_annex 3 := ⟨by decide +kernel, by decide +kernel, by decide +kernel⟩
theorem mv_X4_annex : mvOk M_X4_annex := ⟨tk4 (i := 32) (by decide +kernel) rfl, tk4 (i := 33) (by decide +kernel) rfl, tk1 (i := 1) (by decide +kernel) rfl, tk4 (i := 34) (by decide +kernel) rfl⟩
def M_L_annex : MM := (yL_annex, cL_annex, 6, some .int, [(0, 12, 15, 13), (0, 12, 19, 15), (0, 12, 23, 17)], 9, 153, 4, 24)
theorem mp_L_annex : mpOk M_L_annex 5 := ⟨by decide +kernel, by decide +kernel, by decide +kernel⟩
theorem ms_L_annex : msOk M_L_annex := ⟨tk4 (i := 29) (by decide +kernel) rfl, tk1 (i := 0) (by decide +kernel) rfl, tk4 (i := 30) (by decide +kernel) rfl⟩
def M_X4_annexOf : MM := (yX4_annexOf, cX4_annexOf, 2, some .int, [], 7, 106, 1, 6)
theorem mp_X4_annexOf : mpOk M_X4_annexOf 1 := ⟨by decide +kernel, by decide +kernel, by decide +kernel⟩
theorem mv_X4_annexOf : mvOk M_X4_annexOf := ⟨tk5 (i := 155) (by decide +kernel) rfl, tk5 (i := 156) (by decide +kernel) rfl, tk1 (i := 1) (by decide +kernel) rfl, tk5 (i := 157) (by decide +kernel) rfl⟩
def M_L_annexOf : MM := (yL_annexOf, cL_annexOf, 4, some .int, [(0, 9, 12, 13)], 8, 127, 1, 6)
theorem mp_L_annexOf : mpOk M_L_annexOf 3 := ⟨by decide +kernel, by decide +kernel, by decide +kernel⟩
theorem ms_L_annexOf : msOk M_L_annexOf := ⟨tk5 (i := 152) (by decide +kernel) rfl, tk1 (i := 0) (by decide +kernel) rfl, tk5 (i := 153) (by decide +kernel) rfl⟩
def M_X4_annexedOf : MM := (yX4_annexedOf, cX4_annexedOf, 3, some .int, [], 8, 129, 2, 12)
theorem mp_X4_annexedOf : mpOk M_X4_annexedOf 2 := ⟨by decide +kernel, by decide +kernel, by decide +kernel⟩
theorem mv_X4_annexedOf : mvOk M_X4_annexedOf := ⟨tk5 (i := 9) (by decide +kernel) rfl, tk5 (i := 10) (by decide +kernel) rfl, tk1 (i := 1) (by decide +kernel) rfl, tk5 (i := 11) (by decide +kernel) rfl⟩
def M_L_annexedOf : MM := (yL_annexedOf, cL_annexedOf, 5, some .int, [(0, 10, 13, 13)], 9, 151, 2, 12)
theorem mp_L_annexedOf : mpOk M_L_annexedOf 4 := ⟨by decide +kernel, by decide +kernel, by decide +kernel⟩
theorem ms_L_annexedOf : msOk M_L_annexedOf := ⟨tk5 (i := 6) (by decide +kernel) rfl, tk1 (i := 0) (by decide +kernel) rfl, tk5 (i := 7) (by decide +kernel) rfl⟩
def M_X0_putSign : MM := (yX0_putSign, cX0_putSign, 2, none, [], 1, 22, 0, 0)
theorem mp_X0_putSign : mpOk M_X0_putSign 1 := ⟨by decide +kernel, by decide +kernel, by decide +kernel⟩
theorem mv_X0_putSign : mvOk M_X0_putSign := ⟨tk4 (i := 148) (by decide +kernel) rfl, tk4 (i := 149) (by decide +kernel) rfl, tk1 (i := 4) (by decide +kernel) rfl, tk4 (i := 150) (by decide +kernel) rfl⟩
def M_X4_append : MM := (yX4_append, cX4_append, 2, some .int, [], 7, 108, 2, 12)
theorem mp_X4_append : mpOk M_X4_append 1 := ⟨by decide +kernel, by decide +kernel, by decide +kernel⟩
theorem mv_X4_append : mvOk M_X4_append := ⟨tk4 (i := 143) (by decide +kernel) rfl, tk4 (i := 144) (by decide +kernel) rfl, tk1 (i := 1) (by decide +kernel) rfl, tk4 (i := 145) (by decide +kernel) rfl⟩
def M_L_append : MM := (yL_append, cL_append, 4, some .int, [(0, 9, 12, 15), (0, 9, 15, 17)], 8, 129, 2, 12)
theorem mp_L_append : mpOk M_L_append 3 := ⟨by decide +kernel, by decide +kernel, by decide +kernel⟩
theorem ms_L_append : msOk M_L_append := ⟨tk4 (i := 140) (by decide +kernel) rfl, tk1 (i := 0) (by decide +kernel) rfl, tk4 (i := 141) (by decide +kernel) rfl⟩
def M_X4_bringBack : MM := (yX4_bringBack, cX4_bringBack, 4, some .int, [], 8, 129, 3, 18)
theorem mp_X4_bringBack : mpOk M_X4_bringBack 2 := ⟨by decide +kernel, by decide +kernel, by decide +kernel⟩
theorem mv_X4_bringBack : mvOk M_X4_bringBack := ⟨tk4 (i := 45) (by decide +kernel) rfl, tk4 (i := 46) (by decide +kernel) rfl, tk1 (i := 1) (by decide +kernel) rfl, tk4 (i := 47) (by decide +kernel) rfl⟩
def M_L_bringBack : MM := (yL_bringBack, cL_bringBack, 5, some .int, [(0, 10, 13, 13), (0, 10, 17, 17)], 9, 152, 3, 18)
theorem mp_L_bringBack : mpOk M_L_bringBack 4 := ⟨by decide +kernel, by decide +kernel, by decide +kernel⟩
theorem ms_L_bringBack : msOk M_L_bringBack := ⟨tk4 (i := 42) (by decide +kernel) rfl, tk1 (i := 0) (by decide +kernel) rfl, tk4 (i := 43) (by decide +kernel) rfl⟩
def M_X4_checkVoice : MM := (yX4_checkVoice, cX4_checkVoice, 2, none, [], 7, 106, 2, 12)
theorem mp_X4_checkVoice : mpOk M_X4_checkVoice 2 := ⟨by decide +kernel, by decide +kernel, by decide +kernel⟩
theorem ms_X4_checkVoice : msOk M_X4_checkVoice := ⟨tk4 (i := 57) (by decide +kernel) rfl, tk1 (i := 1) (by decide +kernel) rfl, tk4 (i := 58) (by decide +kernel) rfl⟩
def M_X3_usedBy : MM := (yX3_usedBy, cX3_usedBy, 3, some .int, [], 1, 21, 0, 0)
theorem mp_X3_usedBy : mpOk M_X3_usedBy 2 := ⟨by decide +kernel, by decide +kernel, by decide +kernel⟩
theorem mv_X3_usedBy : mvOk M_X3_usedBy := ⟨tk2 (i := 124) (by decide +kernel) rfl, tk2 (i := 125) (by decide +kernel) rfl, tk1 (i := 2) (by decide +kernel) rfl, tk2 (i := 126) (by decide +kernel) rfl⟩
def M_X3_staminaAt : MM := (yX3_staminaAt, cX3_staminaAt, 3, some .int, [], 1, 21, 0, 0)
theorem mp_X3_staminaAt : mpOk M_X3_staminaAt 2 := ⟨by decide +kernel, by decide +kernel, by decide +kernel⟩
theorem mv_X3_staminaAt : mvOk M_X3_staminaAt := ⟨tk2 (i := 120) (by decide +kernel) rfl, tk2 (i := 121) (by decide +kernel) rfl, tk1 (i := 2) (by decide +kernel) rfl, tk2 (i := 122) (by decide +kernel) rfl⟩
def M_X3_putStamina : MM := (yX3_putStamina, cX3_putStamina, 4, none, [], 1, 22, 0, 0)
theorem mp_X3_putStamina : mpOk M_X3_putStamina 3 := ⟨by decide +kernel, by decide +kernel, by decide +kernel⟩
theorem mv_X3_putStamina : mvOk M_X3_putStamina := ⟨tk4 (i := 62) (by decide +kernel) rfl, tk4 (i := 63) (by decide +kernel) rfl, tk1 (i := 2) (by decide +kernel) rfl, tk4 (i := 64) (by decide +kernel) rfl⟩
def M_X4_cast : MM := (yX4_cast, cX4_cast, 5, some .int, [], 8, 127, 4, 24)
theorem mp_X4_cast : mpOk M_X4_cast 3 := ⟨by decide +kernel, by decide +kernel, by decide +kernel⟩
theorem mv_X4_cast : mvOk M_X4_cast := ⟨tk4 (i := 53) (by decide +kernel) rfl, tk4 (i := 54) (by decide +kernel) rfl, tk1 (i := 1) (by decide +kernel) rfl, tk4 (i := 55) (by decide +kernel) rfl⟩
def M_L_cast : MM := (yL_cast, cL_cast, 6, some .int, [(0, 12, 15, 13), (0, 12, 19, 15), (0, 12, 23, 17)], 9, 151, 4, 24)
theorem mp_L_cast : mpOk M_L_cast 5 := ⟨by decide +kernel, by decide +kernel, by decide +kernel⟩
theorem ms_L_cast : msOk M_L_cast := ⟨tk4 (i := 50) (by decide +kernel) rfl, tk1 (i := 0) (by decide +kernel) rfl, tk4 (i := 51) (by decide +kernel) rfl⟩
def M_X3_isRecordedAnywhere : MM := (yX3_isRecordedAnywhere, cX3_isRecordedAnywhere, 3, some .boolean, [], 2, 43, 0, 0)
theorem mp_X3_isRecordedAnywhere : mpOk M_X3_isRecordedAnywhere 1 := ⟨by decide +kernel, by decide +kernel, by decide +kernel⟩
theorem mv_X3_isRecordedAnywhere : mvOk M_X3_isRecordedAnywhere := ⟨tk3 (i := 226) (by decide +kernel) rfl, tk3 (i := 227) (by decide +kernel) rfl, tk1 (i := 2) (by decide +kernel) rfl, tk3 (i := 228) (by decide +kernel) rfl⟩
def M_X3_sighAt : MM := (yX3_sighAt, cX3_sighAt, 2, some .int, [], 1, 21, 0, 0)
theorem mp_X3_sighAt : mpOk M_X3_sighAt 1 := ⟨by decide +kernel, by decide +kernel, by decide +kernel⟩
theorem mv_X3_sighAt : mvOk M_X3_sighAt := ⟨tk2 (i := 76) (by decide +kernel) rfl, tk2 (i := 77) (by decide +kernel) rfl, tk1 (i := 2) (by decide +kernel) rfl, tk2 (i := 78) (by decide +kernel) rfl⟩
def M_X3_lipsAt : MM := (yX3_lipsAt, cX3_lipsAt, 2, some .int, [], 1, 21, 0, 0)
theorem mp_X3_lipsAt : mpOk M_X3_lipsAt 1 := ⟨by decide +kernel, by decide +kernel, by decide +kernel⟩
theorem mv_X3_lipsAt : mvOk M_X3_lipsAt := ⟨tk2 (i := 53) (by decide +kernel) rfl, tk2 (i := 54) (by decide +kernel) rfl, tk1 (i := 2) (by decide +kernel) rfl, tk2 (i := 55) (by decide +kernel) rfl⟩
def M_X4_changeLips : MM := (yX4_changeLips, cX4_changeLips, 4, some .int, [], 7, 108, 3, 18)
theorem mp_X4_changeLips : mpOk M_X4_changeLips 2 := ⟨by decide +kernel, by decide +kernel, by decide +kernel⟩
theorem mv_X4_changeLips : mvOk M_X4_changeLips := ⟨tk3 (i := 217) (by decide +kernel) rfl, tk3 (i := 218) (by decide +kernel) rfl, tk1 (i := 1) (by decide +kernel) rfl, tk3 (i := 219) (by decide +kernel) rfl⟩
def M_L_changeLips : MM := (yL_changeLips, cL_changeLips, 5, some .int, [(0, 10, 13, 13), (0, 10, 17, 15), (0, 10, 21, 17)], 8, 131, 3, 18)
theorem mp_L_changeLips : mpOk M_L_changeLips 4 := ⟨by decide +kernel, by decide +kernel, by decide +kernel⟩
theorem ms_L_changeLips : msOk M_L_changeLips := ⟨tk3 (i := 214) (by decide +kernel) rfl, tk1 (i := 0) (by decide +kernel) rfl, tk3 (i := 215) (by decide +kernel) rfl⟩
def M_X4_changeSigh : MM := (yX4_changeSigh, cX4_changeSigh, 4, some .int, [], 7, 108, 3, 18)
theorem mp_X4_changeSigh : mpOk M_X4_changeSigh 2 := ⟨by decide +kernel, by decide +kernel, by decide +kernel⟩
theorem mv_X4_changeSigh : mvOk M_X4_changeSigh := ⟨tk3 (i := 235) (by decide +kernel) rfl, tk3 (i := 236) (by decide +kernel) rfl, tk1 (i := 1) (by decide +kernel) rfl, tk3 (i := 237) (by decide +kernel) rfl⟩
def M_L_changeSigh : MM := (yL_changeSigh, cL_changeSigh, 5, some .int, [(0, 10, 13, 13), (0, 10, 17, 15), (0, 10, 21, 17)], 8, 131, 3, 18)
theorem mp_L_changeSigh : mpOk M_L_changeSigh 4 := ⟨by decide +kernel, by decide +kernel, by decide +kernel⟩
theorem ms_L_changeSigh : msOk M_L_changeSigh := ⟨tk3 (i := 232) (by decide +kernel) rfl, tk1 (i := 0) (by decide +kernel) rfl, tk3 (i := 233) (by decide +kernel) rfl⟩
def M_X3_reelAt : MM := (yX3_reelAt, cX3_reelAt, 2, some .int, [], 1, 21, 0, 0)
theorem mp_X3_reelAt : mpOk M_X3_reelAt 1 := ⟨by decide +kernel, by decide +kernel, by decide +kernel⟩
theorem mv_X3_reelAt : mvOk M_X3_reelAt := ⟨tk2 (i := 70) (by decide +kernel) rfl, tk2 (i := 71) (by decide +kernel) rfl, tk1 (i := 2) (by decide +kernel) rfl, tk2 (i := 72) (by decide +kernel) rfl⟩
def M_X3_clausesOn : MM := (yX3_clausesOn, cX3_clausesOn, 4, some .int, [], 2, 42, 0, 0)
theorem mp_X3_clausesOn : mpOk M_X3_clausesOn 1 := ⟨by decide +kernel, by decide +kernel, by decide +kernel⟩
theorem mv_X3_clausesOn : mvOk M_X3_clausesOn := ⟨tk2 (i := 198) (by decide +kernel) rfl, tk2 (i := 199) (by decide +kernel) rfl, tk1 (i := 2) (by decide +kernel) rfl, tk2 (i := 200) (by decide +kernel) rfl⟩
def M_X4_clausesIn : MM := (yX4_clausesIn, cX4_clausesIn, 2, some .int, [], 7, 106, 1, 6)
theorem mp_X4_clausesIn : mpOk M_X4_clausesIn 1 := ⟨by decide +kernel, by decide +kernel, by decide +kernel⟩
theorem mv_X4_clausesIn : mvOk M_X4_clausesIn := ⟨tk5 (i := 99) (by decide +kernel) rfl, tk5 (i := 100) (by decide +kernel) rfl, tk1 (i := 1) (by decide +kernel) rfl, tk5 (i := 101) (by decide +kernel) rfl⟩
def M_L_clausesIn : MM := (yL_clausesIn, cL_clausesIn, 4, some .int, [(0, 9, 12, 13)], 8, 127, 1, 6)
theorem mp_L_clausesIn : mpOk M_L_clausesIn 3 := ⟨by decide +kernel, by decide +kernel, by decide +kernel⟩
theorem ms_L_clausesIn : msOk M_L_clausesIn := ⟨tk5 (i := 96) (by decide +kernel) rfl, tk1 (i := 0) (by decide +kernel) rfl, tk5 (i := 97) (by decide +kernel) rfl⟩
def M_X3_hasFit : MM := (yX3_hasFit, cX3_hasFit, 4, some .boolean, [], 1, 21, 0, 0)
theorem mp_X3_hasFit : mpOk M_X3_hasFit 2 := ⟨by decide +kernel, by decide +kernel, by decide +kernel⟩
theorem mv_X3_hasFit : mvOk M_X3_hasFit := ⟨tk2 (i := 112) (by decide +kernel) rfl, tk2 (i := 113) (by decide +kernel) rfl, tk1 (i := 2) (by decide +kernel) rfl, tk2 (i := 114) (by decide +kernel) rfl⟩
def M_X4_fits : MM := (yX4_fits, cX4_fits, 3, some .boolean, [], 8, 129, 2, 12)
theorem mp_X4_fits : mpOk M_X4_fits 2 := ⟨by decide +kernel, by decide +kernel, by decide +kernel⟩
theorem mv_X4_fits : mvOk M_X4_fits := ⟨tk5 (i := 37) (by decide +kernel) rfl, tk5 (i := 38) (by decide +kernel) rfl, tk1 (i := 1) (by decide +kernel) rfl, tk5 (i := 39) (by decide +kernel) rfl⟩
def M_L_fits : MM := (yL_fits, cL_fits, 5, some .int, [(0, 17, 20, 13)], 9, 151, 2, 12)
theorem mp_L_fits : mpOk M_L_fits 4 := ⟨by decide +kernel, by decide +kernel, by decide +kernel⟩
theorem ms_L_fits : msOk M_L_fits := ⟨tk5 (i := 34) (by decide +kernel) rfl, tk1 (i := 0) (by decide +kernel) rfl, tk5 (i := 35) (by decide +kernel) rfl⟩
def M_X4_checkTranslated : MM := (yX4_checkTranslated, cX4_checkTranslated, 3, none, [], 6, 86, 1, 6)
theorem mp_X4_checkTranslated : mpOk M_X4_checkTranslated 2 := ⟨by decide +kernel, by decide +kernel, by decide +kernel⟩
theorem mv_X4_checkTranslated : mvOk M_X4_checkTranslated := ⟨tk5 (i := 2) (by decide +kernel) rfl, pk (q := (yX4_checkTranslated, 6)) (List.mem_of_getElem? (i := 24) (by decide +kernel)), tk1 (i := 1) (by decide +kernel) rfl, tk5 (i := 3) (by decide +kernel) rfl⟩
def M_X4_framesOf : MM := (yX4_framesOf, cX4_framesOf, 3, some .int, [], 8, 129, 3, 18)
theorem mp_X4_framesOf : mpOk M_X4_framesOf 2 := ⟨by decide +kernel, by decide +kernel, by decide +kernel⟩
theorem mv_X4_framesOf : mvOk M_X4_framesOf := ⟨tk4 (i := 237) (by decide +kernel) rfl, tk4 (i := 238) (by decide +kernel) rfl, tk1 (i := 1) (by decide +kernel) rfl, tk4 (i := 239) (by decide +kernel) rfl⟩
def M_L_framesOf : MM := (yL_framesOf, cL_framesOf, 5, some .int, [(0, 10, 13, 13), (0, 10, 17, 17)], 9, 151, 3, 18)
theorem mp_L_framesOf : mpOk M_L_framesOf 4 := ⟨by decide +kernel, by decide +kernel, by decide +kernel⟩
theorem ms_L_framesOf : msOk M_L_framesOf := ⟨tk4 (i := 234) (by decide +kernel) rfl, tk1 (i := 0) (by decide +kernel) rfl, tk4 (i := 235) (by decide +kernel) rfl⟩
def M_X3_speakerAt : MM := (yX3_speakerAt, cX3_speakerAt, 2, some .int, [], 1, 21, 0, 0)
theorem mp_X3_speakerAt : mpOk M_X3_speakerAt 1 := ⟨by decide +kernel, by decide +kernel, by decide +kernel⟩
theorem mv_X3_speakerAt : mvOk M_X3_speakerAt := ⟨tk2 (i := 49) (by decide +kernel) rfl, tk2 (i := 50) (by decide +kernel) rfl, tk1 (i := 2) (by decide +kernel) rfl, tk2 (i := 51) (by decide +kernel) rfl⟩
def M_X3_spokenAt : MM := (yX3_spokenAt, cX3_spokenAt, 3, some .int, [], 1, 21, 0, 0)
theorem mp_X3_spokenAt : mpOk M_X3_spokenAt 2 := ⟨by decide +kernel, by decide +kernel, by decide +kernel⟩
theorem mv_X3_spokenAt : mvOk M_X3_spokenAt := ⟨tk2 (i := 128) (by decide +kernel) rfl, tk2 (i := 129) (by decide +kernel) rfl, tk1 (i := 2) (by decide +kernel) rfl, tk2 (i := 130) (by decide +kernel) rfl⟩
def M_X3_takenFramesOf : MM := (yX3_takenFramesOf, cX3_takenFramesOf, 5, some .int, [], 2, 43, 0, 0)
theorem mp_X3_takenFramesOf : mpOk M_X3_takenFramesOf 2 := ⟨by decide +kernel, by decide +kernel, by decide +kernel⟩
theorem mv_X3_takenFramesOf : mvOk M_X3_takenFramesOf := ⟨tk2 (i := 155) (by decide +kernel) rfl, tk2 (i := 156) (by decide +kernel) rfl, tk1 (i := 2) (by decide +kernel) rfl, tk2 (i := 157) (by decide +kernel) rfl⟩
def M_X4_framesOfVoice : MM := (yX4_framesOfVoice, cX4_framesOfVoice, 3, some .int, [], 8, 127, 2, 12)
theorem mp_X4_framesOfVoice : mpOk M_X4_framesOfVoice 2 := ⟨by decide +kernel, by decide +kernel, by decide +kernel⟩
theorem mv_X4_framesOfVoice : mvOk M_X4_framesOfVoice := ⟨tk5 (i := 73) (by decide +kernel) rfl, tk5 (i := 74) (by decide +kernel) rfl, tk1 (i := 1) (by decide +kernel) rfl, tk5 (i := 75) (by decide +kernel) rfl⟩
def M_L_framesOfVoice : MM := (yL_framesOfVoice, cL_framesOfVoice, 5, some .int, [(0, 10, 13, 13)], 9, 149, 2, 12)
theorem mp_L_framesOfVoice : mpOk M_L_framesOfVoice 4 := ⟨by decide +kernel, by decide +kernel, by decide +kernel⟩
theorem ms_L_framesOfVoice : msOk M_L_framesOfVoice := ⟨tk5 (i := 70) (by decide +kernel) rfl, tk1 (i := 0) (by decide +kernel) rfl, tk5 (i := 71) (by decide +kernel) rfl⟩
def M_X4_hasSnapshot : MM := (yX4_hasSnapshot, cX4_hasSnapshot, 2, some .boolean, [], 0, 0, 0, 0)
theorem mp_X4_hasSnapshot : mpOk M_X4_hasSnapshot 1 := ⟨by decide +kernel, by decide +kernel, by decide +kernel⟩
theorem mv_X4_hasSnapshot : mvOk M_X4_hasSnapshot := ⟨tk3 (i := 51) (by decide +kernel) rfl, pk (q := (yX4_hasSnapshot, 6)) (List.mem_of_getElem? (i := 16) (by decide +kernel)), tk1 (i := 1) (by decide +kernel) rfl, tk3 (i := 52) (by decide +kernel) rfl⟩
def M_X4_goBack : MM := (yX4_goBack, cX4_goBack, 2, none, [], 7, 108, 2, 12)
theorem mp_X4_goBack : mpOk M_X4_goBack 1 := ⟨by decide +kernel, by decide +kernel, by decide +kernel⟩
theorem mv_X4_goBack : mvOk M_X4_goBack := ⟨tk4 (i := 182) (by decide +kernel) rfl, tk4 (i := 183) (by decide +kernel) rfl, tk1 (i := 1) (by decide +kernel) rfl, tk4 (i := 184) (by decide +kernel) rfl⟩
def M_L_goBack : MM := (yL_goBack, cL_goBack, 3, some .int, [(0, 5, 8, 15), (0, 5, 11, 17)], 8, 129, 2, 12)
theorem mp_L_goBack : mpOk M_L_goBack 2 := ⟨by decide +kernel, by decide +kernel, by decide +kernel⟩
theorem ms_L_goBack : msOk M_L_goBack := ⟨tk4 (i := 179) (by decide +kernel) rfl, tk1 (i := 0) (by decide +kernel) rfl, tk4 (i := 180) (by decide +kernel) rfl⟩
def M_X3_hasSignature : MM := (yX3_hasSignature, cX3_hasSignature, 4, some .boolean, [], 1, 21, 0, 0)
theorem mp_X3_hasSignature : mpOk M_X3_hasSignature 3 := ⟨by decide +kernel, by decide +kernel, by decide +kernel⟩
theorem mv_X3_hasSignature : mvOk M_X3_hasSignature := ⟨tk2 (i := 234) (by decide +kernel) rfl, tk2 (i := 235) (by decide +kernel) rfl, tk1 (i := 2) (by decide +kernel) rfl, tk2 (i := 236) (by decide +kernel) rfl⟩
def M_X4_hasSigned : MM := (yX4_hasSigned, cX4_hasSigned, 4, some .boolean, [], 7, 106, 3, 18)
theorem mp_X4_hasSigned : mpOk M_X4_hasSigned 3 := ⟨by decide +kernel, by decide +kernel, by decide +kernel⟩
theorem mv_X4_hasSigned : mvOk M_X4_hasSigned := ⟨tk5 (i := 134) (by decide +kernel) rfl, tk5 (i := 135) (by decide +kernel) rfl, tk1 (i := 1) (by decide +kernel) rfl, tk5 (i := 136) (by decide +kernel) rfl⟩
def M_L_hasSigned : MM := (yL_hasSigned, cL_hasSigned, 6, some .int, [(0, 19, 22, 13)], 8, 129, 3, 18)
theorem mp_L_hasSigned : mpOk M_L_hasSigned 5 := ⟨by decide +kernel, by decide +kernel, by decide +kernel⟩
theorem ms_L_hasSigned : msOk M_L_hasSigned := ⟨tk5 (i := 131) (by decide +kernel) rfl, tk1 (i := 0) (by decide +kernel) rfl, tk5 (i := 132) (by decide +kernel) rfl⟩
def M_X3_hundredthsAt : MM := (yX3_hundredthsAt, cX3_hundredthsAt, 4, some .int, [], 2, 43, 0, 0)
theorem mp_X3_hundredthsAt : mpOk M_X3_hundredthsAt 2 := ⟨by decide +kernel, by decide +kernel, by decide +kernel⟩
theorem mv_X3_hundredthsAt : mvOk M_X3_hundredthsAt := ⟨tk2 (i := 137) (by decide +kernel) rfl, tk2 (i := 138) (by decide +kernel) rfl, tk1 (i := 2) (by decide +kernel) rfl, tk2 (i := 139) (by decide +kernel) rfl⟩
def M_X4_hundredthsOf : MM := (yX4_hundredthsOf, cX4_hundredthsOf, 3, some .int, [], 8, 129, 3, 18)
theorem mp_X4_hundredthsOf : mpOk M_X4_hundredthsOf 2 := ⟨by decide +kernel, by decide +kernel, by decide +kernel⟩
theorem mv_X4_hundredthsOf : mvOk M_X4_hundredthsOf := ⟨tk5 (i := 45) (by decide +kernel) rfl, tk5 (i := 46) (by decide +kernel) rfl, tk1 (i := 1) (by decide +kernel) rfl, tk5 (i := 47) (by decide +kernel) rfl⟩
def M_L_hundredthsOf : MM := (yL_hundredthsOf, cL_hundredthsOf, 5, some .int, [(0, 10, 13, 13), (0, 10, 17, 17)], 9, 151, 3, 18)
theorem mp_L_hundredthsOf : mpOk M_L_hundredthsOf 4 := ⟨by decide +kernel, by decide +kernel, by decide +kernel⟩
theorem ms_L_hundredthsOf : msOk M_L_hundredthsOf := ⟨tk5 (i := 42) (by decide +kernel) rfl, tk1 (i := 0) (by decide +kernel) rfl, tk5 (i := 43) (by decide +kernel) rfl⟩
def M_X3_isWholeReel : MM := (yX3_isWholeReel, cX3_isWholeReel, 4, some .boolean, [], 3, 65, 0, 0)
theorem mp_X3_isWholeReel : mpOk M_X3_isWholeReel 2 := ⟨by decide +kernel, by decide +kernel, by decide +kernel⟩
theorem mv_X3_isWholeReel : mvOk M_X3_isWholeReel := ⟨tk2 (i := 207) (by decide +kernel) rfl, tk2 (i := 208) (by decide +kernel) rfl, tk1 (i := 2) (by decide +kernel) rfl, tk2 (i := 209) (by decide +kernel) rfl⟩
def M_X4_isComplete : MM := (yX4_isComplete, cX4_isComplete, 3, some .boolean, [], 7, 106, 2, 12)
theorem mp_X4_isComplete : mpOk M_X4_isComplete 2 := ⟨by decide +kernel, by decide +kernel, by decide +kernel⟩
theorem mv_X4_isComplete : mvOk M_X4_isComplete := ⟨tk5 (i := 120) (by decide +kernel) rfl, tk5 (i := 121) (by decide +kernel) rfl, tk1 (i := 1) (by decide +kernel) rfl, tk5 (i := 122) (by decide +kernel) rfl⟩
def M_L_isComplete : MM := (yL_isComplete, cL_isComplete, 5, some .int, [(0, 17, 20, 13)], 8, 128, 2, 12)
theorem mp_L_isComplete : mpOk M_L_isComplete 4 := ⟨by decide +kernel, by decide +kernel, by decide +kernel⟩
theorem ms_L_isComplete : msOk M_L_isComplete := ⟨tk5 (i := 117) (by decide +kernel) rfl, tk1 (i := 0) (by decide +kernel) rfl, tk5 (i := 118) (by decide +kernel) rfl⟩
def M_X3_hasMix : MM := (yX3_hasMix, cX3_hasMix, 3, some .boolean, [], 1, 21, 0, 0)
theorem mp_X3_hasMix : mpOk M_X3_hasMix 2 := ⟨by decide +kernel, by decide +kernel, by decide +kernel⟩
theorem mv_X3_hasMix : mvOk M_X3_hasMix := ⟨tk2 (i := 212) (by decide +kernel) rfl, tk2 (i := 213) (by decide +kernel) rfl, tk1 (i := 2) (by decide +kernel) rfl, tk2 (i := 214) (by decide +kernel) rfl⟩
def M_X4_isMixed : MM := (yX4_isMixed, cX4_isMixed, 3, some .boolean, [], 7, 106, 2, 12)
theorem mp_X4_isMixed : mpOk M_X4_isMixed 2 := ⟨by decide +kernel, by decide +kernel, by decide +kernel⟩
theorem mv_X4_isMixed : mvOk M_X4_isMixed := ⟨tk5 (i := 127) (by decide +kernel) rfl, tk5 (i := 128) (by decide +kernel) rfl, tk1 (i := 1) (by decide +kernel) rfl, tk5 (i := 129) (by decide +kernel) rfl⟩
def M_L_isMixed : MM := (yL_isMixed, cL_isMixed, 5, some .int, [(0, 17, 20, 13)], 8, 128, 2, 12)
theorem mp_L_isMixed : mpOk M_L_isMixed 4 := ⟨by decide +kernel, by decide +kernel, by decide +kernel⟩
theorem ms_L_isMixed : msOk M_L_isMixed := ⟨tk5 (i := 124) (by decide +kernel) rfl, tk1 (i := 0) (by decide +kernel) rfl, tk5 (i := 125) (by decide +kernel) rfl⟩
def M_X3_isHeardIn : MM := (yX3_isHeardIn, cX3_isHeardIn, 4, some .boolean, [], 2, 42, 0, 0)
theorem mp_X3_isHeardIn : mpOk M_X3_isHeardIn 2 := ⟨by decide +kernel, by decide +kernel, by decide +kernel⟩
theorem mv_X3_isHeardIn : mvOk M_X3_isHeardIn := ⟨tk2 (i := 230) (by decide +kernel) rfl, tk2 (i := 231) (by decide +kernel) rfl, tk1 (i := 2) (by decide +kernel) rfl, tk2 (i := 232) (by decide +kernel) rfl⟩
def M_X3_signaturesMissing : MM := (yX3_signaturesMissing, cX3_signaturesMissing, 5, some .int, [], 3, 65, 0, 0)
theorem mp_X3_signaturesMissing : mpOk M_X3_signaturesMissing 2 := ⟨by decide +kernel, by decide +kernel, by decide +kernel⟩
theorem mv_X3_signaturesMissing : mvOk M_X3_signaturesMissing := ⟨tk2 (i := 226) (by decide +kernel) rfl, tk2 (i := 227) (by decide +kernel) rfl, tk1 (i := 2) (by decide +kernel) rfl, tk2 (i := 228) (by decide +kernel) rfl⟩
def M_X3_hasRatification : MM := (yX3_hasRatification, cX3_hasRatification, 4, some .boolean, [], 4, 89, 0, 0)
theorem mp_X3_hasRatification : mpOk M_X3_hasRatification 1 := ⟨by decide +kernel, by decide +kernel, by decide +kernel⟩
theorem mv_X3_hasRatification : mvOk M_X3_hasRatification := ⟨tk3 (i := 20) (by decide +kernel) rfl, tk3 (i := 21) (by decide +kernel) rfl, tk1 (i := 2) (by decide +kernel) rfl, tk3 (i := 22) (by decide +kernel) rfl⟩
def M_X4_isRatified : MM := (yX4_isRatified, cX4_isRatified, 2, some .boolean, [], 7, 112, 1, 6)
theorem mp_X4_isRatified : mpOk M_X4_isRatified 1 := ⟨by decide +kernel, by decide +kernel, by decide +kernel⟩
theorem mv_X4_isRatified : mvOk M_X4_isRatified := ⟨tk5 (i := 183) (by decide +kernel) rfl, tk5 (i := 184) (by decide +kernel) rfl, tk1 (i := 1) (by decide +kernel) rfl, tk5 (i := 185) (by decide +kernel) rfl⟩
def M_L_isRatified : MM := (yL_isRatified, cL_isRatified, 4, some .int, [(0, 16, 19, 13)], 8, 133, 1, 6)
theorem mp_L_isRatified : mpOk M_L_isRatified 3 := ⟨by decide +kernel, by decide +kernel, by decide +kernel⟩
theorem ms_L_isRatified : msOk M_L_isRatified := ⟨tk5 (i := 180) (by decide +kernel) rfl, tk1 (i := 0) (by decide +kernel) rfl, tk5 (i := 181) (by decide +kernel) rfl⟩
def M_X4_isRecorded : MM := (yX4_isRecorded, cX4_isRecorded, 3, some .boolean, [], 8, 129, 2, 12)
theorem mp_X4_isRecorded : mpOk M_X4_isRecorded 2 := ⟨by decide +kernel, by decide +kernel, by decide +kernel⟩
theorem mv_X4_isRecorded : mvOk M_X4_isRecorded := ⟨tk5 (i := 16) (by decide +kernel) rfl, tk5 (i := 17) (by decide +kernel) rfl, tk1 (i := 1) (by decide +kernel) rfl, tk5 (i := 18) (by decide +kernel) rfl⟩
def M_L_isRecorded : MM := (yL_isRecorded, cL_isRecorded, 5, some .int, [(0, 17, 20, 13)], 9, 151, 2, 12)
theorem mp_L_isRecorded : mpOk M_L_isRecorded 4 := ⟨by decide +kernel, by decide +kernel, by decide +kernel⟩
theorem ms_L_isRecorded : msOk M_L_isRecorded := ⟨tk5 (i := 13) (by decide +kernel) rfl, tk1 (i := 0) (by decide +kernel) rfl, tk5 (i := 14) (by decide +kernel) rfl⟩
def M_X4_isTranslated : MM := (yX4_isTranslated, cX4_isTranslated, 3, some .boolean, [], 8, 129, 2, 12)
theorem mp_X4_isTranslated : mpOk M_X4_isTranslated 2 := ⟨by decide +kernel, by decide +kernel, by decide +kernel⟩
theorem mv_X4_isTranslated : mvOk M_X4_isTranslated := ⟨tk4 (i := 230) (by decide +kernel) rfl, tk4 (i := 231) (by decide +kernel) rfl, tk1 (i := 1) (by decide +kernel) rfl, tk4 (i := 232) (by decide +kernel) rfl⟩
def M_L_isTranslated : MM := (yL_isTranslated, cL_isTranslated, 5, some .int, [(0, 17, 20, 13)], 9, 151, 2, 12)
theorem mp_L_isTranslated : mpOk M_L_isTranslated 4 := ⟨by decide +kernel, by decide +kernel, by decide +kernel⟩
theorem ms_L_isTranslated : msOk M_L_isTranslated := ⟨tk4 (i := 227) (by decide +kernel) rfl, tk1 (i := 0) (by decide +kernel) rfl, tk4 (i := 228) (by decide +kernel) rfl⟩
def M_X4_keep : MM := (yX4_keep, cX4_keep, 3, none, [], 7, 108, 1, 6)
theorem mp_X4_keep : mpOk M_X4_keep 1 := ⟨by decide +kernel, by decide +kernel, by decide +kernel⟩
theorem mv_X4_keep : mvOk M_X4_keep := ⟨tk4 (i := 173) (by decide +kernel) rfl, tk4 (i := 174) (by decide +kernel) rfl, tk1 (i := 1) (by decide +kernel) rfl, tk4 (i := 175) (by decide +kernel) rfl⟩
def M_L_keep : MM := (yL_keep, cL_keep, 3, some .int, [(0, 5, 8, 15)], 8, 130, 1, 6)
theorem mp_L_keep : mpOk M_L_keep 2 := ⟨by decide +kernel, by decide +kernel, by decide +kernel⟩
theorem ms_L_keep : msOk M_L_keep := ⟨tk4 (i := 170) (by decide +kernel) rfl, tk1 (i := 0) (by decide +kernel) rfl, tk4 (i := 171) (by decide +kernel) rfl⟩
def M_X3_init : MM := (yX3_init, cX3_init, 2, none, [], 1, 12, 11, 366)
theorem mp_X3_init : mpOk M_X3_init 0 := ⟨by decide +kernel, by decide +kernel, by decide +kernel⟩
theorem mi_X3_init : miOk M_X3_init := ⟨rfl, tk1 (i := 28) (by decide +kernel) rfl, tk1 (i := 2) (by decide +kernel) rfl, tk1 (i := 29) (by decide +kernel) rfl⟩
def M_X1_init : MM := (yX1_init, cX1_init, 2, none, [], 2, 33, 73, 2298)
theorem mp_X1_init : mpOk M_X1_init 0 := ⟨by decide +kernel, by decide +kernel, by decide +kernel⟩
theorem mi_X1_init : miOk M_X1_init := ⟨rfl, tk1 (i := 92) (by decide +kernel) rfl, tk1 (i := 3) (by decide +kernel) rfl, tk1 (i := 93) (by decide +kernel) rfl⟩
def M_X0_init : MM := (yX0_init, cX0_init, 1, none, [], 1, 12, 5, 300)
theorem mp_X0_init : mpOk M_X0_init 0 := ⟨by decide +kernel, by decide +kernel, by decide +kernel⟩
theorem mi_X0_init : miOk M_X0_init := ⟨rfl, tk1 (i := 109) (by decide +kernel) rfl, tk1 (i := 4) (by decide +kernel) rfl, tk1 (i := 110) (by decide +kernel) rfl⟩
def M_X2_init : MM := (yX2_init, cX2_init, 1, none, [], 1, 12, 2, 49)
theorem mp_X2_init : mpOk M_X2_init 0 := ⟨by decide +kernel, by decide +kernel, by decide +kernel⟩
theorem mi_X2_init : miOk M_X2_init := ⟨rfl, tk1 (i := 148) (by decide +kernel) rfl, tk1 (i := 5) (by decide +kernel) rfl, tk1 (i := 149) (by decide +kernel) rfl⟩
def M_X4_init : MM := (yX4_init, cX4_init, 2, none, [], 3, 54, 121, 3812)
theorem mp_X4_init : mpOk M_X4_init 0 := ⟨by decide +kernel, by decide +kernel, by decide +kernel⟩
theorem mi_X4_init : miOk M_X4_init := ⟨rfl, tk1 (i := 20) (by decide +kernel) rfl, tk1 (i := 1) (by decide +kernel) rfl, tk1 (i := 21) (by decide +kernel) rfl⟩
def M_X5_init : MM := (yX5_init, cX5_init, 2, none, [], 1, 12, 5, 3401)
theorem mp_X5_init : mpOk M_X5_init 0 := ⟨by decide +kernel, by decide +kernel, by decide +kernel⟩
theorem mi_X5_init : miOk M_X5_init := ⟨rfl, tk5 (i := 227) (by decide +kernel) rfl, tk1 (i := 6) (by decide +kernel) rfl, tk5 (i := 228) (by decide +kernel) rfl⟩
def M_X5_in : MM := (yX5_in, cX5_in, 3, some .boolean, [], 0, 0, 0, 0)
theorem mp_X5_in : mpOk M_X5_in 3 := ⟨by decide +kernel, by decide +kernel, by decide +kernel⟩
theorem ms_X5_in : msOk M_X5_in := ⟨tk6 (i := 48) (by decide +kernel) rfl, tk1 (i := 6) (by decide +kernel) rfl, tk6 (i := 49) (by decide +kernel) rfl⟩
def M_X5_isReel : MM := (yX5_isReel, cX5_isReel, 1, some .boolean, [], 1, 22, 0, 0)
theorem mp_X5_isReel : mpOk M_X5_isReel 1 := ⟨by decide +kernel, by decide +kernel, by decide +kernel⟩
theorem ms_X5_isReel : msOk M_X5_isReel := ⟨tk6 (i := 45) (by decide +kernel) rfl, tk1 (i := 6) (by decide +kernel) rfl, tk6 (i := 46) (by decide +kernel) rfl⟩
def M_X5_isState : MM := (yX5_isState, cX5_isState, 1, some .boolean, [], 1, 22, 0, 0)
theorem mp_X5_isState : mpOk M_X5_isState 1 := ⟨by decide +kernel, by decide +kernel, by decide +kernel⟩
theorem ms_X5_isState : msOk M_X5_isState := ⟨tk6 (i := 51) (by decide +kernel) rfl, tk1 (i := 6) (by decide +kernel) rfl, tk6 (i := 52) (by decide +kernel) rfl⟩
def M_X5_refused : MM := (yX5_refused, cX5_refused, 2, some .boolean, [], 0, 0, 0, 0)
theorem mp_X5_refused : mpOk M_X5_refused 1 := ⟨by decide +kernel, by decide +kernel, by decide +kernel⟩
theorem mv_X5_refused : mvOk M_X5_refused := ⟨tk6 (i := 55) (by decide +kernel) rfl, pk (q := (yX5_refused, 15)) (List.mem_of_getElem? (i := 26) (by decide +kernel)), tk1 (i := 6) (by decide +kernel) rfl, tk6 (i := 56) (by decide +kernel) rfl⟩
def M_X5_saves : MM := (yX5_saves, cX5_saves, 2, none, [], 0, 0, 0, 0)
theorem mp_X5_saves : mpOk M_X5_saves 0 := ⟨by decide +kernel, by decide +kernel, by decide +kernel⟩
end XM20
