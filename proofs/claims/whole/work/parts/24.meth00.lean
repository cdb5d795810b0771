/-! the methods: their rows, and what the tables say of them -/
section XM20
def M_J6_bitCount_0f7a4 : MM := (yJ6_bitCount_0f7a4, cJ6_bitCount_0f7a4, 1, some .int, [], 0, 0, 0, 0)
theorem mp_J6_bitCount_0f7a4 : mpOk M_J6_bitCount_0f7a4 1 := ⟨by decide +kernel, by decide +kernel, by decide +kernel⟩
theorem ms_J6_bitCount_0f7a4 : msOk M_J6_bitCount_0f7a4 := ⟨tk2 (i := 220) (by decide +kernel) rfl, tk1 (i := 15) (by decide +kernel) rfl, tk2 (i := 221) (by decide +kernel) rfl⟩
def M_Jxe99ae_isNaN_b9ae7 : MM := (yJxe99ae_isNaN_b9ae7, cJxe99ae_isNaN_b9ae7, 2, some .boolean, [], 0, 0, 0, 0)
theorem mp_Jxe99ae_isNaN_b9ae7 : mpOk M_Jxe99ae_isNaN_b9ae7 1 := ⟨by decide +kernel, by decide +kernel, by decide +kernel⟩
theorem ms_Jxe99ae_isNaN_b9ae7 : msOk M_Jxe99ae_isNaN_b9ae7 := ⟨tk8 (i := 51) (by decide +kernel) rfl, tk1 (i := 16) (by decide +kernel) rfl, tk8 (i := 52) (by decide +kernel) rfl⟩
def M_Jxe99ae_doubleToLongBits_ccdee : MM := (yJxe99ae_doubleToLongBits_ccdee, cJxe99ae_doubleToLongBits_ccdee, 2, some .long, [], 1, 21, 0, 0)
theorem mp_Jxe99ae_doubleToLongBits_ccdee : mpOk M_Jxe99ae_doubleToLongBits_ccdee 1 := ⟨by decide +kernel, by decide +kernel, by decide +kernel⟩
theorem ms_Jxe99ae_doubleToLongBits_ccdee : msOk M_Jxe99ae_doubleToLongBits_ccdee := ⟨tk8 (i := 48) (by decide +kernel) rfl, tk1 (i := 16) (by decide +kernel) rfl, tk8 (i := 49) (by decide +kernel) rfl⟩
def M_X4_checkReel : MM := (yX4_checkReel, cX4_checkReel, 1, none, [], 6, 86, 1, 6)
theorem mp_X4_checkReel : mpOk M_X4_checkReel 1 := ⟨by decide +kernel, by decide +kernel, by decide +kernel⟩
theorem ms_X4_checkReel : msOk M_X4_checkReel := ⟨tk3 (i := 69) (by decide +kernel) rfl, tk1 (i := 1) (by decide +kernel) rfl, tk3 (i := 70) (by decide +kernel) rfl⟩
def M_X4_checkState : MM := (yX4_checkState, cX4_checkState, 1, none, [], 6, 86, 1, 6)
theorem mp_X4_checkState : mpOk M_X4_checkState 1 := ⟨by decide +kernel, by decide +kernel, by decide +kernel⟩
theorem ms_X4_checkState : msOk M_X4_checkState := ⟨tk3 (i := 140) (by decide +kernel) rfl, tk1 (i := 1) (by decide +kernel) rfl, tk3 (i := 141) (by decide +kernel) rfl⟩
def M_X4_checkRange : MM := (yX4_checkRange, cX4_checkRange, 3, none, [], 6, 86, 1, 6)
theorem mp_X4_checkRange : mpOk M_X4_checkRange 3 := ⟨by decide +kernel, by decide +kernel, by decide +kernel⟩
theorem ms_X4_checkRange : msOk M_X4_checkRange := ⟨tk3 (i := 144) (by decide +kernel) rfl, tk1 (i := 1) (by decide +kernel) rfl, tk3 (i := 145) (by decide +kernel) rfl⟩
def M_X4_treatyAt : MM := (yX4_treatyAt, cX4_treatyAt, 2, some (.object "SighTreaties$Treaty"), [], 0, 0, 0, 0)
theorem mp_X4_treatyAt : mpOk M_X4_treatyAt 2 := ⟨by decide +kernel, by decide +kernel, by decide +kernel⟩
theorem ms_X4_treatyAt : msOk M_X4_treatyAt := ⟨tk3 (i := 187) (by decide +kernel) rfl, tk1 (i := 1) (by decide +kernel) rfl, tk3 (i := 188) (by decide +kernel) rfl⟩
def M_X1_dropOldest : MM := (yX1_dropOldest, cX1_dropOldest, 3, none, [], 1, 21, 0, 0)
theorem mp_X1_dropOldest : mpOk M_X1_dropOldest 0 := ⟨by decide +kernel, by decide +kernel, by decide +kernel⟩
theorem mv_X1_dropOldest : mvOk M_X1_dropOldest := ⟨tk3 (i := 184) (by decide +kernel) rfl, pk (q := (yX1_dropOldest, 2)) (List.mem_of_getElem? (i := 19) (by decide +kernel)), tk1 (i := 3) (by decide +kernel) rfl, tk3 (i := 185) (by decide +kernel) rfl⟩
def M_X4_copyRow : MM := (yX4_copyRow, cX4_copyRow, 2, none, [], 1, 30, 0, 0)
theorem mp_X4_copyRow : mpOk M_X4_copyRow 2 := ⟨by decide +kernel, by decide +kernel, by decide +kernel⟩
theorem ms_X4_copyRow : msOk M_X4_copyRow := ⟨tk3 (i := 194) (by decide +kernel) rfl, tk1 (i := 1) (by decide +kernel) rfl, tk3 (i := 195) (by decide +kernel) rfl⟩
def M_X3_becomeLike : MM := (yX3_becomeLike, cX3_becomeLike, 2, none, [], 2, 51, 0, 0)
theorem mp_X3_becomeLike : mpOk M_X3_becomeLike 1 := ⟨by decide +kernel, by decide +kernel, by decide +kernel⟩
theorem mv_X3_becomeLike : mvOk M_X3_becomeLike := ⟨tk3 (i := 190) (by decide +kernel) rfl, tk3 (i := 191) (by decide +kernel) rfl, tk1 (i := 2) (by decide +kernel) rfl, tk3 (i := 192) (by decide +kernel) rfl⟩
def M_X1_push : MM := (yX1_push, cX1_push, 3, none, [], 3, 72, 0, 0)
theorem mp_X1_push : mpOk M_X1_push 1 := ⟨by decide +kernel, by decide +kernel, by decide +kernel⟩
theorem mv_X1_push : mvOk M_X1_push := ⟨tk3 (i := 179) (by decide +kernel) rfl, tk3 (i := 180) (by decide +kernel) rfl, tk1 (i := 3) (by decide +kernel) rfl, tk3 (i := 181) (by decide +kernel) rfl⟩
def M_X4_put : MM := (yX4_put, cX4_put, 3, none, [], 0, 0, 0, 0)
theorem mp_X4_put : mpOk M_X4_put 3 := ⟨by decide +kernel, by decide +kernel, by decide +kernel⟩
theorem ms_X4_put : msOk M_X4_put := ⟨tk1 (i := 210) (by decide +kernel) rfl, tk1 (i := 1) (by decide +kernel) rfl, tk1 (i := 211) (by decide +kernel) rfl⟩
def M_X3_place : MM := (yX3_place, cX3_place, 2, some .int, [], 0, 0, 0, 0)
theorem mp_X3_place : mpOk M_X3_place 2 := ⟨by decide +kernel, by decide +kernel, by decide +kernel⟩
theorem ms_X3_place : msOk M_X3_place := ⟨tk2 (i := 33) (by decide +kernel) rfl, tk1 (i := 2) (by decide +kernel) rfl, tk2 (i := 34) (by decide +kernel) rfl⟩
def M_X3_unmix : MM := (yX3_unmix, cX3_unmix, 3, none, [], 1, 22, 0, 0)
theorem mp_X3_unmix : mpOk M_X3_unmix 2 := ⟨by decide +kernel, by decide +kernel, by decide +kernel⟩
theorem mv_X3_unmix : mvOk M_X3_unmix := ⟨tk3 (i := 211) (by decide +kernel) rfl, pk (q := (yX3_unmix, 16)) (List.mem_of_getElem? (i := 20) (by decide +kernel)), tk1 (i := 2) (by decide +kernel) rfl, tk3 (i := 212) (by decide +kernel) rfl⟩
def M_X3_unmixEverywhere : MM := (yX3_unmixEverywhere, cX3_unmixEverywhere, 3, none, [], 2, 44, 0, 0)
theorem mp_X3_unmixEverywhere : mpOk M_X3_unmixEverywhere 1 := ⟨by decide +kernel, by decide +kernel, by decide +kernel⟩
theorem mv_X3_unmixEverywhere : mvOk M_X3_unmixEverywhere := ⟨tk3 (i := 206) (by decide +kernel) rfl, tk3 (i := 207) (by decide +kernel) rfl, tk1 (i := 2) (by decide +kernel) rfl, tk3 (i := 208) (by decide +kernel) rfl⟩
def M_X3_add : MM := (yX3_add, cX3_add, 6, some .int, [], 3, 66, 0, 0)
theorem mp_X3_add : mpOk M_X3_add 4 := ⟨by decide +kernel, by decide +kernel, by decide +kernel⟩
theorem mv_X3_add : mvOk M_X3_add := ⟨tk3 (i := 201) (by decide +kernel) rfl, tk3 (i := 202) (by decide +kernel) rfl, tk1 (i := 2) (by decide +kernel) rfl, tk3 (i := 203) (by decide +kernel) rfl⟩
def M_X4_addClause : MM := (yX4_addClause, cX4_addClause, 4, some .int, [], 7, 108, 4, 24)
theorem mp_X4_addClause : mpOk M_X4_addClause 3 := ⟨by decide +kernel, by decide +kernel, by decide +kernel⟩
theorem mv_X4_addClause : mvOk M_X4_addClause := ⟨tk3 (i := 65) (by decide +kernel) rfl, tk3 (i := 66) (by decide +kernel) rfl, tk1 (i := 1) (by decide +kernel) rfl, tk3 (i := 67) (by decide +kernel) rfl⟩
def M_L_addClause : MM := (yL_addClause, cL_addClause, 6, some .int, [(0, 12, 15, 13), (0, 12, 19, 15), (0, 12, 23, 17)], 8, 131, 4, 24)
theorem mp_L_addClause : mpOk M_L_addClause 5 := ⟨by decide +kernel, by decide +kernel, by decide +kernel⟩
theorem ms_L_addClause : msOk M_L_addClause := ⟨tk3 (i := 59) (by decide +kernel) rfl, tk1 (i := 0) (by decide +kernel) rfl, tk3 (i := 60) (by decide +kernel) rfl⟩
def M_X4_checkClause : MM := (yX4_checkClause, cX4_checkClause, 2, none, [], 6, 86, 1, 6)
theorem mp_X4_checkClause : mpOk M_X4_checkClause 1 := ⟨by decide +kernel, by decide +kernel, by decide +kernel⟩
theorem mv_X4_checkClause : mvOk M_X4_checkClause := ⟨tk3 (i := 222) (by decide +kernel) rfl, pk (q := (yX4_checkClause, 6)) (List.mem_of_getElem? (i := 21) (by decide +kernel)), tk1 (i := 1) (by decide +kernel) rfl, tk3 (i := 223) (by decide +kernel) rfl⟩
def M_X4_checkTongue : MM := (yX4_checkTongue, cX4_checkTongue, 1, none, [], 6, 86, 1, 6)
theorem mp_X4_checkTongue : mpOk M_X4_checkTongue 1 := ⟨by decide +kernel, by decide +kernel, by decide +kernel⟩
theorem ms_X4_checkTongue : msOk M_X4_checkTongue := ⟨tk4 (i := 20) (by decide +kernel) rfl, tk1 (i := 1) (by decide +kernel) rfl, tk4 (i := 21) (by decide +kernel) rfl⟩
def M_X4_checkTranslation : MM := (yX4_checkTranslation, cX4_checkTranslation, 3, none, [], 7, 107, 2, 12)
theorem mp_X4_checkTranslation : mpOk M_X4_checkTranslation 2 := ⟨by decide +kernel, by decide +kernel, by decide +kernel⟩
theorem mv_X4_checkTranslation : mvOk M_X4_checkTranslation := ⟨tk4 (i := 17) (by decide +kernel) rfl, pk (q := (yX4_checkTranslation, 6)) (List.mem_of_getElem? (i := 22) (by decide +kernel)), tk1 (i := 1) (by decide +kernel) rfl, tk4 (i := 18) (by decide +kernel) rfl⟩
def M_X4_at : MM := (yX4_at, cX4_at, 2, some .int, [], 0, 0, 0, 0)
theorem mp_X4_at : mpOk M_X4_at 2 := ⟨by decide +kernel, by decide +kernel, by decide +kernel⟩
theorem ms_X4_at : msOk M_X4_at := ⟨tk1 (i := 199) (by decide +kernel) rfl, tk1 (i := 1) (by decide +kernel) rfl, tk1 (i := 200) (by decide +kernel) rfl⟩
end XM20
