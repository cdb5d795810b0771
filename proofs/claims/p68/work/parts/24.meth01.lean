/-! the methods: their rows, and what the tables say of them -/
section XM21
theorem mv_X4_moveClause : mvOk M_X4_moveClause := ⟨tk4 (i := 99) (by decide +kernel) rfl, tk4 (i := 100) (by decide +kernel) rfl, tk1 (i := 1) (by decide +kernel) rfl, tk4 (i := 101) rfl rfl⟩
def M_L_moveClause : MM := (yL_moveClause, cL_moveClause, 4, some .int, [(0, 6, 7, 15), (0, 6, 11, 19)], 8, 130, 3, 18)
theorem mp_L_moveClause : mpOk M_L_moveClause 3 := ⟨by decide +kernel, by decide +kernel, by decide +kernel⟩
theorem ms_L_moveClause : msOk M_L_moveClause := ⟨tk4 (i := 96) (by decide +kernel) rfl, tk1 (i := 0) (by decide +kernel) rfl, tk4 (i := 97) rfl rfl⟩
def M_X4_checkTongue : MM := (yX4_checkTongue, cX4_checkTongue, 1, none, [], 6, 86, 1, 6)
theorem mp_X4_checkTongue : mpOk M_X4_checkTongue 1 := ⟨by decide +kernel, by decide +kernel, by decide +kernel⟩
theorem ms_X4_checkTongue : msOk M_X4_checkTongue := ⟨tk4 (i := 8) (by decide +kernel) rfl, tk1 (i := 1) (by decide +kernel) rfl, tk4 (i := 9) rfl rfl⟩
def M_X4_checkTranslation : MM := (yX4_checkTranslation, cX4_checkTranslation, 3, none, [], 7, 107, 2, 12)
theorem mp_X4_checkTranslation : mpOk M_X4_checkTranslation 2 := ⟨by decide +kernel, by decide +kernel, by decide +kernel⟩
theorem mv_X4_checkTranslation : mvOk M_X4_checkTranslation := ⟨tk4 (i := 113) (by decide +kernel) rfl, pk (q := (yX4_checkTranslation, 6)) (List.mem_of_getElem? (i := 22) (by decide +kernel)), tk1 (i := 1) (by decide +kernel) rfl, tk4 (i := 114) rfl rfl⟩
def M_X3_putTranslation : MM := (yX3_putTranslation, cX3_putTranslation, 5, none, [], 1, 22, 0, 0)
theorem mp_X3_putTranslation : mpOk M_X3_putTranslation 4 := ⟨by decide +kernel, by decide +kernel, by decide +kernel⟩
theorem mv_X3_putTranslation : mvOk M_X3_putTranslation := ⟨tk4 (i := 117) (by decide +kernel) rfl, tk4 (i := 118) (by decide +kernel) rfl, tk1 (i := 2) (by decide +kernel) rfl, tk4 (i := 119) rfl rfl⟩
def M_X3_spokenAt : MM := (yX3_spokenAt, cX3_spokenAt, 3, some .int, [], 1, 21, 0, 0)
theorem mp_X3_spokenAt : mpOk M_X3_spokenAt 2 := ⟨by decide +kernel, by decide +kernel, by decide +kernel⟩
theorem mv_X3_spokenAt : mvOk M_X3_spokenAt := ⟨tk2 (i := 86) (by decide +kernel) rfl, tk2 (i := 87) (by decide +kernel) rfl, tk1 (i := 2) (by decide +kernel) rfl, tk2 (i := 88) rfl rfl⟩
def M_X3_roomAt : MM := (yX3_roomAt, cX3_roomAt, 3, some .int, [], 2, 43, 0, 0)
theorem mp_X3_roomAt : mpOk M_X3_roomAt 2 := ⟨by decide +kernel, by decide +kernel, by decide +kernel⟩
theorem mv_X3_roomAt : mvOk M_X3_roomAt := ⟨tk2 (i := 91) (by decide +kernel) rfl, tk2 (i := 92) (by decide +kernel) rfl, tk1 (i := 2) (by decide +kernel) rfl, tk2 (i := 93) rfl rfl⟩
def M_X4_translate : MM := (yX4_translate, cX4_translate, 4, some .int, [], 8, 129, 4, 24)
theorem mp_X4_translate : mpOk M_X4_translate 3 := ⟨by decide +kernel, by decide +kernel, by decide +kernel⟩
theorem mv_X4_translate : mvOk M_X4_translate := ⟨tk4 (i := 108) (by decide +kernel) rfl, tk4 (i := 109) (by decide +kernel) rfl, tk1 (i := 1) (by decide +kernel) rfl, tk4 (i := 110) rfl rfl⟩
def M_L_translate : MM := (yL_translate, cL_translate, 5, some .int, [(0, 7, 8, 15), (0, 7, 14, 17), (0, 7, 20, 19)], 9, 152, 4, 24)
theorem mp_L_translate : mpOk M_L_translate 4 := ⟨by decide +kernel, by decide +kernel, by decide +kernel⟩
theorem ms_L_translate : msOk M_L_translate := ⟨tk4 (i := 105) (by decide +kernel) rfl, tk1 (i := 0) (by decide +kernel) rfl, tk4 (i := 106) rfl rfl⟩
def M_X3_framesAt : MM := (yX3_framesAt, cX3_framesAt, 3, some .int, [], 1, 21, 0, 0)
theorem mp_X3_framesAt : mpOk M_X3_framesAt 2 := ⟨by decide +kernel, by decide +kernel, by decide +kernel⟩
theorem mv_X3_framesAt : mvOk M_X3_framesAt := ⟨tk2 (i := 37) (by decide +kernel) rfl, tk2 (i := 38) (by decide +kernel) rfl, tk1 (i := 2) (by decide +kernel) rfl, tk2 (i := 39) rfl rfl⟩
def M_X3_hasTranslation : MM := (yX3_hasTranslation, cX3_hasTranslation, 3, some .boolean, [], 2, 43, 0, 0)
theorem mp_X3_hasTranslation : mpOk M_X3_hasTranslation 2 := ⟨by decide +kernel, by decide +kernel, by decide +kernel⟩
theorem mv_X3_hasTranslation : mvOk M_X3_hasTranslation := ⟨tk2 (i := 64) (by decide +kernel) rfl, tk2 (i := 65) (by decide +kernel) rfl, tk1 (i := 2) (by decide +kernel) rfl, tk2 (i := 66) rfl rfl⟩
def M_X3_annexedAt : MM := (yX3_annexedAt, cX3_annexedAt, 3, some .int, [], 1, 21, 0, 0)
theorem mp_X3_annexedAt : mpOk M_X3_annexedAt 2 := ⟨by decide +kernel, by decide +kernel, by decide +kernel⟩
theorem mv_X3_annexedAt : mvOk M_X3_annexedAt := ⟨tk2 (i := 49) (by decide +kernel) rfl, tk2 (i := 50) (by decide +kernel) rfl, tk1 (i := 2) (by decide +kernel) rfl, tk2 (i := 51) rfl rfl⟩
def M_X3_annexTotal : MM := (yX3_annexTotal, cX3_annexTotal, 4, some .int, [], 2, 43, 0, 0)
theorem mp_X3_annexTotal : mpOk M_X3_annexTotal 1 := ⟨by decide +kernel, by decide +kernel, by decide +kernel⟩
theorem mv_X3_annexTotal : mvOk M_X3_annexTotal := ⟨tk2 (i := 200) (by decide +kernel) rfl, tk2 (i := 201) (by decide +kernel) rfl, tk1 (i := 2) (by decide +kernel) rfl, tk2 (i := 202) rfl rfl⟩
def M_X3_canAnnex : MM := (yX3_canAnnex, cX3_canAnnex, 4, some .boolean, [], 3, 66, 0, 0)
theorem mp_X3_canAnnex : mpOk M_X3_canAnnex 3 := ⟨by decide +kernel, by decide +kernel, by decide +kernel⟩
theorem mv_X3_canAnnex : mvOk M_X3_canAnnex := ⟨tk4 (i := 128) (by decide +kernel) rfl, tk4 (i := 129) (by decide +kernel) rfl, tk1 (i := 2) (by decide +kernel) rfl, tk4 (i := 130) rfl rfl⟩
def M_X4_annex : MM := (yX4_annex, cX4_annex, 5, some .int, [], 8, 129, 4, 24)
theorem mp_X4_annex : mpOk M_X4_annex 3 := ⟨by decide +kernel, by decide +kernel, by decide +kernel⟩
theorem mv_X4_annex : mvOk M_X4_annex := ⟨tk4 (i := 124) (by decide +kernel) rfl, tk4 (i := 125) (by decide +kernel) rfl, tk1 (i := 1) (by decide +kernel) rfl, tk4 (i := 126) rfl rfl⟩
def M_L_annex : MM := (yL_annex, cL_annex, 5, some .int, [(0, 7, 8, 15), (0, 7, 13, 17), (0, 7, 18, 19)], 9, 153, 4, 24)
theorem mp_L_annex : mpOk M_L_annex 4 := ⟨by decide +kernel, by decide +kernel, by decide +kernel⟩
theorem ms_L_annex : msOk M_L_annex := ⟨tk4 (i := 121) (by decide +kernel) rfl, tk1 (i := 0) (by decide +kernel) rfl, tk4 (i := 122) rfl rfl⟩
def M_X4_bringBack : MM := (yX4_bringBack, cX4_bringBack, 4, some .int, [], 8, 129, 3, 18)
theorem mp_X4_bringBack : mpOk M_X4_bringBack 2 := ⟨by decide +kernel, by decide +kernel, by decide +kernel⟩
theorem mv_X4_bringBack : mvOk M_X4_bringBack := ⟨tk4 (i := 137) (by decide +kernel) rfl, tk4 (i := 138) (by decide +kernel) rfl, tk1 (i := 1) (by decide +kernel) rfl, tk4 (i := 139) rfl rfl⟩
def M_L_bringBack : MM := (yL_bringBack, cL_bringBack, 4, some .int, [(0, 6, 7, 15), (0, 6, 11, 19)], 9, 152, 3, 18)
theorem mp_L_bringBack : mpOk M_L_bringBack 3 := ⟨by decide +kernel, by decide +kernel, by decide +kernel⟩
theorem ms_L_bringBack : msOk M_L_bringBack := ⟨tk4 (i := 134) (by decide +kernel) rfl, tk1 (i := 0) (by decide +kernel) rfl, tk4 (i := 135) rfl rfl⟩
def M_X4_checkVoice : MM := (yX4_checkVoice, cX4_checkVoice, 2, none, [], 7, 106, 2, 12)
theorem mp_X4_checkVoice : mpOk M_X4_checkVoice 2 := ⟨by decide +kernel, by decide +kernel, by decide +kernel⟩
theorem ms_X4_checkVoice : msOk M_X4_checkVoice := ⟨tk4 (i := 149) (by decide +kernel) rfl, tk1 (i := 1) (by decide +kernel) rfl, tk4 (i := 150) rfl rfl⟩
def M_X3_usedBy : MM := (yX3_usedBy, cX3_usedBy, 3, some .int, [], 1, 21, 0, 0)
theorem mp_X3_usedBy : mpOk M_X3_usedBy 2 := ⟨by decide +kernel, by decide +kernel, by decide +kernel⟩
theorem mv_X3_usedBy : mvOk M_X3_usedBy := ⟨tk2 (i := 82) (by decide +kernel) rfl, tk2 (i := 83) (by decide +kernel) rfl, tk1 (i := 2) (by decide +kernel) rfl, tk2 (i := 84) rfl rfl⟩
def M_X3_staminaAt : MM := (yX3_staminaAt, cX3_staminaAt, 3, some .int, [], 1, 21, 0, 0)
theorem mp_X3_staminaAt : mpOk M_X3_staminaAt 2 := ⟨by decide +kernel, by decide +kernel, by decide +kernel⟩
theorem mv_X3_staminaAt : mvOk M_X3_staminaAt := ⟨tk2 (i := 78) (by decide +kernel) rfl, tk2 (i := 79) (by decide +kernel) rfl, tk1 (i := 2) (by decide +kernel) rfl, tk2 (i := 80) rfl rfl⟩
def M_X3_putStamina : MM := (yX3_putStamina, cX3_putStamina, 4, none, [], 1, 22, 0, 0)
theorem mp_X3_putStamina : mpOk M_X3_putStamina 3 := ⟨by decide +kernel, by decide +kernel, by decide +kernel⟩
theorem mv_X3_putStamina : mvOk M_X3_putStamina := ⟨tk4 (i := 154) (by decide +kernel) rfl, tk4 (i := 155) (by decide +kernel) rfl, tk1 (i := 2) (by decide +kernel) rfl, tk4 (i := 156) rfl rfl⟩
def M_X4_cast : MM := (yX4_cast, cX4_cast, 5, some .int, [], 8, 127, 4, 24)
theorem mp_X4_cast : mpOk M_X4_cast 3 := ⟨by decide +kernel, by decide +kernel, by decide +kernel⟩
theorem mv_X4_cast : mvOk M_X4_cast := ⟨tk4 (i := 145) (by decide +kernel) rfl, tk4 (i := 146) (by decide +kernel) rfl, tk1 (i := 1) (by decide +kernel) rfl, tk4 (i := 147) rfl rfl⟩
def M_L_cast : MM := (yL_cast, cL_cast, 5, some .int, [(0, 7, 8, 15), (0, 7, 13, 17), (0, 7, 18, 19)], 9, 151, 4, 24)
theorem mp_L_cast : mpOk M_L_cast 4 := ⟨by decide +kernel, by decide +kernel, by decide +kernel⟩
theorem ms_L_cast : msOk M_L_cast := ⟨tk4 (i := 142) (by decide +kernel) rfl, tk1 (i := 0) (by decide +kernel) rfl, tk4 (i := 143) rfl rfl⟩
def M_X3_beginSession : MM := (yX3_beginSession, cX3_beginSession, 2, none, [], 0, 0, 0, 0)
theorem mp_X3_beginSession : mpOk M_X3_beginSession 0 := ⟨by decide +kernel, by decide +kernel, by decide +kernel⟩
theorem mv_X3_beginSession : mvOk M_X3_beginSession := ⟨tk4 (i := 166) (by decide +kernel) rfl, tk4 (i := 167) (by decide +kernel) rfl, tk1 (i := 2) (by decide +kernel) rfl, tk4 (i := 168) rfl rfl⟩
def M_X4_nextSession : MM := (yX4_nextSession, cX4_nextSession, 1, some .int, [], 6, 94, 1, 6)
theorem mp_X4_nextSession : mpOk M_X4_nextSession 0 := ⟨by decide +kernel, by decide +kernel, by decide +kernel⟩
theorem mv_X4_nextSession : mvOk M_X4_nextSession := ⟨tk4 (i := 161) (by decide +kernel) rfl, tk4 (i := 162) (by decide +kernel) rfl, tk1 (i := 1) (by decide +kernel) rfl, tk4 (i := 163) rfl rfl⟩
def M_L_nextSession : MM := (yL_nextSession, cL_nextSession, 2, some .int, [(0, 4, 5, 19)], 7, 114, 1, 6)
theorem mp_L_nextSession : mpOk M_L_nextSession 1 := ⟨by decide +kernel, by decide +kernel, by decide +kernel⟩
theorem ms_L_nextSession : msOk M_L_nextSession := ⟨tk4 (i := 158) (by decide +kernel) rfl, tk1 (i := 0) (by decide +kernel) rfl, tk4 (i := 159) rfl rfl⟩
def M_X4_checkTaken : MM := (yX4_checkTaken, cX4_checkTaken, 3, none, [], 6, 86, 1, 6)
theorem mp_X4_checkTaken : mpOk M_X4_checkTaken 2 := ⟨by decide +kernel, by decide +kernel, by decide +kernel⟩
theorem mv_X4_checkTaken : mvOk M_X4_checkTaken := ⟨tk4 (i := 178) (by decide +kernel) rfl, pk (q := (yX4_checkTaken, 6)) (List.mem_of_getElem? (i := 23) (by decide +kernel)), tk1 (i := 1) (by decide +kernel) rfl, tk4 (i := 179) rfl rfl⟩
def M_X3_takenIn : MM := (yX3_takenIn, cX3_takenIn, 3, some .int, [], 1, 21, 0, 0)
theorem mp_X3_takenIn : mpOk M_X3_takenIn 2 := ⟨by decide +kernel, by decide +kernel, by decide +kernel⟩
theorem mv_X3_takenIn : mvOk M_X3_takenIn := ⟨tk4 (i := 182) (by decide +kernel) rfl, tk4 (i := 183) (by decide +kernel) rfl, tk1 (i := 2) (by decide +kernel) rfl, tk4 (i := 184) rfl rfl⟩
def M_X3_dropTaken : MM := (yX3_dropTaken, cX3_dropTaken, 3, none, [], 2, 44, 0, 0)
end XM21
