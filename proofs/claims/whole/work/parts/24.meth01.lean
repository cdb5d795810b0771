/-! the methods: their rows, and what the tables say of them -/
section XM21
def M_X3_framesAt : MM := (yX3_framesAt, cX3_framesAt, 3, some .int, [], 1, 21, 0, 0)
theorem mp_X3_framesAt : mpOk M_X3_framesAt 2 := ⟨by decide +kernel, by decide +kernel, by decide +kernel⟩
theorem mv_X3_framesAt : mvOk M_X3_framesAt := ⟨tk2 (i := 87) (by decide +kernel) rfl, tk2 (i := 88) (by decide +kernel) rfl, tk1 (i := 2) (by decide +kernel) rfl, tk2 (i := 89) (by decide +kernel) rfl⟩
def M_X3_hasTranslation : MM := (yX3_hasTranslation, cX3_hasTranslation, 3, some .boolean, [], 2, 43, 0, 0)
theorem mp_X3_hasTranslation : mpOk M_X3_hasTranslation 2 := ⟨by decide +kernel, by decide +kernel, by decide +kernel⟩
theorem mv_X3_hasTranslation : mvOk M_X3_hasTranslation := ⟨tk2 (i := 108) (by decide +kernel) rfl, tk2 (i := 109) (by decide +kernel) rfl, tk1 (i := 2) (by decide +kernel) rfl, tk2 (i := 110) (by decide +kernel) rfl⟩
def M_X3_isTaken : MM := (yX3_isTaken, cX3_isTaken, 3, some .boolean, [], 1, 21, 0, 0)
theorem mp_X3_isTaken : mpOk M_X3_isTaken 2 := ⟨by decide +kernel, by decide +kernel, by decide +kernel⟩
theorem mv_X3_isTaken : mvOk M_X3_isTaken := ⟨tk2 (i := 29) (by decide +kernel) rfl, tk2 (i := 30) (by decide +kernel) rfl, tk1 (i := 2) (by decide +kernel) rfl, tk2 (i := 31) (by decide +kernel) rfl⟩
def M_X3_annexedAt : MM := (yX3_annexedAt, cX3_annexedAt, 3, some .int, [], 1, 21, 0, 0)
theorem mp_X3_annexedAt : mpOk M_X3_annexedAt 2 := ⟨by decide +kernel, by decide +kernel, by decide +kernel⟩
theorem mv_X3_annexedAt : mvOk M_X3_annexedAt := ⟨tk2 (i := 96) (by decide +kernel) rfl, tk2 (i := 97) (by decide +kernel) rfl, tk1 (i := 2) (by decide +kernel) rfl, tk2 (i := 98) (by decide +kernel) rfl⟩
def M_X3_annexTotal : MM := (yX3_annexTotal, cX3_annexTotal, 4, some .int, [], 2, 43, 0, 0)
theorem mp_X3_annexTotal : mpOk M_X3_annexTotal 1 := ⟨by decide +kernel, by decide +kernel, by decide +kernel⟩
theorem mv_X3_annexTotal : mvOk M_X3_annexTotal := ⟨tk3 (i := 2) (by decide +kernel) rfl, tk3 (i := 3) (by decide +kernel) rfl, tk1 (i := 2) (by decide +kernel) rfl, tk3 (i := 4) (by decide +kernel) rfl⟩
def M_X3_canAnnex : MM := (yX3_canAnnex, cX3_canAnnex, 4, some .boolean, [], 3, 66, 0, 0)
theorem mp_X3_canAnnex : mpOk M_X3_canAnnex 3 := ⟨by decide +kernel, by decide +kernel, by decide +kernel⟩
theorem mv_X3_canAnnex : mvOk M_X3_canAnnex := ⟨tk4 (i := 36) (by decide +kernel) rfl, tk4 (i := 37) (by decide +kernel) rfl, tk1 (i := 2) (by decide +kernel) rfl, tk4 (i := 38) (by decide +kernel) rfl⟩
def M_X3_putTranslation : MM := (yX3_putTranslation, cX3_putTranslation, 5, none, [], 1, 22, 0, 0)
theorem mp_X3_putTranslation : mpOk M_X3_putTranslation 4 := ⟨by decide +kernel, by decide +kernel, by decide +kernel⟩
theorem mv_X3_putTranslation : mvOk M_X3_putTranslation := ⟨tk4 (i := 25) (by decide +kernel) rfl, tk4 (i := 26) (by decide +kernel) rfl, tk1 (i := 2) (by decide +kernel) rfl, tk4 (i := 27) (by decide +kernel) rfl⟩
def M_X4_annex : MM := (yX4_annex, cX4_annex, 5, some .int, [], 8, 129, 4, 24)
theorem mp_X4_annex : mpOk M_X4_annex 3 := ⟨by decide +kernel, by decide +kernel, by decide +kernel⟩
theorem mv_X4_annex : mvOk M_X4_annex := ⟨tk4 (i := 32) (by decide +kernel) rfl, tk4 (i := 33) (by decide +kernel) rfl, tk1 (i := 1) (by decide +kernel) rfl, tk4 (i := 34) (by decide +kernel) rfl⟩
def M_L_annex : MM := (yL_annex, cL_annex, 6, some .int, [(0, 12, 15, 13), (0, 12, 19, 15), (0, 12, 23, 17)], 9, 153, 4, 24)
theorem mp_L_annex : mpOk M_L_annex 5 := ⟨by decide +kernel, by decide +kernel, by decide +kernel⟩
theorem ms_L_annex : msOk M_L_annex := ⟨tk4 (i := 29) (by decide +kernel) rfl, tk1 (i := 0) (by decide +kernel) rfl, tk4 (i := 30) (by decide +kernel) rfl⟩
def M_X4_annexOf : MM := (yX4_annexOf, cX4_annexOf, 2, some .int, [], 7, 106, 1, 6)
theorem mp_X4_annexOf : mpOk M_X4_annexOf 1 := ⟨by decide +kernel, by decide +kernel, by decide +kernel⟩
theorem mv_X4_annexOf : mvOk M_X4_annexOf := ⟨tk5 (i := 155) (by decide +kernel) rfl, tk5 (i := 156) (by decide +kernel) rfl, tk1 (i := 1) (by decide +kernel) rfl, tk5 (i := 157) (by decide +kernel) rfl⟩
def M_L_annexOf : MM := (yL_annexOf, cL_annexOf, 4, some .int, [(0, 9, 12, 13)], 8, 127, 1, 6)
theorem mp_L_annexOf : mpOk M_L_annexOf 3 := ⟨by decide +kernel, by decide +kernel, by decide +kernel⟩
theorem ms_L_annexOf : msOk M_L_annexOf := ⟨tk5 (i := 152) (by decide +kernel) rfl, tk1 (i := 0) (by decide +kernel) rfl, tk5 (i := 153) (by decide +kernel) rfl⟩
def M_X4_annexedOf : MM := (yX4_annexedOf, cX4_annexedOf, 3, some .int, [], 8, 129, 2, 12)
theorem mp_X4_annexedOf : mpOk M_X4_annexedOf 2 := ⟨by decide +kernel, by decide +kernel, by decide +kernel⟩
theorem mv_X4_annexedOf : mvOk M_X4_annexedOf := ⟨tk5 (i := 9) (by decide +kernel) rfl, tk5 (i := 10) (by decide +kernel) rfl, tk1 (i := 1) (by decide +kernel) rfl, tk5 (i := 11) (by decide +kernel) rfl⟩
def M_L_annexedOf : MM := (yL_annexedOf, cL_annexedOf, 5, some .int, [(0, 10, 13, 13)], 9, 151, 2, 12)
theorem mp_L_annexedOf : mpOk M_L_annexedOf 4 := ⟨by decide +kernel, by decide +kernel, by decide +kernel⟩
theorem ms_L_annexedOf : msOk M_L_annexedOf := ⟨tk5 (i := 6) (by decide +kernel) rfl, tk1 (i := 0) (by decide +kernel) rfl, tk5 (i := 7) (by decide +kernel) rfl⟩
def M_X0_putSign : MM := (yX0_putSign, cX0_putSign, 2, none, [], 1, 22, 0, 0)
theorem mp_X0_putSign : mpOk M_X0_putSign 1 := ⟨by decide +kernel, by decide +kernel, by decide +kernel⟩
theorem mv_X0_putSign : mvOk M_X0_putSign := ⟨tk4 (i := 148) (by decide +kernel) rfl, tk4 (i := 149) (by decide +kernel) rfl, tk1 (i := 4) (by decide +kernel) rfl, tk4 (i := 150) (by decide +kernel) rfl⟩
def M_X4_append : MM := (yX4_append, cX4_append, 2, some .int, [], 7, 108, 2, 12)
theorem mp_X4_append : mpOk M_X4_append 1 := ⟨by decide +kernel, by decide +kernel, by decide +kernel⟩
theorem mv_X4_append : mvOk M_X4_append := ⟨tk4 (i := 143) (by decide +kernel) rfl, tk4 (i := 144) (by decide +kernel) rfl, tk1 (i := 1) (by decide +kernel) rfl, tk4 (i := 145) (by decide +kernel) rfl⟩
def M_L_append : MM := (yL_append, cL_append, 4, some .int, [(0, 9, 12, 15), (0, 9, 15, 17)], 8, 129, 2, 12)
theorem mp_L_append : mpOk M_L_append 3 := ⟨by decide +kernel, by decide +kernel, by decide +kernel⟩
theorem ms_L_append : msOk M_L_append := ⟨tk4 (i := 140) (by decide +kernel) rfl, tk1 (i := 0) (by decide +kernel) rfl, tk4 (i := 141) (by decide +kernel) rfl⟩
def M_X4_bringBack : MM := (yX4_bringBack, cX4_bringBack, 4, some .int, [], 8, 129, 3, 18)
theorem mp_X4_bringBack : mpOk M_X4_bringBack 2 := ⟨by decide +kernel, by decide +kernel, by decide +kernel⟩
theorem mv_X4_bringBack : mvOk M_X4_bringBack := ⟨tk4 (i := 45) (by decide +kernel) rfl, tk4 (i := 46) (by decide +kernel) rfl, tk1 (i := 1) (by decide +kernel) rfl, tk4 (i := 47) (by decide +kernel) rfl⟩
def M_L_bringBack : MM := (yL_bringBack, cL_bringBack, 5, some .int, [(0, 10, 13, 13), (0, 10, 17, 17)], 9, 152, 3, 18)
theorem mp_L_bringBack : mpOk M_L_bringBack 4 := ⟨by decide +kernel, by decide +kernel, by decide +kernel⟩
theorem ms_L_bringBack : msOk M_L_bringBack := ⟨tk4 (i := 42) (by decide +kernel) rfl, tk1 (i := 0) (by decide +kernel) rfl, tk4 (i := 43) (by decide +kernel) rfl⟩
def M_X4_checkVoice : MM := (yX4_checkVoice, cX4_checkVoice, 2, none, [], 7, 106, 2, 12)
theorem mp_X4_checkVoice : mpOk M_X4_checkVoice 2 := ⟨by decide +kernel, by decide +kernel, by decide +kernel⟩
theorem ms_X4_checkVoice : msOk M_X4_checkVoice := ⟨tk4 (i := 57) (by decide +kernel) rfl, tk1 (i := 1) (by decide +kernel) rfl, tk4 (i := 58) (by decide +kernel) rfl⟩
def M_X3_usedBy : MM := (yX3_usedBy, cX3_usedBy, 3, some .int, [], 1, 21, 0, 0)
theorem mp_X3_usedBy : mpOk M_X3_usedBy 2 := ⟨by decide +kernel, by decide +kernel, by decide +kernel⟩
theorem mv_X3_usedBy : mvOk M_X3_usedBy := ⟨tk2 (i := 124) (by decide +kernel) rfl, tk2 (i := 125) (by decide +kernel) rfl, tk1 (i := 2) (by decide +kernel) rfl, tk2 (i := 126) (by decide +kernel) rfl⟩
def M_X3_staminaAt : MM := (yX3_staminaAt, cX3_staminaAt, 3, some .int, [], 1, 21, 0, 0)
theorem mp_X3_staminaAt : mpOk M_X3_staminaAt 2 := ⟨by decide +kernel, by decide +kernel, by decide +kernel⟩
theorem mv_X3_staminaAt : mvOk M_X3_staminaAt := ⟨tk2 (i := 120) (by decide +kernel) rfl, tk2 (i := 121) (by decide +kernel) rfl, tk1 (i := 2) (by decide +kernel) rfl, tk2 (i := 122) (by decide +kernel) rfl⟩
def M_X3_putStamina : MM := (yX3_putStamina, cX3_putStamina, 4, none, [], 1, 22, 0, 0)
theorem mp_X3_putStamina : mpOk M_X3_putStamina 3 := ⟨by decide +kernel, by decide +kernel, by decide +kernel⟩
theorem mv_X3_putStamina : mvOk M_X3_putStamina := ⟨tk4 (i := 62) (by decide +kernel) rfl, tk4 (i := 63) (by decide +kernel) rfl, tk1 (i := 2) (by decide +kernel) rfl, tk4 (i := 64) (by decide +kernel) rfl⟩
end XM21
