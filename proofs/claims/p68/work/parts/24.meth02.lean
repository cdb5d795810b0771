/-! the methods: their rows, and what the tables say of them -/
section XM22
theorem mp_X3_dropTaken : mpOk M_X3_dropTaken 2 := ⟨by decide +kernel, by decide +kernel, by decide +kernel⟩
theorem mv_X3_dropTaken : mvOk M_X3_dropTaken := ⟨tk4 (i := 186) (by decide +kernel) rfl, tk4 (i := 187) (by decide +kernel) rfl, tk1 (i := 2) (by decide +kernel) rfl, tk4 (i := 188) rfl rfl⟩
def M_X4_wipe : MM := (yX4_wipe, cX4_wipe, 4, some .int, [], 8, 129, 3, 18)
theorem mp_X4_wipe : mpOk M_X4_wipe 2 := ⟨by decide +kernel, by decide +kernel, by decide +kernel⟩
theorem mv_X4_wipe : mvOk M_X4_wipe := ⟨tk4 (i := 173) (by decide +kernel) rfl, tk4 (i := 174) (by decide +kernel) rfl, tk1 (i := 1) (by decide +kernel) rfl, tk4 (i := 175) rfl rfl⟩
def M_L_wipe : MM := (yL_wipe, cL_wipe, 4, some .int, [(0, 6, 7, 15), (0, 6, 11, 19)], 9, 152, 3, 18)
theorem mp_L_wipe : mpOk M_L_wipe 3 := ⟨by decide +kernel, by decide +kernel, by decide +kernel⟩
theorem ms_L_wipe : msOk M_L_wipe := ⟨tk4 (i := 170) (by decide +kernel) rfl, tk1 (i := 0) (by decide +kernel) rfl, tk4 (i := 171) rfl rfl⟩
def M_X3_hasMix : MM := (yX3_hasMix, cX3_hasMix, 3, some .boolean, [], 1, 21, 0, 0)
theorem mp_X3_hasMix : mpOk M_X3_hasMix 2 := ⟨by decide +kernel, by decide +kernel, by decide +kernel⟩
theorem mv_X3_hasMix : mvOk M_X3_hasMix := ⟨tk2 (i := 170) (by decide +kernel) rfl, tk2 (i := 171) (by decide +kernel) rfl, tk1 (i := 2) (by decide +kernel) rfl, tk2 (i := 172) rfl rfl⟩
def M_X3_clausesOn : MM := (yX3_clausesOn, cX3_clausesOn, 4, some .int, [], 2, 42, 0, 0)
theorem mp_X3_clausesOn : mpOk M_X3_clausesOn 1 := ⟨by decide +kernel, by decide +kernel, by decide +kernel⟩
theorem mv_X3_clausesOn : mvOk M_X3_clausesOn := ⟨tk2 (i := 156) (by decide +kernel) rfl, tk2 (i := 157) (by decide +kernel) rfl, tk1 (i := 2) (by decide +kernel) rfl, tk2 (i := 158) rfl rfl⟩
def M_X3_isWholeReel : MM := (yX3_isWholeReel, cX3_isWholeReel, 4, some .boolean, [], 3, 65, 0, 0)
theorem mp_X3_isWholeReel : mpOk M_X3_isWholeReel 2 := ⟨by decide +kernel, by decide +kernel, by decide +kernel⟩
theorem mv_X3_isWholeReel : mvOk M_X3_isWholeReel := ⟨tk2 (i := 165) (by decide +kernel) rfl, tk2 (i := 166) (by decide +kernel) rfl, tk1 (i := 2) (by decide +kernel) rfl, tk2 (i := 167) rfl rfl⟩
def M_X3_putMix : MM := (yX3_putMix, cX3_putMix, 3, none, [], 1, 22, 0, 0)
theorem mp_X3_putMix : mpOk M_X3_putMix 2 := ⟨by decide +kernel, by decide +kernel, by decide +kernel⟩
theorem mv_X3_putMix : mvOk M_X3_putMix := ⟨tk4 (i := 198) (by decide +kernel) rfl, tk4 (i := 199) (by decide +kernel) rfl, tk1 (i := 2) (by decide +kernel) rfl, tk4 (i := 200) rfl rfl⟩
def M_X3_silenceIn : MM := (yX3_silenceIn, cX3_silenceIn, 5, some .int, [], 3, 65, 0, 0)
theorem mp_X3_silenceIn : mpOk M_X3_silenceIn 2 := ⟨by decide +kernel, by decide +kernel, by decide +kernel⟩
theorem mv_X3_silenceIn : mvOk M_X3_silenceIn := ⟨tk4 (i := 202) (by decide +kernel) rfl, tk4 (i := 203) (by decide +kernel) rfl, tk1 (i := 2) (by decide +kernel) rfl, tk4 (i := 204) rfl rfl⟩
def M_X4_mix : MM := (yX4_mix, cX4_mix, 3, some .int, [], 7, 106, 3, 18)
theorem mp_X4_mix : mpOk M_X4_mix 2 := ⟨by decide +kernel, by decide +kernel, by decide +kernel⟩
theorem mv_X4_mix : mvOk M_X4_mix := ⟨tk4 (i := 193) (by decide +kernel) rfl, tk4 (i := 194) (by decide +kernel) rfl, tk1 (i := 1) (by decide +kernel) rfl, tk4 (i := 195) rfl rfl⟩
def M_L_mix : MM := (yL_mix, cL_mix, 4, some .int, [(0, 6, 7, 15), (0, 6, 11, 19)], 8, 128, 3, 18)
theorem mp_L_mix : mpOk M_L_mix 3 := ⟨by decide +kernel, by decide +kernel, by decide +kernel⟩
theorem ms_L_mix : msOk M_L_mix := ⟨tk4 (i := 190) (by decide +kernel) rfl, tk1 (i := 0) (by decide +kernel) rfl, tk4 (i := 191) rfl rfl⟩
def M_X3_speakerAt : MM := (yX3_speakerAt, cX3_speakerAt, 2, some .int, [], 1, 21, 0, 0)
theorem mp_X3_speakerAt : mpOk M_X3_speakerAt 1 := ⟨by decide +kernel, by decide +kernel, by decide +kernel⟩
theorem mv_X3_speakerAt : mvOk M_X3_speakerAt := ⟨tk2 (i := 17) (by decide +kernel) rfl, tk2 (i := 18) (by decide +kernel) rfl, tk1 (i := 2) (by decide +kernel) rfl, tk2 (i := 19) rfl rfl⟩
def M_X3_isHeardIn : MM := (yX3_isHeardIn, cX3_isHeardIn, 4, some .boolean, [], 2, 42, 0, 0)
theorem mp_X3_isHeardIn : mpOk M_X3_isHeardIn 2 := ⟨by decide +kernel, by decide +kernel, by decide +kernel⟩
theorem mv_X3_isHeardIn : mvOk M_X3_isHeardIn := ⟨tk2 (i := 188) (by decide +kernel) rfl, tk2 (i := 189) (by decide +kernel) rfl, tk1 (i := 2) (by decide +kernel) rfl, tk2 (i := 190) rfl rfl⟩
def M_X3_hasSignature : MM := (yX3_hasSignature, cX3_hasSignature, 4, some .boolean, [], 1, 21, 0, 0)
theorem mp_X3_hasSignature : mpOk M_X3_hasSignature 3 := ⟨by decide +kernel, by decide +kernel, by decide +kernel⟩
theorem mv_X3_hasSignature : mvOk M_X3_hasSignature := ⟨tk2 (i := 192) (by decide +kernel) rfl, tk2 (i := 193) (by decide +kernel) rfl, tk1 (i := 2) (by decide +kernel) rfl, tk2 (i := 194) rfl rfl⟩
def M_X3_putSignature : MM := (yX3_putSignature, cX3_putSignature, 5, none, [], 1, 22, 0, 0)
theorem mp_X3_putSignature : mpOk M_X3_putSignature 3 := ⟨by decide +kernel, by decide +kernel, by decide +kernel⟩
theorem mv_X3_putSignature : mvOk M_X3_putSignature := ⟨tk4 (i := 216) (by decide +kernel) rfl, tk4 (i := 217) (by decide +kernel) rfl, tk1 (i := 2) (by decide +kernel) rfl, tk4 (i := 218) rfl rfl⟩
def M_X3_signaturesMissing : MM := (yX3_signaturesMissing, cX3_signaturesMissing, 5, some .int, [], 3, 65, 0, 0)
theorem mp_X3_signaturesMissing : mpOk M_X3_signaturesMissing 2 := ⟨by decide +kernel, by decide +kernel, by decide +kernel⟩
theorem mv_X3_signaturesMissing : mvOk M_X3_signaturesMissing := ⟨tk2 (i := 184) (by decide +kernel) rfl, tk2 (i := 185) (by decide +kernel) rfl, tk1 (i := 2) (by decide +kernel) rfl, tk2 (i := 186) rfl rfl⟩
def M_X4_sign : MM := (yX4_sign, cX4_sign, 4, some .int, [], 7, 106, 4, 24)
theorem mp_X4_sign : mpOk M_X4_sign 3 := ⟨by decide +kernel, by decide +kernel, by decide +kernel⟩
theorem mv_X4_sign : mvOk M_X4_sign := ⟨tk4 (i := 209) (by decide +kernel) rfl, tk4 (i := 210) (by decide +kernel) rfl, tk1 (i := 1) (by decide +kernel) rfl, tk4 (i := 211) rfl rfl⟩
def M_L_sign : MM := (yL_sign, cL_sign, 5, some .int, [(0, 7, 8, 15), (0, 7, 13, 19)], 8, 129, 4, 24)
theorem mp_L_sign : mpOk M_L_sign 4 := ⟨by decide +kernel, by decide +kernel, by decide +kernel⟩
theorem ms_L_sign : msOk M_L_sign := ⟨tk4 (i := 206) (by decide +kernel) rfl, tk1 (i := 0) (by decide +kernel) rfl, tk4 (i := 207) rfl rfl⟩
def M_X1_popInto : MM := (yX1_popInto, cX1_popInto, 2, none, [], 3, 72, 0, 0)
theorem mp_X1_popInto : mpOk M_X1_popInto 1 := ⟨by decide +kernel, by decide +kernel, by decide +kernel⟩
theorem mv_X1_popInto : mvOk M_X1_popInto := ⟨tk4 (i := 81) (by decide +kernel) rfl, tk4 (i := 82) (by decide +kernel) rfl, tk1 (i := 3) (by decide +kernel) rfl, tk4 (i := 83) rfl rfl⟩
def M_X4_undo : MM := (yX4_undo, cX4_undo, 1, none, [], 6, 93, 1, 6)
theorem mp_X4_undo : mpOk M_X4_undo 0 := ⟨by decide +kernel, by decide +kernel, by decide +kernel⟩
theorem mv_X4_undo : mvOk M_X4_undo := ⟨tk4 (i := 76) (by decide +kernel) rfl, tk4 (i := 77) (by decide +kernel) rfl, tk1 (i := 1) (by decide +kernel) rfl, tk4 (i := 78) rfl rfl⟩
def M_L_undo : MM := (yL_undo, cL_undo, 2, some .int, [(0, 5, 6, 19)], 7, 113, 1, 6)
theorem mp_L_undo : mpOk M_L_undo 1 := ⟨by decide +kernel, by decide +kernel, by decide +kernel⟩
theorem ms_L_undo : msOk M_L_undo := ⟨tk4 (i := 73) (by decide +kernel) rfl, tk1 (i := 0) (by decide +kernel) rfl, tk4 (i := 74) rfl rfl⟩
def M_X4_keep : MM := (yX4_keep, cX4_keep, 3, none, [], 7, 108, 1, 6)
theorem mp_X4_keep : mpOk M_X4_keep 1 := ⟨by decide +kernel, by decide +kernel, by decide +kernel⟩
theorem mv_X4_keep : mvOk M_X4_keep := ⟨tk4 (i := 223) (by decide +kernel) rfl, tk4 (i := 224) (by decide +kernel) rfl, tk1 (i := 1) (by decide +kernel) rfl, tk4 (i := 225) rfl rfl⟩
def M_L_keep : MM := (yL_keep, cL_keep, 3, some .int, [(0, 6, 7, 17)], 8, 130, 1, 6)
theorem mp_L_keep : mpOk M_L_keep 2 := ⟨by decide +kernel, by decide +kernel, by decide +kernel⟩
theorem ms_L_keep : msOk M_L_keep := ⟨tk4 (i := 220) (by decide +kernel) rfl, tk1 (i := 0) (by decide +kernel) rfl, tk4 (i := 221) rfl rfl⟩
def M_X4_hasSnapshot : MM := (yX4_hasSnapshot, cX4_hasSnapshot, 2, some .boolean, [], 0, 0, 0, 0)
theorem mp_X4_hasSnapshot : mpOk M_X4_hasSnapshot 1 := ⟨by decide +kernel, by decide +kernel, by decide +kernel⟩
theorem mv_X4_hasSnapshot : mvOk M_X4_hasSnapshot := ⟨tk3 (i := 25) (by decide +kernel) rfl, pk (q := (yX4_hasSnapshot, 6)) (List.mem_of_getElem? (i := 16) (by decide +kernel)), tk1 (i := 1) (by decide +kernel) rfl, tk3 (i := 26) rfl rfl⟩
def M_X4_goBack : MM := (yX4_goBack, cX4_goBack, 2, none, [], 7, 108, 2, 12)
theorem mp_X4_goBack : mpOk M_X4_goBack 1 := ⟨by decide +kernel, by decide +kernel, by decide +kernel⟩
theorem mv_X4_goBack : mvOk M_X4_goBack := ⟨tk4 (i := 66) (by decide +kernel) rfl, tk4 (i := 67) (by decide +kernel) rfl, tk1 (i := 1) (by decide +kernel) rfl, tk4 (i := 68) rfl rfl⟩
def M_L_goBack : MM := (yL_goBack, cL_goBack, 3, some .int, [(0, 6, 7, 17), (0, 6, 11, 19)], 8, 129, 2, 12)
theorem mp_L_goBack : mpOk M_L_goBack 2 := ⟨by decide +kernel, by decide +kernel, by decide +kernel⟩
theorem ms_L_goBack : msOk M_L_goBack := ⟨tk4 (i := 63) (by decide +kernel) rfl, tk1 (i := 0) (by decide +kernel) rfl, tk4 (i := 64) rfl rfl⟩
def M_X4_clearBuffer : MM := (yX4_clearBuffer, cX4_clearBuffer, 2, some .int, [], 0, 0, 0, 0)
theorem mp_X4_clearBuffer : mpOk M_X4_clearBuffer 0 := ⟨by decide +kernel, by decide +kernel, by decide +kernel⟩
theorem mv_X4_clearBuffer : mvOk M_X4_clearBuffer := ⟨tk1 (i := 185) (by decide +kernel) rfl, tk1 (i := 186) (by decide +kernel) rfl, tk1 (i := 1) (by decide +kernel) rfl, tk1 (i := 187) rfl rfl⟩
def M_X0_putSign : MM := (yX0_putSign, cX0_putSign, 2, none, [], 1, 22, 0, 0)
theorem mp_X0_putSign : mpOk M_X0_putSign 1 := ⟨by decide +kernel, by decide +kernel, by decide +kernel⟩
theorem mv_X0_putSign : mvOk M_X0_putSign := ⟨tk4 (i := 41) (by decide +kernel) rfl, tk4 (i := 42) (by decide +kernel) rfl, tk1 (i := 4) (by decide +kernel) rfl, tk4 (i := 43) rfl rfl⟩
def M_X4_append : MM := (yX4_append, cX4_append, 2, some .int, [], 7, 108, 2, 12)
theorem mp_X4_append : mpOk M_X4_append 1 := ⟨by decide +kernel, by decide +kernel, by decide +kernel⟩
theorem mv_X4_append : mvOk M_X4_append := ⟨tk4 (i := 36) (by decide +kernel) rfl, tk4 (i := 37) (by decide +kernel) rfl, tk1 (i := 1) (by decide +kernel) rfl, tk4 (i := 38) rfl rfl⟩
def M_L_append : MM := (yL_append, cL_append, 3, some .int, [(0, 5, 6, 17), (0, 5, 10, 19)], 8, 129, 2, 12)
theorem mp_L_append : mpOk M_L_append 2 := ⟨by decide +kernel, by decide +kernel, by decide +kernel⟩
theorem ms_L_append : msOk M_L_append := ⟨tk4 (i := 33) (by decide +kernel) rfl, tk1 (i := 0) (by decide +kernel) rfl, tk4 (i := 34) rfl rfl⟩
end XM22
