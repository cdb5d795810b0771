/-! the methods: their rows, and what the tables say of them -/
section XM23
def M_X5_isVoice : MM := (yX5_isVoice, cX5_isVoice, 2, some .boolean, [], 2, 42, 0, 0)
theorem mp_X5_isVoice : mpOk M_X5_isVoice 2 := ⟨by decide +kernel, by decide +kernel, by decide +kernel⟩
theorem ms_X5_isVoice : msOk M_X5_isVoice := ⟨tk6 (i := 140) (by decide +kernel) rfl, tk1 (i := 6) (by decide +kernel) rfl, tk6 (i := 141) rfl rfl⟩
def M_X5_cast : MM := (yX5_cast, cX5_cast, 4, some .int, [], 3, 63, 0, 0)
theorem mp_X5_cast : mpOk M_X5_cast 3 := ⟨by decide +kernel, by decide +kernel, by decide +kernel⟩
theorem mv_X5_cast : mvOk M_X5_cast := ⟨tk6 (i := 136) (by decide +kernel) rfl, tk6 (i := 137) (by decide +kernel) rfl, tk1 (i := 6) (by decide +kernel) rfl, tk6 (i := 138) rfl rfl⟩
def M_X3_strengthAt : MM := (yX3_strengthAt, cX3_strengthAt, 3, some .int, [], 2, 43, 0, 0)
theorem mp_X3_strengthAt : mpOk M_X3_strengthAt 2 := ⟨by decide +kernel, by decide +kernel, by decide +kernel⟩
theorem mv_X3_strengthAt : mvOk M_X3_strengthAt := ⟨tk2 (i := 116) (by decide +kernel) rfl, tk2 (i := 117) (by decide +kernel) rfl, tk1 (i := 2) (by decide +kernel) rfl, tk2 (i := 118) rfl rfl⟩
def M_X3_reasonAt : MM := (yX3_reasonAt, cX3_reasonAt, 4, some .int, [], 3, 65, 0, 0)
theorem mp_X3_reasonAt : mpOk M_X3_reasonAt 2 := ⟨by decide +kernel, by decide +kernel, by decide +kernel⟩
theorem mv_X3_reasonAt : mvOk M_X3_reasonAt := ⟨tk2 (i := 104) (by decide +kernel) rfl, tk2 (i := 105) (by decide +kernel) rfl, tk1 (i := 2) (by decide +kernel) rfl, tk2 (i := 106) rfl rfl⟩
def M_X3_take : MM := (yX3_take, cX3_take, 4, none, [], 2, 43, 0, 0)
theorem mp_X3_take : mpOk M_X3_take 2 := ⟨by decide +kernel, by decide +kernel, by decide +kernel⟩
theorem mv_X3_take : mvOk M_X3_take := ⟨tk4 (i := 74) (by decide +kernel) rfl, tk4 (i := 75) (by decide +kernel) rfl, tk1 (i := 2) (by decide +kernel) rfl, tk4 (i := 76) rfl rfl⟩
def M_X4_record : MM := (yX4_record, cX4_record, 3, some .int, [], 8, 129, 3, 18)
theorem mp_X4_record : mpOk M_X4_record 2 := ⟨by decide +kernel, by decide +kernel, by decide +kernel⟩
theorem mv_X4_record : mvOk M_X4_record := ⟨tk4 (i := 69) (by decide +kernel) rfl, tk4 (i := 70) (by decide +kernel) rfl, tk1 (i := 1) (by decide +kernel) rfl, tk4 (i := 71) rfl rfl⟩
def M_L_record : MM := (yL_record, cL_record, 5, some .int, [(0, 10, 13, 13), (0, 10, 17, 17)], 9, 151, 3, 18)
theorem mp_L_record : mpOk M_L_record 4 := ⟨by decide +kernel, by decide +kernel, by decide +kernel⟩
theorem ms_L_record : msOk M_L_record := ⟨tk4 (i := 66) (by decide +kernel) rfl, tk1 (i := 0) (by decide +kernel) rfl, tk4 (i := 67) rfl rfl⟩
def M_X5_fitting : MM := (yX5_fitting, cX5_fitting, 3, some .boolean, [], 3, 65, 0, 0)
theorem mp_X5_fitting : mpOk M_X5_fitting 2 := ⟨by decide +kernel, by decide +kernel, by decide +kernel⟩
theorem mv_X5_fitting : mvOk M_X5_fitting := ⟨tk6 (i := 152) (by decide +kernel) rfl, pk (q := (yX5_fitting, 15)) (List.mem_of_getElem? (i := 40) (by decide +kernel)), tk1 (i := 6) (by decide +kernel) rfl, tk6 (i := 153) rfl rfl⟩
def M_X5_left : MM := (yX5_left, cX5_left, 3, some .int, [], 0, 0, 0, 0)
theorem mp_X5_left : mpOk M_X5_left 2 := ⟨by decide +kernel, by decide +kernel, by decide +kernel⟩
theorem mv_X5_left : mvOk M_X5_left := ⟨tk6 (i := 156) (by decide +kernel) rfl, pk (q := (yX5_left, 15)) (List.mem_of_getElem? (i := 41) (by decide +kernel)), tk1 (i := 6) (by decide +kernel) rfl, tk6 (i := 157) rfl rfl⟩
def M_X5_reason : MM := (yX5_reason, cX5_reason, 3, some .int, [], 4, 87, 0, 0)
theorem mp_X5_reason : mpOk M_X5_reason 2 := ⟨by decide +kernel, by decide +kernel, by decide +kernel⟩
theorem mv_X5_reason : mvOk M_X5_reason := ⟨tk6 (i := 148) (by decide +kernel) rfl, pk (q := (yX5_reason, 15)) (List.mem_of_getElem? (i := 39) (by decide +kernel)), tk1 (i := 6) (by decide +kernel) rfl, tk6 (i := 149) rfl rfl⟩
def M_X5_record : MM := (yX5_record, cX5_record, 4, some .int, [], 5, 109, 0, 0)
theorem mp_X5_record : mpOk M_X5_record 2 := ⟨by decide +kernel, by decide +kernel, by decide +kernel⟩
theorem mv_X5_record : mvOk M_X5_record := ⟨tk6 (i := 143) (by decide +kernel) rfl, tk6 (i := 144) (by decide +kernel) rfl, tk1 (i := 6) (by decide +kernel) rfl, tk6 (i := 145) rfl rfl⟩
def M_X4_checkTaken : MM := (yX4_checkTaken, cX4_checkTaken, 3, none, [], 6, 86, 1, 6)
theorem mp_X4_checkTaken : mpOk M_X4_checkTaken 2 := ⟨by decide +kernel, by decide +kernel, by decide +kernel⟩
theorem mv_X4_checkTaken : mvOk M_X4_checkTaken := ⟨tk4 (i := 86) (by decide +kernel) rfl, pk (q := (yX4_checkTaken, 6)) (List.mem_of_getElem? (i := 23) (by decide +kernel)), tk1 (i := 1) (by decide +kernel) rfl, tk4 (i := 87) rfl rfl⟩
def M_X3_takenIn : MM := (yX3_takenIn, cX3_takenIn, 3, some .int, [], 1, 21, 0, 0)
theorem mp_X3_takenIn : mpOk M_X3_takenIn 2 := ⟨by decide +kernel, by decide +kernel, by decide +kernel⟩
theorem mv_X3_takenIn : mvOk M_X3_takenIn := ⟨tk4 (i := 90) (by decide +kernel) rfl, tk4 (i := 91) (by decide +kernel) rfl, tk1 (i := 2) (by decide +kernel) rfl, tk4 (i := 92) rfl rfl⟩
def M_X3_dropTaken : MM := (yX3_dropTaken, cX3_dropTaken, 3, none, [], 2, 44, 0, 0)
theorem mp_X3_dropTaken : mpOk M_X3_dropTaken 2 := ⟨by decide +kernel, by decide +kernel, by decide +kernel⟩
theorem mv_X3_dropTaken : mvOk M_X3_dropTaken := ⟨tk4 (i := 94) (by decide +kernel) rfl, tk4 (i := 95) (by decide +kernel) rfl, tk1 (i := 2) (by decide +kernel) rfl, tk4 (i := 96) rfl rfl⟩
def M_X4_wipe : MM := (yX4_wipe, cX4_wipe, 4, some .int, [], 8, 129, 3, 18)
theorem mp_X4_wipe : mpOk M_X4_wipe 2 := ⟨by decide +kernel, by decide +kernel, by decide +kernel⟩
theorem mv_X4_wipe : mvOk M_X4_wipe := ⟨tk4 (i := 81) (by decide +kernel) rfl, tk4 (i := 82) (by decide +kernel) rfl, tk1 (i := 1) (by decide +kernel) rfl, tk4 (i := 83) rfl rfl⟩
def M_L_wipe : MM := (yL_wipe, cL_wipe, 5, some .int, [(0, 10, 13, 13), (0, 10, 17, 17)], 9, 152, 3, 18)
theorem mp_L_wipe : mpOk M_L_wipe 4 := ⟨by decide +kernel, by decide +kernel, by decide +kernel⟩
theorem ms_L_wipe : msOk M_L_wipe := ⟨tk4 (i := 78) (by decide +kernel) rfl, tk1 (i := 0) (by decide +kernel) rfl, tk4 (i := 79) rfl rfl⟩
def M_X5_wipe : MM := (yX5_wipe, cX5_wipe, 4, some .int, [], 3, 65, 0, 0)
theorem mp_X5_wipe : mpOk M_X5_wipe 2 := ⟨by decide +kernel, by decide +kernel, by decide +kernel⟩
theorem mv_X5_wipe : mvOk M_X5_wipe := ⟨tk6 (i := 159) (by decide +kernel) rfl, tk6 (i := 160) (by decide +kernel) rfl, tk1 (i := 6) (by decide +kernel) rfl, tk6 (i := 161) rfl rfl⟩
def M_X3_beginSession : MM := (yX3_beginSession, cX3_beginSession, 2, none, [], 0, 0, 0, 0)
theorem mp_X3_beginSession : mpOk M_X3_beginSession 0 := ⟨by decide +kernel, by decide +kernel, by decide +kernel⟩
theorem mv_X3_beginSession : mvOk M_X3_beginSession := ⟨tk4 (i := 106) (by decide +kernel) rfl, tk4 (i := 107) (by decide +kernel) rfl, tk1 (i := 2) (by decide +kernel) rfl, tk4 (i := 108) rfl rfl⟩
def M_X4_nextSession : MM := (yX4_nextSession, cX4_nextSession, 1, some .int, [], 6, 94, 1, 6)
theorem mp_X4_nextSession : mpOk M_X4_nextSession 0 := ⟨by decide +kernel, by decide +kernel, by decide +kernel⟩
theorem mv_X4_nextSession : mvOk M_X4_nextSession := ⟨tk4 (i := 101) (by decide +kernel) rfl, tk4 (i := 102) (by decide +kernel) rfl, tk1 (i := 1) (by decide +kernel) rfl, tk4 (i := 103) rfl rfl⟩
def M_L_nextSession : MM := (yL_nextSession, cL_nextSession, 3, some .int, [(0, 8, 11, 17)], 7, 114, 1, 6)
theorem mp_L_nextSession : mpOk M_L_nextSession 2 := ⟨by decide +kernel, by decide +kernel, by decide +kernel⟩
theorem ms_L_nextSession : msOk M_L_nextSession := ⟨tk4 (i := 98) (by decide +kernel) rfl, tk1 (i := 0) (by decide +kernel) rfl, tk4 (i := 99) rfl rfl⟩
def M_X5_nextSession : MM := (yX5_nextSession, cX5_nextSession, 2, some .int, [], 1, 21, 0, 0)
theorem mp_X5_nextSession : mpOk M_X5_nextSession 0 := ⟨by decide +kernel, by decide +kernel, by decide +kernel⟩
theorem mv_X5_nextSession : mvOk M_X5_nextSession := ⟨tk6 (i := 163) (by decide +kernel) rfl, tk6 (i := 164) (by decide +kernel) rfl, tk1 (i := 6) (by decide +kernel) rfl, tk6 (i := 165) rfl rfl⟩
def M_X3_putMix : MM := (yX3_putMix, cX3_putMix, 3, none, [], 1, 22, 0, 0)
theorem mp_X3_putMix : mpOk M_X3_putMix 2 := ⟨by decide +kernel, by decide +kernel, by decide +kernel⟩
theorem mv_X3_putMix : mvOk M_X3_putMix := ⟨tk4 (i := 118) (by decide +kernel) rfl, tk4 (i := 119) (by decide +kernel) rfl, tk1 (i := 2) (by decide +kernel) rfl, tk4 (i := 120) rfl rfl⟩
def M_X3_silenceIn : MM := (yX3_silenceIn, cX3_silenceIn, 5, some .int, [], 3, 65, 0, 0)
theorem mp_X3_silenceIn : mpOk M_X3_silenceIn 2 := ⟨by decide +kernel, by decide +kernel, by decide +kernel⟩
theorem mv_X3_silenceIn : mvOk M_X3_silenceIn := ⟨tk4 (i := 122) (by decide +kernel) rfl, tk4 (i := 123) (by decide +kernel) rfl, tk1 (i := 2) (by decide +kernel) rfl, tk4 (i := 124) rfl rfl⟩
def M_X4_mix : MM := (yX4_mix, cX4_mix, 3, some .int, [], 7, 106, 3, 18)
theorem mp_X4_mix : mpOk M_X4_mix 2 := ⟨by decide +kernel, by decide +kernel, by decide +kernel⟩
theorem mv_X4_mix : mvOk M_X4_mix := ⟨tk4 (i := 113) (by decide +kernel) rfl, tk4 (i := 114) (by decide +kernel) rfl, tk1 (i := 1) (by decide +kernel) rfl, tk4 (i := 115) rfl rfl⟩
def M_L_mix : MM := (yL_mix, cL_mix, 5, some .int, [(0, 10, 13, 13), (0, 10, 17, 17)], 8, 128, 3, 18)
theorem mp_L_mix : mpOk M_L_mix 4 := ⟨by decide +kernel, by decide +kernel, by decide +kernel⟩
theorem ms_L_mix : msOk M_L_mix := ⟨tk4 (i := 110) (by decide +kernel) rfl, tk1 (i := 0) (by decide +kernel) rfl, tk4 (i := 111) rfl rfl⟩
def M_X5_isPlace : MM := (yX5_isPlace, cX5_isPlace, 2, some .boolean, [], 2, 42, 0, 0)
theorem mp_X5_isPlace : mpOk M_X5_isPlace 2 := ⟨by decide +kernel, by decide +kernel, by decide +kernel⟩
theorem ms_X5_isPlace : msOk M_X5_isPlace := ⟨tk6 (i := 171) (by decide +kernel) rfl, tk1 (i := 6) (by decide +kernel) rfl, tk6 (i := 172) rfl rfl⟩
def M_X5_mixed : MM := (yX5_mixed, cX5_mixed, 3, some .boolean, [], 0, 0, 0, 0)
theorem mp_X5_mixed : mpOk M_X5_mixed 2 := ⟨by decide +kernel, by decide +kernel, by decide +kernel⟩
theorem mv_X5_mixed : mvOk M_X5_mixed := ⟨tk6 (i := 175) (by decide +kernel) rfl, pk (q := (yX5_mixed, 15)) (List.mem_of_getElem? (i := 42) (by decide +kernel)), tk1 (i := 6) (by decide +kernel) rfl, tk6 (i := 176) rfl rfl⟩
def M_X5_complete : MM := (yX5_complete, cX5_complete, 7, some .boolean, [], 2, 43, 0, 0)
theorem mp_X5_complete : mpOk M_X5_complete 2 := ⟨by decide +kernel, by decide +kernel, by decide +kernel⟩
theorem mv_X5_complete : mvOk M_X5_complete := ⟨tk6 (i := 179) (by decide +kernel) rfl, pk (q := (yX5_complete, 15)) (List.mem_of_getElem? (i := 43) (by decide +kernel)), tk1 (i := 6) (by decide +kernel) rfl, tk6 (i := 180) rfl rfl⟩
def M_X5_mix : MM := (yX5_mix, cX5_mix, 5, some .int, [], 3, 69, 0, 0)
theorem mp_X5_mix : mpOk M_X5_mix 2 := ⟨by decide +kernel, by decide +kernel, by decide +kernel⟩
theorem mv_X5_mix : mvOk M_X5_mix := ⟨tk6 (i := 167) (by decide +kernel) rfl, tk6 (i := 168) (by decide +kernel) rfl, tk1 (i := 6) (by decide +kernel) rfl, tk6 (i := 169) rfl rfl⟩
def M_X3_putSignature : MM := (yX3_putSignature, cX3_putSignature, 5, none, [], 1, 22, 0, 0)
theorem mp_X3_putSignature : mpOk M_X3_putSignature 3 := ⟨by decide +kernel, by decide +kernel, by decide +kernel⟩
theorem mv_X3_putSignature : mvOk M_X3_putSignature := ⟨tk4 (i := 136) (by decide +kernel) rfl, tk4 (i := 137) (by decide +kernel) rfl, tk1 (i := 2) (by decide +kernel) rfl, tk4 (i := 138) rfl rfl⟩
def M_X4_sign : MM := (yX4_sign, cX4_sign, 4, some .int, [], 7, 106, 4, 24)
theorem mp_X4_sign : mpOk M_X4_sign 3 := ⟨by decide +kernel, by decide +kernel, by decide +kernel⟩
theorem mv_X4_sign : mvOk M_X4_sign := ⟨tk4 (i := 129) (by decide +kernel) rfl, tk4 (i := 130) (by decide +kernel) rfl, tk1 (i := 1) (by decide +kernel) rfl, tk4 (i := 131) rfl rfl⟩
def M_L_sign : MM := (yL_sign, cL_sign, 6, some .int, [(0, 12, 15, 13), (0, 12, 19, 17)], 8, 129, 4, 24)
theorem mp_L_sign : mpOk M_L_sign 5 := ⟨by decide +kernel, by decide +kernel, by decide +kernel⟩
theorem ms_L_sign : msOk M_L_sign := ⟨tk4 (i := 126) (by decide +kernel) rfl, tk1 (i := 0) (by decide +kernel) rfl, tk4 (i := 127) rfl rfl⟩
def M_X5_speaks : MM := (yX5_speaks, cX5_speaks, 5, some .boolean, [], 1, 21, 0, 0)
theorem mp_X5_speaks : mpOk M_X5_speaks 2 := ⟨by decide +kernel, by decide +kernel, by decide +kernel⟩
theorem mv_X5_speaks : mvOk M_X5_speaks := ⟨tk6 (i := 187) (by decide +kernel) rfl, pk (q := (yX5_speaks, 15)) (List.mem_of_getElem? (i := 44) (by decide +kernel)), tk1 (i := 6) (by decide +kernel) rfl, tk6 (i := 188) rfl rfl⟩
def M_X5_signed : MM := (yX5_signed, cX5_signed, 4, some .boolean, [], 0, 0, 0, 0)
theorem mp_X5_signed : mpOk M_X5_signed 3 := ⟨by decide +kernel, by decide +kernel, by decide +kernel⟩
theorem mv_X5_signed : mvOk M_X5_signed := ⟨tk6 (i := 191) (by decide +kernel) rfl, pk (q := (yX5_signed, 15)) (List.mem_of_getElem? (i := 45) (by decide +kernel)), tk1 (i := 6) (by decide +kernel) rfl, tk6 (i := 192) rfl rfl⟩
def M_X5_missing : MM := (yX5_missing, cX5_missing, 5, some .int, [], 2, 45, 0, 0)
theorem mp_X5_missing : mpOk M_X5_missing 2 := ⟨by decide +kernel, by decide +kernel, by decide +kernel⟩
theorem mv_X5_missing : mvOk M_X5_missing := ⟨tk6 (i := 195) (by decide +kernel) rfl, pk (q := (yX5_missing, 15)) (List.mem_of_getElem? (i := 46) (by decide +kernel)), tk1 (i := 6) (by decide +kernel) rfl, tk6 (i := 196) rfl rfl⟩
def M_X5_sign : MM := (yX5_sign, cX5_sign, 4, some .int, [], 3, 69, 0, 0)
theorem mp_X5_sign : mpOk M_X5_sign 3 := ⟨by decide +kernel, by decide +kernel, by decide +kernel⟩
theorem mv_X5_sign : mvOk M_X5_sign := ⟨tk6 (i := 182) (by decide +kernel) rfl, tk6 (i := 183) (by decide +kernel) rfl, tk1 (i := 6) (by decide +kernel) rfl, tk6 (i := 184) rfl rfl⟩
def M_X5_append : MM := (yX5_append, cX5_append, 2, some .int, [], 1, 22, 0, 0)
theorem mp_X5_append : mpOk M_X5_append 1 := ⟨by decide +kernel, by decide +kernel, by decide +kernel⟩
theorem mv_X5_append : mvOk M_X5_append := ⟨tk6 (i := 198) (by decide +kernel) rfl, tk6 (i := 199) (by decide +kernel) rfl, tk1 (i := 6) (by decide +kernel) rfl, tk6 (i := 200) rfl rfl⟩
def M_X4_clearBuffer : MM := (yX4_clearBuffer, cX4_clearBuffer, 2, some .int, [], 0, 0, 0, 0)
theorem mp_X4_clearBuffer : mpOk M_X4_clearBuffer 0 := ⟨by decide +kernel, by decide +kernel, by decide +kernel⟩
theorem mv_X4_clearBuffer : mvOk M_X4_clearBuffer := ⟨tk1 (i := 187) (by decide +kernel) rfl, tk1 (i := 188) (by decide +kernel) rfl, tk1 (i := 1) (by decide +kernel) rfl, tk1 (i := 189) rfl rfl⟩
def M_X5_clearBuffer : MM := (yX5_clearBuffer, cX5_clearBuffer, 2, some .int, [], 0, 0, 0, 0)
theorem mp_X5_clearBuffer : mpOk M_X5_clearBuffer 0 := ⟨by decide +kernel, by decide +kernel, by decide +kernel⟩
theorem mv_X5_clearBuffer : mvOk M_X5_clearBuffer := ⟨tk6 (i := 202) (by decide +kernel) rfl, tk6 (i := 203) (by decide +kernel) rfl, tk1 (i := 6) (by decide +kernel) rfl, tk6 (i := 204) rfl rfl⟩
def M_X0_acceptsReel : MM := (yX0_acceptsReel, cX0_acceptsReel, 2, some .boolean, [], 1, 22, 0, 0)
theorem mp_X0_acceptsReel : mpOk M_X0_acceptsReel 1 := ⟨by decide +kernel, by decide +kernel, by decide +kernel⟩
theorem mv_X0_acceptsReel : mvOk M_X0_acceptsReel := ⟨tk1 (i := 207) (by decide +kernel) rfl, pk (q := (yX0_acceptsReel, 8)) (List.mem_of_getElem? (i := 1) (by decide +kernel)), tk1 (i := 4) (by decide +kernel) rfl, tk1 (i := 208) rfl rfl⟩
def M_X0_acceptsSpeaker : MM := (yX0_acceptsSpeaker, cX0_acceptsSpeaker, 2, some .boolean, [], 1, 22, 0, 0)
theorem mp_X0_acceptsSpeaker : mpOk M_X0_acceptsSpeaker 1 := ⟨by decide +kernel, by decide +kernel, by decide +kernel⟩
theorem mv_X0_acceptsSpeaker : mvOk M_X0_acceptsSpeaker := ⟨tk1 (i := 214) (by decide +kernel) rfl, pk (q := (yX0_acceptsSpeaker, 8)) (List.mem_of_getElem? (i := 2) (by decide +kernel)), tk1 (i := 4) (by decide +kernel) rfl, tk1 (i := 215) rfl rfl⟩
def M_X0_acceptsDigit : MM := (yX0_acceptsDigit, cX0_acceptsDigit, 5, some .boolean, [], 1, 22, 0, 0)
theorem mp_X0_acceptsDigit : mpOk M_X0_acceptsDigit 3 := ⟨by decide +kernel, by decide +kernel, by decide +kernel⟩
theorem mv_X0_acceptsDigit : mvOk M_X0_acceptsDigit := ⟨tk1 (i := 222) (by decide +kernel) rfl, pk (q := (yX0_acceptsDigit, 8)) (List.mem_of_getElem? (i := 4) (by decide +kernel)), tk1 (i := 4) (by decide +kernel) rfl, tk1 (i := 223) rfl rfl⟩
def M_X0_acceptsEnd : MM := (yX0_acceptsEnd, cX0_acceptsEnd, 2, some .boolean, [], 0, 0, 0, 0)
theorem mp_X0_acceptsEnd : mpOk M_X0_acceptsEnd 1 := ⟨by decide +kernel, by decide +kernel, by decide +kernel⟩
theorem mv_X0_acceptsEnd : mvOk M_X0_acceptsEnd := ⟨tk1 (i := 226) (by decide +kernel) rfl, pk (q := (yX0_acceptsEnd, 8)) (List.mem_of_getElem? (i := 5) (by decide +kernel)), tk1 (i := 4) (by decide +kernel) rfl, tk1 (i := 227) rfl rfl⟩
def M_X0_acceptsLips : MM := (yX0_acceptsLips, cX0_acceptsLips, 2, some .boolean, [], 2, 46, 0, 0)
theorem mp_X0_acceptsLips : mpOk M_X0_acceptsLips 1 := ⟨by decide +kernel, by decide +kernel, by decide +kernel⟩
end XM23
