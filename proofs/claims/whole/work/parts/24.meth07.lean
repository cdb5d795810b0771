/-! the methods: their rows, and what the tables say of them -/
section XM27
def M_X4_mix : MM := (yX4_mix, cX4_mix, 3, some .int, [], 7, 106, 3, 18)
theorem mp_X4_mix : mpOk M_X4_mix 2 := ⟨by decide +kernel, by decide +kernel, by decide +kernel⟩
theorem mv_X4_mix : mvOk M_X4_mix := ⟨tk4 (i := 113) (by decide +kernel) rfl, tk4 (i := 114) (by decide +kernel) rfl, tk1 (i := 1) (by decide +kernel) rfl, tk4 (i := 115) (by decide +kernel) rfl⟩
def M_L_mix : MM := (yL_mix, cL_mix, 5, some .int, [(0, 10, 13, 13), (0, 10, 17, 17)], 8, 128, 3, 18)
theorem mp_L_mix : mpOk M_L_mix 4 := ⟨by decide +kernel, by decide +kernel, by decide +kernel⟩
theorem ms_L_mix : msOk M_L_mix := ⟨tk4 (i := 110) (by decide +kernel) rfl, tk1 (i := 0) (by decide +kernel) rfl, tk4 (i := 111) (by decide +kernel) rfl⟩
def M_X5_isPlace : MM := (yX5_isPlace, cX5_isPlace, 2, some .boolean, [], 2, 42, 0, 0)
theorem mp_X5_isPlace : mpOk M_X5_isPlace 2 := ⟨by decide +kernel, by decide +kernel, by decide +kernel⟩
theorem ms_X5_isPlace : msOk M_X5_isPlace := ⟨tk6 (i := 171) (by decide +kernel) rfl, tk1 (i := 6) (by decide +kernel) rfl, tk6 (i := 172) (by decide +kernel) rfl⟩
def M_X5_mixed : MM := (yX5_mixed, cX5_mixed, 3, some .boolean, [], 0, 0, 0, 0)
theorem mp_X5_mixed : mpOk M_X5_mixed 2 := ⟨by decide +kernel, by decide +kernel, by decide +kernel⟩
theorem mv_X5_mixed : mvOk M_X5_mixed := ⟨tk6 (i := 175) (by decide +kernel) rfl, pk (q := (yX5_mixed, 15)) (List.mem_of_getElem? (i := 42) (by decide +kernel)), tk1 (i := 6) (by decide +kernel) rfl, tk6 (i := 176) (by decide +kernel) rfl⟩
def M_X5_complete : MM := (yX5_complete, cX5_complete, 7, some .boolean, [], 2, 43, 0, 0)
theorem mp_X5_complete : mpOk M_X5_complete 2 := ⟨by decide +kernel, by decide +kernel, by decide +kernel⟩
theorem mv_X5_complete : mvOk M_X5_complete := ⟨tk6 (i := 179) (by decide +kernel) rfl, pk (q := (yX5_complete, 15)) (List.mem_of_getElem? (i := 43) (by decide +kernel)), tk1 (i := 6) (by decide +kernel) rfl, tk6 (i := 180) (by decide +kernel) rfl⟩
def M_X5_mix : MM := (yX5_mix, cX5_mix, 5, some .int, [], 3, 69, 0, 0)
theorem mp_X5_mix : mpOk M_X5_mix 2 := ⟨by decide +kernel, by decide +kernel, by decide +kernel⟩
theorem mv_X5_mix : mvOk M_X5_mix := ⟨tk6 (i := 167) (by decide +kernel) rfl, tk6 (i := 168) (by decide +kernel) rfl, tk1 (i := 6) (by decide +kernel) rfl, tk6 (i := 169) (by decide +kernel) rfl⟩
def M_X3_putSignature : MM := (yX3_putSignature, cX3_putSignature, 5, none, [], 1, 22, 0, 0)
theorem mp_X3_putSignature : mpOk M_X3_putSignature 3 := ⟨by decide +kernel, by decide +kernel, by decide +kernel⟩
theorem mv_X3_putSignature : mvOk M_X3_putSignature := ⟨tk4 (i := 136) (by decide +kernel) rfl, tk4 (i := 137) (by decide +kernel) rfl, tk1 (i := 2) (by decide +kernel) rfl, tk4 (i := 138) (by decide +kernel) rfl⟩
def M_X4_sign : MM := (yX4_sign, cX4_sign, 4, some .int, [], 7, 106, 4, 24)
theorem mp_X4_sign : mpOk M_X4_sign 3 := ⟨by decide +kernel, by decide +kernel, by decide +kernel⟩
theorem mv_X4_sign : mvOk M_X4_sign := ⟨tk4 (i := 129) (by decide +kernel) rfl, tk4 (i := 130) (by decide +kernel) rfl, tk1 (i := 1) (by decide +kernel) rfl, tk4 (i := 131) (by decide +kernel) rfl⟩
def M_L_sign : MM := (yL_sign, cL_sign, 6, some .int, [(0, 12, 15, 13), (0, 12, 19, 17)], 8, 129, 4, 24)
theorem mp_L_sign : mpOk M_L_sign 5 := ⟨by decide +kernel, by decide +kernel, by decide +kernel⟩
theorem ms_L_sign : msOk M_L_sign := ⟨tk4 (i := 126) (by decide +kernel) rfl, tk1 (i := 0) (by decide +kernel) rfl, tk4 (i := 127) (by decide +kernel) rfl⟩
def M_X5_speaks : MM := (yX5_speaks, cX5_speaks, 5, some .boolean, [], 1, 21, 0, 0)
theorem mp_X5_speaks : mpOk M_X5_speaks 2 := ⟨by decide +kernel, by decide +kernel, by decide +kernel⟩
theorem mv_X5_speaks : mvOk M_X5_speaks := ⟨tk6 (i := 187) (by decide +kernel) rfl, pk (q := (yX5_speaks, 15)) (List.mem_of_getElem? (i := 44) (by decide +kernel)), tk1 (i := 6) (by decide +kernel) rfl, tk6 (i := 188) (by decide +kernel) rfl⟩
def M_X5_signed : MM := (yX5_signed, cX5_signed, 4, some .boolean, [], 0, 0, 0, 0)
theorem mp_X5_signed : mpOk M_X5_signed 3 := ⟨by decide +kernel, by decide +kernel, by decide +kernel⟩
theorem mv_X5_signed : mvOk M_X5_signed := ⟨tk6 (i := 191) (by decide +kernel) rfl, pk (q := (yX5_signed, 15)) (List.mem_of_getElem? (i := 45) (by decide +kernel)), tk1 (i := 6) (by decide +kernel) rfl, tk6 (i := 192) (by decide +kernel) rfl⟩
def M_X5_missing : MM := (yX5_missing, cX5_missing, 5, some .int, [], 2, 45, 0, 0)
theorem mp_X5_missing : mpOk M_X5_missing 2 := ⟨by decide +kernel, by decide +kernel, by decide +kernel⟩
theorem mv_X5_missing : mvOk M_X5_missing := ⟨tk6 (i := 195) (by decide +kernel) rfl, pk (q := (yX5_missing, 15)) (List.mem_of_getElem? (i := 46) (by decide +kernel)), tk1 (i := 6) (by decide +kernel) rfl, tk6 (i := 196) (by decide +kernel) rfl⟩
def M_X5_sign : MM := (yX5_sign, cX5_sign, 4, some .int, [], 3, 69, 0, 0)
theorem mp_X5_sign : mpOk M_X5_sign 3 := ⟨by decide +kernel, by decide +kernel, by decide +kernel⟩
theorem mv_X5_sign : mvOk M_X5_sign := ⟨tk6 (i := 182) (by decide +kernel) rfl, tk6 (i := 183) (by decide +kernel) rfl, tk1 (i := 6) (by decide +kernel) rfl, tk6 (i := 184) (by decide +kernel) rfl⟩
def M_X5_append : MM := (yX5_append, cX5_append, 2, some .int, [], 1, 22, 0, 0)
theorem mp_X5_append : mpOk M_X5_append 1 := ⟨by decide +kernel, by decide +kernel, by decide +kernel⟩
theorem mv_X5_append : mvOk M_X5_append := ⟨tk6 (i := 198) (by decide +kernel) rfl, tk6 (i := 199) (by decide +kernel) rfl, tk1 (i := 6) (by decide +kernel) rfl, tk6 (i := 200) (by decide +kernel) rfl⟩
def M_X4_clearBuffer : MM := (yX4_clearBuffer, cX4_clearBuffer, 2, some .int, [], 0, 0, 0, 0)
theorem mp_X4_clearBuffer : mpOk M_X4_clearBuffer 0 := ⟨by decide +kernel, by decide +kernel, by decide +kernel⟩
theorem mv_X4_clearBuffer : mvOk M_X4_clearBuffer := ⟨tk1 (i := 187) (by decide +kernel) rfl, tk1 (i := 188) (by decide +kernel) rfl, tk1 (i := 1) (by decide +kernel) rfl, tk1 (i := 189) (by decide +kernel) rfl⟩
def M_X5_clearBuffer : MM := (yX5_clearBuffer, cX5_clearBuffer, 2, some .int, [], 0, 0, 0, 0)
theorem mp_X5_clearBuffer : mpOk M_X5_clearBuffer 0 := ⟨by decide +kernel, by decide +kernel, by decide +kernel⟩
theorem mv_X5_clearBuffer : mvOk M_X5_clearBuffer := ⟨tk6 (i := 202) (by decide +kernel) rfl, tk6 (i := 203) (by decide +kernel) rfl, tk1 (i := 6) (by decide +kernel) rfl, tk6 (i := 204) (by decide +kernel) rfl⟩
def M_X0_acceptsReel : MM := (yX0_acceptsReel, cX0_acceptsReel, 2, some .boolean, [], 1, 22, 0, 0)
theorem mp_X0_acceptsReel : mpOk M_X0_acceptsReel 1 := ⟨by decide +kernel, by decide +kernel, by decide +kernel⟩
theorem mv_X0_acceptsReel : mvOk M_X0_acceptsReel := ⟨tk1 (i := 207) (by decide +kernel) rfl, pk (q := (yX0_acceptsReel, 8)) (List.mem_of_getElem? (i := 1) (by decide +kernel)), tk1 (i := 4) (by decide +kernel) rfl, tk1 (i := 208) (by decide +kernel) rfl⟩
def M_X0_acceptsSpeaker : MM := (yX0_acceptsSpeaker, cX0_acceptsSpeaker, 2, some .boolean, [], 1, 22, 0, 0)
theorem mp_X0_acceptsSpeaker : mpOk M_X0_acceptsSpeaker 1 := ⟨by decide +kernel, by decide +kernel, by decide +kernel⟩
theorem mv_X0_acceptsSpeaker : mvOk M_X0_acceptsSpeaker := ⟨tk1 (i := 214) (by decide +kernel) rfl, pk (q := (yX0_acceptsSpeaker, 8)) (List.mem_of_getElem? (i := 2) (by decide +kernel)), tk1 (i := 4) (by decide +kernel) rfl, tk1 (i := 215) (by decide +kernel) rfl⟩
def M_X0_acceptsDigit : MM := (yX0_acceptsDigit, cX0_acceptsDigit, 5, some .boolean, [], 1, 22, 0, 0)
theorem mp_X0_acceptsDigit : mpOk M_X0_acceptsDigit 3 := ⟨by decide +kernel, by decide +kernel, by decide +kernel⟩
theorem mv_X0_acceptsDigit : mvOk M_X0_acceptsDigit := ⟨tk1 (i := 222) (by decide +kernel) rfl, pk (q := (yX0_acceptsDigit, 8)) (List.mem_of_getElem? (i := 4) (by decide +kernel)), tk1 (i := 4) (by decide +kernel) rfl, tk1 (i := 223) (by decide +kernel) rfl⟩
def M_X0_acceptsEnd : MM := (yX0_acceptsEnd, cX0_acceptsEnd, 2, some .boolean, [], 0, 0, 0, 0)
theorem mp_X0_acceptsEnd : mpOk M_X0_acceptsEnd 1 := ⟨by decide +kernel, by decide +kernel, by decide +kernel⟩
theorem mv_X0_acceptsEnd : mvOk M_X0_acceptsEnd := ⟨tk1 (i := 226) (by decide +kernel) rfl, pk (q := (yX0_acceptsEnd, 8)) (List.mem_of_getElem? (i := 5) (by decide +kernel)), tk1 (i := 4) (by decide +kernel) rfl, tk1 (i := 227) (by decide +kernel) rfl⟩
def M_X0_acceptsLips : MM := (yX0_acceptsLips, cX0_acceptsLips, 2, some .boolean, [], 2, 46, 0, 0)
theorem mp_X0_acceptsLips : mpOk M_X0_acceptsLips 1 := ⟨by decide +kernel, by decide +kernel, by decide +kernel⟩
theorem mv_X0_acceptsLips : mvOk M_X0_acceptsLips := ⟨tk1 (i := 218) (by decide +kernel) rfl, pk (q := (yX0_acceptsLips, 8)) (List.mem_of_getElem? (i := 3) (by decide +kernel)), tk1 (i := 4) (by decide +kernel) rfl, tk1 (i := 219) (by decide +kernel) rfl⟩
def M_X0_acceptsSigh : MM := (yX0_acceptsSigh, cX0_acceptsSigh, 2, some .boolean, [], 2, 46, 0, 0)
theorem mp_X0_acceptsSigh : mpOk M_X0_acceptsSigh 1 := ⟨by decide +kernel, by decide +kernel, by decide +kernel⟩
theorem mv_X0_acceptsSigh : mvOk M_X0_acceptsSigh := ⟨tk1 (i := 230) (by decide +kernel) rfl, pk (q := (yX0_acceptsSigh, 8)) (List.mem_of_getElem? (i := 6) (by decide +kernel)), tk1 (i := 4) (by decide +kernel) rfl, tk1 (i := 231) (by decide +kernel) rfl⟩
end XM27
