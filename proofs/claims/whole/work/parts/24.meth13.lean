/-! the methods: their rows, and what the tables say of them -/
section XM213
def M_X3_readyTotal : MM := (yX3_readyTotal, cX3_readyTotal, 4, some .int, [], 3, 66, 0, 0)
theorem mp_X3_readyTotal : mpOk M_X3_readyTotal 1 := ⟨by decide +kernel, by decide +kernel, by decide +kernel⟩
theorem mv_X3_readyTotal : mvOk M_X3_readyTotal := ⟨tk3 (i := 8) (by decide +kernel) rfl, tk3 (i := 9) (by decide +kernel) rfl, tk1 (i := 2) (by decide +kernel) rfl, tk3 (i := 10) (by decide +kernel) rfl⟩
def M_X4_readyByClauses : MM := (yX4_readyByClauses, cX4_readyByClauses, 2, some .int, [], 7, 106, 1, 6)
theorem mp_X4_readyByClauses : mpOk M_X4_readyByClauses 1 := ⟨by decide +kernel, by decide +kernel, by decide +kernel⟩
theorem mv_X4_readyByClauses : mvOk M_X4_readyByClauses := ⟨tk5 (i := 169) (by decide +kernel) rfl, tk5 (i := 170) (by decide +kernel) rfl, tk1 (i := 1) (by decide +kernel) rfl, tk5 (i := 171) (by decide +kernel) rfl⟩
def M_L_readyByClauses : MM := (yL_readyByClauses, cL_readyByClauses, 4, some .int, [(0, 9, 12, 13)], 8, 127, 1, 6)
theorem mp_L_readyByClauses : mpOk M_L_readyByClauses 3 := ⟨by decide +kernel, by decide +kernel, by decide +kernel⟩
theorem ms_L_readyByClauses : msOk M_L_readyByClauses := ⟨tk5 (i := 166) (by decide +kernel) rfl, tk1 (i := 0) (by decide +kernel) rfl, tk5 (i := 167) (by decide +kernel) rfl⟩
def M_X5_ready : MM := (yX5_ready, cX5_ready, 4, some .int, [], 6, 132, 0, 0)
theorem mp_X5_ready : mpOk M_X5_ready 1 := ⟨by decide +kernel, by decide +kernel, by decide +kernel⟩
theorem mv_X5_ready : mvOk M_X5_ready := ⟨tk7 (i := 187) (by decide +kernel) rfl, pk (q := (yX5_ready, 15)) (List.mem_of_getElem? (i := 66) (by decide +kernel)), tk1 (i := 6) (by decide +kernel) rfl, tk7 (i := 188) (by decide +kernel) rfl⟩
def M_X5_readyByClauses : MM := (yX5_readyByClauses, cX5_readyByClauses, 2, some .int, [], 7, 155, 0, 0)
theorem mp_X5_readyByClauses : mpOk M_X5_readyByClauses 1 := ⟨by decide +kernel, by decide +kernel, by decide +kernel⟩
theorem mv_X5_readyByClauses : mvOk M_X5_readyByClauses := ⟨tk7 (i := 182) (by decide +kernel) rfl, tk7 (i := 183) (by decide +kernel) rfl, tk1 (i := 6) (by decide +kernel) rfl, tk7 (i := 184) (by decide +kernel) rfl⟩
def M_X3_readyOfVoice : MM := (yX3_readyOfVoice, cX3_readyOfVoice, 5, some .int, [], 3, 66, 0, 0)
theorem mp_X3_readyOfVoice : mpOk M_X3_readyOfVoice 2 := ⟨by decide +kernel, by decide +kernel, by decide +kernel⟩
theorem mv_X3_readyOfVoice : mvOk M_X3_readyOfVoice := ⟨tk3 (i := 17) (by decide +kernel) rfl, pk (q := (yX3_readyOfVoice, 16)) (List.mem_of_getElem? (i := 14) (by decide +kernel)), tk1 (i := 2) (by decide +kernel) rfl, tk3 (i := 18) (by decide +kernel) rfl⟩
def M_X3_readyOfAllVoices : MM := (yX3_readyOfAllVoices, cX3_readyOfAllVoices, 4, some .int, [], 4, 90, 0, 0)
theorem mp_X3_readyOfAllVoices : mpOk M_X3_readyOfAllVoices 1 := ⟨by decide +kernel, by decide +kernel, by decide +kernel⟩
theorem mv_X3_readyOfAllVoices : mvOk M_X3_readyOfAllVoices := ⟨tk3 (i := 12) (by decide +kernel) rfl, tk3 (i := 13) (by decide +kernel) rfl, tk1 (i := 2) (by decide +kernel) rfl, tk3 (i := 14) (by decide +kernel) rfl⟩
def M_X4_readyByVoices : MM := (yX4_readyByVoices, cX4_readyByVoices, 2, some .int, [], 7, 113, 1, 6)
theorem mp_X4_readyByVoices : mpOk M_X4_readyByVoices 1 := ⟨by decide +kernel, by decide +kernel, by decide +kernel⟩
theorem mv_X4_readyByVoices : mvOk M_X4_readyByVoices := ⟨tk5 (i := 176) (by decide +kernel) rfl, tk5 (i := 177) (by decide +kernel) rfl, tk1 (i := 1) (by decide +kernel) rfl, tk5 (i := 178) (by decide +kernel) rfl⟩
def M_L_readyByVoices : MM := (yL_readyByVoices, cL_readyByVoices, 4, some .int, [(0, 9, 12, 13)], 8, 134, 1, 6)
theorem mp_L_readyByVoices : mpOk M_L_readyByVoices 3 := ⟨by decide +kernel, by decide +kernel, by decide +kernel⟩
theorem ms_L_readyByVoices : msOk M_L_readyByVoices := ⟨tk5 (i := 173) (by decide +kernel) rfl, tk1 (i := 0) (by decide +kernel) rfl, tk5 (i := 174) (by decide +kernel) rfl⟩
def M_X5_readyByVoices : MM := (yX5_readyByVoices, cX5_readyByVoices, 2, some .int, [], 7, 155, 0, 0)
theorem mp_X5_readyByVoices : mpOk M_X5_readyByVoices 1 := ⟨by decide +kernel, by decide +kernel, by decide +kernel⟩
theorem mv_X5_readyByVoices : mvOk M_X5_readyByVoices := ⟨tk7 (i := 190) (by decide +kernel) rfl, tk7 (i := 191) (by decide +kernel) rfl, tk1 (i := 6) (by decide +kernel) rfl, tk7 (i := 192) (by decide +kernel) rfl⟩
def M_X5_ratified : MM := (yX5_ratified, cX5_ratified, 4, some .boolean, [], 3, 69, 0, 0)
theorem mp_X5_ratified : mpOk M_X5_ratified 1 := ⟨by decide +kernel, by decide +kernel, by decide +kernel⟩
theorem mv_X5_ratified : mvOk M_X5_ratified := ⟨tk7 (i := 199) (by decide +kernel) rfl, pk (q := (yX5_ratified, 15)) (List.mem_of_getElem? (i := 67) (by decide +kernel)), tk1 (i := 6) (by decide +kernel) rfl, tk7 (i := 200) (by decide +kernel) rfl⟩
def M_X5_isRatified : MM := (yX5_isRatified, cX5_isRatified, 2, some .boolean, [], 4, 92, 0, 0)
theorem mp_X5_isRatified : mpOk M_X5_isRatified 1 := ⟨by decide +kernel, by decide +kernel, by decide +kernel⟩
theorem mv_X5_isRatified : mvOk M_X5_isRatified := ⟨tk7 (i := 194) (by decide +kernel) rfl, tk7 (i := 195) (by decide +kernel) rfl, tk1 (i := 6) (by decide +kernel) rfl, tk7 (i := 196) (by decide +kernel) rfl⟩
def M_X3_misfitTotal : MM := (yX3_misfitTotal, cX3_misfitTotal, 4, some .int, [], 3, 65, 0, 0)
theorem mp_X3_misfitTotal : mpOk M_X3_misfitTotal 1 := ⟨by decide +kernel, by decide +kernel, by decide +kernel⟩
theorem mv_X3_misfitTotal : mvOk M_X3_misfitTotal := ⟨tk3 (i := 26) (by decide +kernel) rfl, tk3 (i := 27) (by decide +kernel) rfl, tk1 (i := 2) (by decide +kernel) rfl, tk3 (i := 28) (by decide +kernel) rfl⟩
def M_X4_misfitsIn : MM := (yX4_misfitsIn, cX4_misfitsIn, 2, some .int, [], 7, 106, 1, 6)
theorem mp_X4_misfitsIn : mpOk M_X4_misfitsIn 1 := ⟨by decide +kernel, by decide +kernel, by decide +kernel⟩
theorem mv_X4_misfitsIn : mvOk M_X4_misfitsIn := ⟨tk5 (i := 190) (by decide +kernel) rfl, tk5 (i := 191) (by decide +kernel) rfl, tk1 (i := 1) (by decide +kernel) rfl, tk5 (i := 192) (by decide +kernel) rfl⟩
def M_L_misfitsIn : MM := (yL_misfitsIn, cL_misfitsIn, 4, some .int, [(0, 9, 12, 13)], 8, 127, 1, 6)
theorem mp_L_misfitsIn : mpOk M_L_misfitsIn 3 := ⟨by decide +kernel, by decide +kernel, by decide +kernel⟩
theorem ms_L_misfitsIn : msOk M_L_misfitsIn := ⟨tk5 (i := 187) (by decide +kernel) rfl, tk1 (i := 0) (by decide +kernel) rfl, tk5 (i := 188) (by decide +kernel) rfl⟩
def M_X5_misfits : MM := (yX5_misfits, cX5_misfits, 4, some .int, [], 4, 87, 0, 0)
theorem mp_X5_misfits : mpOk M_X5_misfits 1 := ⟨by decide +kernel, by decide +kernel, by decide +kernel⟩
theorem mv_X5_misfits : mvOk M_X5_misfits := ⟨tk7 (i := 207) (by decide +kernel) rfl, pk (q := (yX5_misfits, 15)) (List.mem_of_getElem? (i := 68) (by decide +kernel)), tk1 (i := 6) (by decide +kernel) rfl, tk7 (i := 208) (by decide +kernel) rfl⟩
def M_X5_misfitsIn : MM := (yX5_misfitsIn, cX5_misfitsIn, 2, some .int, [], 5, 110, 0, 0)
theorem mp_X5_misfitsIn : mpOk M_X5_misfitsIn 1 := ⟨by decide +kernel, by decide +kernel, by decide +kernel⟩
theorem mv_X5_misfitsIn : mvOk M_X5_misfitsIn := ⟨tk7 (i := 202) (by decide +kernel) rfl, tk7 (i := 203) (by decide +kernel) rfl, tk1 (i := 6) (by decide +kernel) rfl, tk7 (i := 204) (by decide +kernel) rfl⟩
def M_X4_session : MM := (yX4_session, cX4_session, 1, some .int, [], 0, 0, 0, 0)
theorem mp_X4_session : mpOk M_X4_session 0 := ⟨by decide +kernel, by decide +kernel, by decide +kernel⟩
theorem mv_X4_session : mvOk M_X4_session := ⟨tk2 (i := 1) (by decide +kernel) rfl, tk2 (i := 2) (by decide +kernel) rfl, tk1 (i := 1) (by decide +kernel) rfl, tk2 (i := 3) (by decide +kernel) rfl⟩
def M_X5_session : MM := (yX5_session, cX5_session, 1, some .int, [], 1, 21, 0, 0)
theorem mp_X5_session : mpOk M_X5_session 0 := ⟨by decide +kernel, by decide +kernel, by decide +kernel⟩
theorem mv_X5_session : mvOk M_X5_session := ⟨tk7 (i := 210) (by decide +kernel) rfl, tk7 (i := 211) (by decide +kernel) rfl, tk1 (i := 6) (by decide +kernel) rfl, tk7 (i := 212) (by decide +kernel) rfl⟩
def M_X4_recordings : MM := (yX4_recordings, cX4_recordings, 1, some .int, [], 0, 0, 0, 0)
theorem mp_X4_recordings : mpOk M_X4_recordings 0 := ⟨by decide +kernel, by decide +kernel, by decide +kernel⟩
theorem mv_X4_recordings : mvOk M_X4_recordings := ⟨tk2 (i := 5) (by decide +kernel) rfl, tk2 (i := 6) (by decide +kernel) rfl, tk1 (i := 1) (by decide +kernel) rfl, tk2 (i := 7) (by decide +kernel) rfl⟩
def M_X5_recordings : MM := (yX5_recordings, cX5_recordings, 1, some .int, [], 1, 21, 0, 0)
theorem mp_X5_recordings : mpOk M_X5_recordings 0 := ⟨by decide +kernel, by decide +kernel, by decide +kernel⟩
theorem mv_X5_recordings : mvOk M_X5_recordings := ⟨tk7 (i := 214) (by decide +kernel) rfl, tk7 (i := 215) (by decide +kernel) rfl, tk1 (i := 6) (by decide +kernel) rfl, tk7 (i := 216) (by decide +kernel) rfl⟩
def M_X4_wiped : MM := (yX4_wiped, cX4_wiped, 1, some .int, [], 0, 0, 0, 0)
theorem mp_X4_wiped : mpOk M_X4_wiped 0 := ⟨by decide +kernel, by decide +kernel, by decide +kernel⟩
theorem mv_X4_wiped : mvOk M_X4_wiped := ⟨tk2 (i := 9) (by decide +kernel) rfl, tk2 (i := 10) (by decide +kernel) rfl, tk1 (i := 1) (by decide +kernel) rfl, tk2 (i := 11) (by decide +kernel) rfl⟩
end XM213
