/-! the methods: their rows, and what the tables say of them -/
section XM28
theorem mp_X4_chainAccounts : mpOk M_X4_chainAccounts 1 := ⟨by decide +kernel, by decide +kernel, by decide +kernel⟩
theorem mv_X4_chainAccounts : mvOk M_X4_chainAccounts := ⟨tk3 (i := 47) (by decide +kernel) rfl, pk (q := (yX4_chainAccounts, 6)) (List.mem_of_getElem? (i := 15) (by decide +kernel)), tk1 (i := 1) (by decide +kernel) rfl, tk3 (i := 48) rfl rfl⟩
def M_X4_chainBuffer : MM := (yX4_chainBuffer, cX4_chainBuffer, 6, some .long, [], 1, 23, 0, 0)
theorem mp_X4_chainBuffer : mpOk M_X4_chainBuffer 1 := ⟨by decide +kernel, by decide +kernel, by decide +kernel⟩
theorem mv_X4_chainBuffer : mvOk M_X4_chainBuffer := ⟨tk3 (i := 55) (by decide +kernel) rfl, pk (q := (yX4_chainBuffer, 6)) (List.mem_of_getElem? (i := 17) (by decide +kernel)), tk1 (i := 1) (by decide +kernel) rfl, tk3 (i := 56) rfl rfl⟩
def M_X4_digest : MM := (yX4_digest, cX4_digest, 5, some .long, [], 6, 140, 0, 0)
theorem mp_X4_digest : mpOk M_X4_digest 0 := ⟨by decide +kernel, by decide +kernel, by decide +kernel⟩
theorem mv_X4_digest : mvOk M_X4_digest := ⟨tk2 (i := 57) (by decide +kernel) rfl, tk2 (i := 58) (by decide +kernel) rfl, tk1 (i := 1) (by decide +kernel) rfl, tk2 (i := 59) rfl rfl⟩
def M_X5_mixIn : MM := (yX5_mixIn, cX5_mixIn, 3, none, [], 0, 0, 0, 0)
theorem mp_X5_mixIn : mpOk M_X5_mixIn 1 := ⟨by decide +kernel, by decide +kernel, by decide +kernel⟩
theorem mv_X5_mixIn : mvOk M_X5_mixIn := ⟨tk8 (i := 44) (by decide +kernel) rfl, pk (q := (yX5_mixIn, 15)) (List.mem_of_getElem? (i := 76) (by decide +kernel)), tk1 (i := 6) (by decide +kernel) rfl, tk8 (i := 45) rfl rfl⟩
def M_X5_digest : MM := (yX5_digest, cX5_digest, 3, some .long, [], 7, 159, 0, 0)
theorem mp_X5_digest : mpOk M_X5_digest 0 := ⟨by decide +kernel, by decide +kernel, by decide +kernel⟩
theorem mv_X5_digest : mvOk M_X5_digest := ⟨tk8 (i := 38) (by decide +kernel) rfl, tk8 (i := 39) (by decide +kernel) rfl, tk1 (i := 6) (by decide +kernel) rfl, tk8 (i := 40) rfl rfl⟩
def M_L_law : MM := (yL_law, cL_law, 9, some .boolean, [], 12, 434, 601024, 7293034)
theorem fl_RX0_9 : flOk RX0 9 0 0 := ⟨tk1 (i := 112) (by decide +kernel) rfl, by decide, by decide, rfl⟩
theorem fl_RX0_15 : flOk RX0 15 0 2 := ⟨tk1 (i := 116) (by decide +kernel) rfl, by decide, by decide, rfl⟩
theorem fl_RX0_18 : flOk RX0 18 0 3 := ⟨tk1 (i := 118) (by decide +kernel) rfl, by decide, by decide, rfl⟩
theorem fl_RX0_21 : flOk RX0 21 0 4 := ⟨tk1 (i := 120) (by decide +kernel) rfl, by decide, by decide, rfl⟩
theorem fl_RX0_24 : flOk RX0 24 0 5 := ⟨tk1 (i := 122) (by decide +kernel) rfl, by decide, by decide, rfl⟩
theorem fl_RX0_27 : flOk RX0 27 0 1 := ⟨tk1 (i := 114) (by decide +kernel) rfl, by decide, by decide, rfl⟩
theorem fl_RX0_35 : flOk RX0 35 0 6 := ⟨tk1 (i := 124) (by decide +kernel) rfl, by decide, by decide, rfl⟩
theorem fl_RX0_38 : flOk RX0 38 0 7 := ⟨tk1 (i := 126) (by decide +kernel) rfl, by decide, by decide, rfl⟩
theorem fl_RX1_11 : flOk RX1 11 1 0 := ⟨tk1 (i := 98) (by decide +kernel) rfl, by decide, by decide, rfl⟩
theorem fl_RX1_18 : flOk RX1 18 1 1 := ⟨tk1 (i := 99) (by decide +kernel) rfl, by decide, by decide, rfl⟩
theorem fl_RX2_9 : flOk RX2 9 2 0 := ⟨tk1 (i := 151) (by decide +kernel) rfl, by decide, by decide, rfl⟩
theorem fl_RX2_15 : flOk RX2 15 2 1 := ⟨tk1 (i := 152) (by decide +kernel) rfl, by decide, by decide, rfl⟩
theorem fl_RX2_18 : flOk RX2 18 2 2 := ⟨tk1 (i := 153) (by decide +kernel) rfl, by decide, by decide, rfl⟩
theorem fl_RX2_22 : flOk RX2 22 2 3 := ⟨tk1 (i := 154) (by decide +kernel) rfl, by decide, by decide, rfl⟩
theorem fl_RX2_25 : flOk RX2 25 2 4 := ⟨tk1 (i := 155) (by decide +kernel) rfl, by decide, by decide, rfl⟩
theorem fl_RX3_9 : flOk RX3 9 3 1 := ⟨tk1 (i := 33) (by decide +kernel) rfl, by decide, by decide, rfl⟩
theorem fl_RX3_15 : flOk RX3 15 3 2 := ⟨tk1 (i := 35) (by decide +kernel) rfl, by decide, by decide, rfl⟩
theorem fl_RX3_18 : flOk RX3 18 3 3 := ⟨tk1 (i := 36) (by decide +kernel) rfl, by decide, by decide, rfl⟩
theorem fl_RX3_21 : flOk RX3 21 3 4 := ⟨tk1 (i := 38) (by decide +kernel) rfl, by decide, by decide, rfl⟩
theorem fl_RX3_24 : flOk RX3 24 3 5 := ⟨tk1 (i := 40) (by decide +kernel) rfl, by decide, by decide, rfl⟩
theorem fl_RX3_27 : flOk RX3 27 3 6 := ⟨tk1 (i := 41) (by decide +kernel) rfl, by decide, by decide, rfl⟩
theorem fl_RX3_30 : flOk RX3 30 3 7 := ⟨tk1 (i := 42) (by decide +kernel) rfl, by decide, by decide, rfl⟩
theorem fl_RX3_33 : flOk RX3 33 3 8 := ⟨tk1 (i := 43) (by decide +kernel) rfl, by decide, by decide, rfl⟩
theorem fl_RX3_36 : flOk RX3 36 3 9 := ⟨tk1 (i := 44) (by decide +kernel) rfl, by decide, by decide, rfl⟩
theorem fl_RX3_39 : flOk RX3 39 3 10 := ⟨tk1 (i := 45) (by decide +kernel) rfl, by decide, by decide, rfl⟩
theorem fl_RX3_42 : flOk RX3 42 3 11 := ⟨tk1 (i := 46) (by decide +kernel) rfl, by decide, by decide, rfl⟩
theorem fl_RX3_45 : flOk RX3 45 3 0 := ⟨tk1 (i := 31) (by decide +kernel) rfl, by decide, by decide, rfl⟩
theorem fl_RX3_53 : flOk RX3 53 3 12 := ⟨tk1 (i := 47) (by decide +kernel) rfl, by decide, by decide, rfl⟩
theorem fl_RX3_56 : flOk RX3 56 3 13 := ⟨tk1 (i := 49) (by decide +kernel) rfl, by decide, by decide, rfl⟩
theorem fl_RX3_59 : flOk RX3 59 3 14 := ⟨tk1 (i := 51) (by decide +kernel) rfl, by decide, by decide, rfl⟩
theorem fl_RX3_62 : flOk RX3 62 3 15 := ⟨tk1 (i := 53) (by decide +kernel) rfl, by decide, by decide, rfl⟩
theorem fl_RX4_10 : flOk RX4 10 4 0 := ⟨tk1 (i := 167) (by decide +kernel) rfl, by decide, by decide, rfl⟩
theorem fl_RX4_19 : flOk RX4 19 4 1 := ⟨tk1 (i := 168) (by decide +kernel) rfl, by decide, by decide, rfl⟩
theorem fl_RX4_23 : flOk RX4 23 4 2 := ⟨tk1 (i := 169) (by decide +kernel) rfl, by decide, by decide, rfl⟩
theorem fl_RX4_27 : flOk RX4 27 4 3 := ⟨tk1 (i := 170) (by decide +kernel) rfl, by decide, by decide, rfl⟩
theorem fl_RX4_34 : flOk RX4 34 4 4 := ⟨tk1 (i := 171) (by decide +kernel) rfl, by decide, by decide, rfl⟩
theorem fl_RX4_41 : flOk RX4 41 4 5 := ⟨tk1 (i := 172) (by decide +kernel) rfl, by decide, by decide, rfl⟩
theorem fl_RX4_56 : flOk RX4 56 3 0 := ⟨tk1 (i := 32) (by decide +kernel) rfl, by decide, by decide, rfl⟩
theorem fl_RX4_91 : flOk RX4 91 3 3 := ⟨tk1 (i := 37) (by decide +kernel) rfl, by decide, by decide, rfl⟩
theorem fl_RX4_101 : flOk RX4 101 3 4 := ⟨tk1 (i := 39) (by decide +kernel) rfl, by decide, by decide, rfl⟩
theorem fl_RX4_109 : flOk RX4 109 3 1 := ⟨tk1 (i := 34) (by decide +kernel) rfl, by decide, by decide, rfl⟩
theorem fl_RX4_187 : flOk RX4 187 3 12 := ⟨tk1 (i := 48) (by decide +kernel) rfl, by decide, by decide, rfl⟩
theorem fl_RX4_226 : flOk RX4 226 0 1 := ⟨tk1 (i := 115) (by decide +kernel) rfl, by decide, by decide, rfl⟩
theorem fl_RX4_247 : flOk RX4 247 0 6 := ⟨tk1 (i := 125) (by decide +kernel) rfl, by decide, by decide, rfl⟩
theorem fl_RX4_255 : flOk RX4 255 0 2 := ⟨tk1 (i := 117) (by decide +kernel) rfl, by decide, by decide, rfl⟩
theorem fl_RX4_260 : flOk RX4 260 0 3 := ⟨tk1 (i := 119) (by decide +kernel) rfl, by decide, by decide, rfl⟩
theorem fl_RX4_263 : flOk RX4 263 0 4 := ⟨tk1 (i := 121) (by decide +kernel) rfl, by decide, by decide, rfl⟩
theorem fl_RX4_264 : flOk RX4 264 0 5 := ⟨tk1 (i := 123) (by decide +kernel) rfl, by decide, by decide, rfl⟩
theorem fl_RX4_277 : flOk RX4 277 1 1 := ⟨tk1 (i := 100) (by decide +kernel) rfl, by decide, by decide, rfl⟩
theorem fl_RX4_331 : flOk RX4 331 3 13 := ⟨tk1 (i := 50) (by decide +kernel) rfl, by decide, by decide, rfl⟩
theorem fl_RX4_334 : flOk RX4 334 3 14 := ⟨tk1 (i := 52) (by decide +kernel) rfl, by decide, by decide, rfl⟩
theorem fl_RX4_337 : flOk RX4 337 3 15 := ⟨tk1 (i := 54) (by decide +kernel) rfl, by decide, by decide, rfl⟩
theorem fl_RX4_412 : flOk RX4 412 0 0 := ⟨tk1 (i := 113) (by decide +kernel) rfl, by decide, by decide, rfl⟩
theorem fl_RX5_7 : flOk RX5 7 5 0 := ⟨tk5 (i := 230) (by decide +kernel) rfl, by decide, by decide, rfl⟩
theorem fl_RX5_13 : flOk RX5 13 5 1 := ⟨tk5 (i := 231) (by decide +kernel) rfl, by decide, by decide, rfl⟩
theorem fl_RX5_16 : flOk RX5 16 5 3 := ⟨tk5 (i := 233) (by decide +kernel) rfl, by decide, by decide, rfl⟩
theorem fl_RX5_19 : flOk RX5 19 5 4 := ⟨tk5 (i := 234) (by decide +kernel) rfl, by decide, by decide, rfl⟩
theorem fl_RX5_23 : flOk RX5 23 5 5 := ⟨tk5 (i := 235) (by decide +kernel) rfl, by decide, by decide, rfl⟩
theorem fl_RX5_26 : flOk RX5 26 5 7 := ⟨tk5 (i := 237) (by decide +kernel) rfl, by decide, by decide, rfl⟩
theorem fl_RX5_41 : flOk RX5 41 5 2 := ⟨tk5 (i := 232) (by decide +kernel) rfl, by decide, by decide, rfl⟩
theorem fl_RX5_125 : flOk RX5 125 5 6 := ⟨tk5 (i := 236) (by decide +kernel) rfl, by decide, by decide, rfl⟩
theorem fl_RX5_128 : flOk RX5 128 5 8 := ⟨tk5 (i := 238) (by decide +kernel) rfl, by decide, by decide, rfl⟩
theorem fl_RX5_135 : flOk RX5 135 5 9 := ⟨tk5 (i := 239) (by decide +kernel) rfl, by decide, by decide, rfl⟩
theorem fl_RX5_142 : flOk RX5 142 5 10 := ⟨tk6 (i := 0) (by decide +kernel) rfl, by decide, by decide, rfl⟩
theorem fl_RX5_145 : flOk RX5 145 5 11 := ⟨tk6 (i := 1) (by decide +kernel) rfl, by decide, by decide, rfl⟩
theorem fl_RX5_151 : flOk RX5 151 5 12 := ⟨tk6 (i := 2) (by decide +kernel) rfl, by decide, by decide, rfl⟩
theorem fl_RX5_154 : flOk RX5 154 5 13 := ⟨tk6 (i := 3) (by decide +kernel) rfl, by decide, by decide, rfl⟩
theorem fl_RX5_239 : flOk RX5 239 5 14 := ⟨tk6 (i := 4) (by decide +kernel) rfl, by decide, by decide, rfl⟩
theorem lk_RJxe99ae_122 : Cond.methodLink RJxe99ae 122 yJxe99ae_isNaN_b9ae7 ∈ lwG := tk8 (i := 50) (by decide +kernel) rfl
theorem lk_RL_7 : Cond.methodLink RL 7 yX4_addClause ∈ lwG := tk3 (i := 64) (by decide +kernel) rfl
theorem lk_RL_19 : Cond.methodLink RL 19 yX4_changeLips ∈ lwG := tk3 (i := 216) (by decide +kernel) rfl
theorem lk_RL_23 : Cond.methodLink RL 23 yX4_changeSigh ∈ lwG := tk3 (i := 234) (by decide +kernel) rfl
theorem lk_RL_26 : Cond.methodLink RL 26 yX4_moveClause ∈ lwG := tk4 (i := 2) (by decide +kernel) rfl
theorem lk_RL_29 : Cond.methodLink RL 29 yX4_translate ∈ lwG := tk4 (i := 11) (by decide +kernel) rfl
theorem lk_RL_32 : Cond.methodLink RL 32 yX4_annex ∈ lwG := tk4 (i := 31) (by decide +kernel) rfl
theorem lk_RL_35 : Cond.methodLink RL 35 yX4_bringBack ∈ lwG := tk4 (i := 44) (by decide +kernel) rfl
theorem lk_RL_38 : Cond.methodLink RL 38 yX4_cast ∈ lwG := tk4 (i := 52) (by decide +kernel) rfl
theorem lk_RL_41 : Cond.methodLink RL 41 yX4_record ∈ lwG := tk4 (i := 68) (by decide +kernel) rfl
theorem lk_RL_44 : Cond.methodLink RL 44 yX4_wipe ∈ lwG := tk4 (i := 80) (by decide +kernel) rfl
theorem lk_RL_47 : Cond.methodLink RL 47 yX4_nextSession ∈ lwG := tk4 (i := 100) (by decide +kernel) rfl
theorem lk_RL_51 : Cond.methodLink RL 51 yX4_mix ∈ lwG := tk4 (i := 112) (by decide +kernel) rfl
theorem lk_RL_54 : Cond.methodLink RL 54 yX4_sign ∈ lwG := tk4 (i := 128) (by decide +kernel) rfl
theorem lk_RL_57 : Cond.methodLink RL 57 yX4_append ∈ lwG := tk4 (i := 142) (by decide +kernel) rfl
theorem lk_RL_61 : Cond.methodLink RL 61 yX4_load ∈ lwG := tk4 (i := 154) (by decide +kernel) rfl
theorem lk_RL_64 : Cond.methodLink RL 64 yX4_keep ∈ lwG := tk4 (i := 172) (by decide +kernel) rfl
theorem lk_RL_68 : Cond.methodLink RL 68 yX4_goBack ∈ lwG := tk4 (i := 181) (by decide +kernel) rfl
theorem lk_RL_71 : Cond.methodLink RL 71 yX4_undo ∈ lwG := tk4 (i := 189) (by decide +kernel) rfl
theorem lk_RL_74 : Cond.methodLink RL 74 yX4_reelOf ∈ lwG := tk4 (i := 201) (by decide +kernel) rfl
theorem lk_RL_77 : Cond.methodLink RL 77 yX4_speakerOf ∈ lwG := tk4 (i := 208) (by decide +kernel) rfl
theorem lk_RL_80 : Cond.methodLink RL 80 yX4_lipsOf ∈ lwG := tk4 (i := 215) (by decide +kernel) rfl
theorem lk_RL_83 : Cond.methodLink RL 83 yX4_sighOf ∈ lwG := tk4 (i := 222) (by decide +kernel) rfl
theorem lk_RL_86 : Cond.methodLink RL 86 yX4_isTranslated ∈ lwG := tk4 (i := 229) (by decide +kernel) rfl
theorem lk_RL_90 : Cond.methodLink RL 90 yX4_framesOf ∈ lwG := tk4 (i := 236) (by decide +kernel) rfl
theorem lk_RL_93 : Cond.methodLink RL 93 yX4_annexedOf ∈ lwG := tk5 (i := 8) (by decide +kernel) rfl
theorem lk_RL_96 : Cond.methodLink RL 96 yX4_isRecorded ∈ lwG := tk5 (i := 15) (by decide +kernel) rfl
theorem lk_RL_99 : Cond.methodLink RL 99 yX4_sessionOf ∈ lwG := tk5 (i := 22) (by decide +kernel) rfl
theorem lk_RL_102 : Cond.methodLink RL 102 yX4_roomFor ∈ lwG := tk5 (i := 29) (by decide +kernel) rfl
theorem lk_RL_105 : Cond.methodLink RL 105 yX4_fits ∈ lwG := tk5 (i := 36) (by decide +kernel) rfl
theorem lk_RL_108 : Cond.methodLink RL 108 yX4_hundredthsOf ∈ lwG := tk5 (i := 44) (by decide +kernel) rfl
theorem lk_RL_111 : Cond.methodLink RL 111 yX4_reasonAgainst ∈ lwG := tk5 (i := 51) (by decide +kernel) rfl
theorem lk_RL_114 : Cond.methodLink RL 114 yX4_staminaOf ∈ lwG := tk5 (i := 58) (by decide +kernel) rfl
theorem lk_RL_117 : Cond.methodLink RL 117 yX4_strengthLeft ∈ lwG := tk5 (i := 65) (by decide +kernel) rfl
theorem lk_RL_120 : Cond.methodLink RL 120 yX4_framesOfVoice ∈ lwG := tk5 (i := 72) (by decide +kernel) rfl
theorem lk_RL_123 : Cond.methodLink RL 123 yX4_sessionsByGoing ∈ lwG := tk5 (i := 79) (by decide +kernel) rfl
theorem lk_RL_126 : Cond.methodLink RL 126 yX4_sessionsByTable ∈ lwG := tk5 (i := 91) (by decide +kernel) rfl
theorem lk_RL_129 : Cond.methodLink RL 129 yX4_clausesIn ∈ lwG := tk5 (i := 98) (by decide +kernel) rfl
theorem lk_RL_132 : Cond.methodLink RL 132 yX4_lengthOf ∈ lwG := tk5 (i := 105) (by decide +kernel) rfl
theorem lk_RL_135 : Cond.methodLink RL 135 yX4_speaksIn ∈ lwG := tk5 (i := 112) (by decide +kernel) rfl
theorem lk_RL_138 : Cond.methodLink RL 138 yX4_isComplete ∈ lwG := tk5 (i := 119) (by decide +kernel) rfl
theorem lk_RL_141 : Cond.methodLink RL 141 yX4_isMixed ∈ lwG := tk5 (i := 126) (by decide +kernel) rfl
theorem lk_RL_144 : Cond.methodLink RL 144 yX4_hasSigned ∈ lwG := tk5 (i := 133) (by decide +kernel) rfl
theorem lk_RL_148 : Cond.methodLink RL 148 yX4_signaturesOn ∈ lwG := tk5 (i := 140) (by decide +kernel) rfl
theorem lk_RL_151 : Cond.methodLink RL 151 yX4_missingOn ∈ lwG := tk5 (i := 147) (by decide +kernel) rfl
theorem lk_RL_154 : Cond.methodLink RL 154 yX4_annexOf ∈ lwG := tk5 (i := 154) (by decide +kernel) rfl
theorem lk_RL_157 : Cond.methodLink RL 157 yX4_recordedIn ∈ lwG := tk5 (i := 161) (by decide +kernel) rfl
theorem lk_RL_160 : Cond.methodLink RL 160 yX4_readyByClauses ∈ lwG := tk5 (i := 168) (by decide +kernel) rfl
end XM28
