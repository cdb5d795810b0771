/-! the methods: their rows, and what the tables say of them -/
section XM28
theorem fl_RX3_53 : flOk RX3 53 3 12 := ⟨tk1 (i := 45) (by decide +kernel) rfl, by decide, by decide, rfl⟩
theorem fl_RX3_56 : flOk RX3 56 3 13 := ⟨tk1 (i := 47) (by decide +kernel) rfl, by decide, by decide, rfl⟩
theorem fl_RX3_59 : flOk RX3 59 3 14 := ⟨tk1 (i := 49) (by decide +kernel) rfl, by decide, by decide, rfl⟩
theorem fl_RX3_62 : flOk RX3 62 3 15 := ⟨tk1 (i := 51) (by decide +kernel) rfl, by decide, by decide, rfl⟩
theorem fl_RX4_10 : flOk RX4 10 4 0 := ⟨tk1 (i := 165) (by decide +kernel) rfl, by decide, by decide, rfl⟩
theorem fl_RX4_19 : flOk RX4 19 4 1 := ⟨tk1 (i := 166) (by decide +kernel) rfl, by decide, by decide, rfl⟩
theorem fl_RX4_23 : flOk RX4 23 4 2 := ⟨tk1 (i := 167) (by decide +kernel) rfl, by decide, by decide, rfl⟩
theorem fl_RX4_27 : flOk RX4 27 4 3 := ⟨tk1 (i := 168) (by decide +kernel) rfl, by decide, by decide, rfl⟩
theorem fl_RX4_34 : flOk RX4 34 4 4 := ⟨tk1 (i := 169) (by decide +kernel) rfl, by decide, by decide, rfl⟩
theorem fl_RX4_41 : flOk RX4 41 4 5 := ⟨tk1 (i := 170) (by decide +kernel) rfl, by decide, by decide, rfl⟩
theorem fl_RX4_56 : flOk RX4 56 3 0 := ⟨tk1 (i := 30) (by decide +kernel) rfl, by decide, by decide, rfl⟩
theorem fl_RX4_91 : flOk RX4 91 3 3 := ⟨tk1 (i := 35) (by decide +kernel) rfl, by decide, by decide, rfl⟩
theorem fl_RX4_101 : flOk RX4 101 3 4 := ⟨tk1 (i := 37) (by decide +kernel) rfl, by decide, by decide, rfl⟩
theorem fl_RX4_109 : flOk RX4 109 3 1 := ⟨tk1 (i := 32) (by decide +kernel) rfl, by decide, by decide, rfl⟩
theorem fl_RX4_187 : flOk RX4 187 3 12 := ⟨tk1 (i := 46) (by decide +kernel) rfl, by decide, by decide, rfl⟩
theorem fl_RX4_226 : flOk RX4 226 0 1 := ⟨tk1 (i := 113) (by decide +kernel) rfl, by decide, by decide, rfl⟩
theorem fl_RX4_247 : flOk RX4 247 0 6 := ⟨tk1 (i := 123) (by decide +kernel) rfl, by decide, by decide, rfl⟩
theorem fl_RX4_255 : flOk RX4 255 0 2 := ⟨tk1 (i := 115) (by decide +kernel) rfl, by decide, by decide, rfl⟩
theorem fl_RX4_260 : flOk RX4 260 0 3 := ⟨tk1 (i := 117) (by decide +kernel) rfl, by decide, by decide, rfl⟩
theorem fl_RX4_263 : flOk RX4 263 0 4 := ⟨tk1 (i := 119) (by decide +kernel) rfl, by decide, by decide, rfl⟩
theorem fl_RX4_264 : flOk RX4 264 0 5 := ⟨tk1 (i := 121) (by decide +kernel) rfl, by decide, by decide, rfl⟩
theorem fl_RX4_277 : flOk RX4 277 1 1 := ⟨tk1 (i := 98) (by decide +kernel) rfl, by decide, by decide, rfl⟩
theorem fl_RX4_331 : flOk RX4 331 3 13 := ⟨tk1 (i := 48) (by decide +kernel) rfl, by decide, by decide, rfl⟩
theorem fl_RX4_334 : flOk RX4 334 3 14 := ⟨tk1 (i := 50) (by decide +kernel) rfl, by decide, by decide, rfl⟩
theorem fl_RX4_337 : flOk RX4 337 3 15 := ⟨tk1 (i := 52) (by decide +kernel) rfl, by decide, by decide, rfl⟩
theorem fl_RX4_412 : flOk RX4 412 0 0 := ⟨tk1 (i := 111) (by decide +kernel) rfl, by decide, by decide, rfl⟩
theorem lk_RL_9 : Cond.methodLink RL 9 yX4_addClause ∈ lwG := tk3 (i := 43) (by decide +kernel) rfl
theorem lk_RL_21 : Cond.methodLink RL 21 yX4_changeLips ∈ lwG := tk4 (i := 90) (by decide +kernel) rfl
theorem lk_RL_25 : Cond.methodLink RL 25 yX4_changeSigh ∈ lwG := tk3 (i := 195) (by decide +kernel) rfl
theorem lk_RL_28 : Cond.methodLink RL 28 yX4_moveClause ∈ lwG := tk4 (i := 98) (by decide +kernel) rfl
theorem lk_RL_31 : Cond.methodLink RL 31 yX4_translate ∈ lwG := tk4 (i := 107) (by decide +kernel) rfl
theorem lk_RL_34 : Cond.methodLink RL 34 yX4_annex ∈ lwG := tk4 (i := 123) (by decide +kernel) rfl
theorem lk_RL_37 : Cond.methodLink RL 37 yX4_bringBack ∈ lwG := tk4 (i := 136) (by decide +kernel) rfl
theorem lk_RL_40 : Cond.methodLink RL 40 yX4_cast ∈ lwG := tk4 (i := 144) (by decide +kernel) rfl
theorem lk_RL_43 : Cond.methodLink RL 43 yX4_record ∈ lwG := tk4 (i := 229) (by decide +kernel) rfl
theorem lk_RL_46 : Cond.methodLink RL 46 yX4_wipe ∈ lwG := tk4 (i := 172) (by decide +kernel) rfl
theorem lk_RL_49 : Cond.methodLink RL 49 yX4_nextSession ∈ lwG := tk4 (i := 160) (by decide +kernel) rfl
theorem lk_RL_53 : Cond.methodLink RL 53 yX4_mix ∈ lwG := tk4 (i := 192) (by decide +kernel) rfl
theorem lk_RL_56 : Cond.methodLink RL 56 yX4_sign ∈ lwG := tk4 (i := 208) (by decide +kernel) rfl
theorem lk_RL_59 : Cond.methodLink RL 59 yX4_reelOf ∈ lwG := tk3 (i := 213) (by decide +kernel) rfl
theorem lk_RL_63 : Cond.methodLink RL 63 yX4_speakerOf ∈ lwG := tk3 (i := 217) (by decide +kernel) rfl
theorem lk_RL_66 : Cond.methodLink RL 66 yX4_lipsOf ∈ lwG := tk3 (i := 221) (by decide +kernel) rfl
theorem lk_RL_69 : Cond.methodLink RL 69 yX4_sighOf ∈ lwG := tk3 (i := 225) (by decide +kernel) rfl
theorem lk_RL_72 : Cond.methodLink RL 72 yX4_isTranslated ∈ lwG := tk5 (i := 72) (by decide +kernel) rfl
theorem lk_RL_76 : Cond.methodLink RL 76 yX4_framesOf ∈ lwG := tk5 (i := 16) (by decide +kernel) rfl
theorem lk_RL_79 : Cond.methodLink RL 79 yX4_annexedOf ∈ lwG := tk5 (i := 86) (by decide +kernel) rfl
theorem lk_RL_82 : Cond.methodLink RL 82 yX4_isRecorded ∈ lwG := tk5 (i := 79) (by decide +kernel) rfl
theorem lk_RL_85 : Cond.methodLink RL 85 yX4_sessionOf ∈ lwG := tk5 (i := 42) (by decide +kernel) rfl
theorem lk_RL_88 : Cond.methodLink RL 88 yX4_roomFor ∈ lwG := tk5 (i := 28) (by decide +kernel) rfl
theorem lk_RL_91 : Cond.methodLink RL 91 yX4_fits ∈ lwG := tk5 (i := 64) (by decide +kernel) rfl
theorem lk_RL_94 : Cond.methodLink RL 94 yX4_hundredthsOf ∈ lwG := tk5 (i := 57) (by decide +kernel) rfl
theorem lk_RL_97 : Cond.methodLink RL 97 yX4_reasonAgainst ∈ lwG := tk5 (i := 35) (by decide +kernel) rfl
theorem lk_RL_100 : Cond.methodLink RL 100 yX4_staminaOf ∈ lwG := tk5 (i := 105) (by decide +kernel) rfl
theorem lk_RL_103 : Cond.methodLink RL 103 yX4_strengthLeft ∈ lwG := tk5 (i := 112) (by decide +kernel) rfl
theorem lk_RL_106 : Cond.methodLink RL 106 yX4_framesOfVoice ∈ lwG := tk5 (i := 126) (by decide +kernel) rfl
theorem lk_RL_109 : Cond.methodLink RL 109 yX4_sessionsByGoing ∈ lwG := tk5 (i := 93) (by decide +kernel) rfl
theorem lk_RL_112 : Cond.methodLink RL 112 yX4_sessionsByTable ∈ lwG := tk5 (i := 119) (by decide +kernel) rfl
theorem lk_RL_115 : Cond.methodLink RL 115 yX4_clausesIn ∈ lwG := tk3 (i := 232) (by decide +kernel) rfl
theorem lk_RL_118 : Cond.methodLink RL 118 yX4_lengthOf ∈ lwG := tk3 (i := 236) (by decide +kernel) rfl
theorem lk_RL_121 : Cond.methodLink RL 121 yX4_speaksIn ∈ lwG := tk5 (i := 159) (by decide +kernel) rfl
theorem lk_RL_124 : Cond.methodLink RL 124 yX4_isComplete ∈ lwG := tk5 (i := 133) (by decide +kernel) rfl
theorem lk_RL_127 : Cond.methodLink RL 127 yX4_isMixed ∈ lwG := tk5 (i := 137) (by decide +kernel) rfl
theorem lk_RL_130 : Cond.methodLink RL 130 yX4_signaturesOn ∈ lwG := tk5 (i := 141) (by decide +kernel) rfl
theorem lk_RL_133 : Cond.methodLink RL 133 yX4_missingOn ∈ lwG := tk5 (i := 145) (by decide +kernel) rfl
theorem lk_RL_136 : Cond.methodLink RL 136 yX4_hasSigned ∈ lwG := tk5 (i := 152) (by decide +kernel) rfl
theorem lk_RL_140 : Cond.methodLink RL 140 yX4_readyByClauses ∈ lwG := tk5 (i := 174) (by decide +kernel) rfl
theorem lk_RL_143 : Cond.methodLink RL 143 yX4_readyByVoices ∈ lwG := tk5 (i := 178) (by decide +kernel) rfl
theorem lk_RL_146 : Cond.methodLink RL 146 yX4_annexOf ∈ lwG := tk4 (i := 3) (by decide +kernel) rfl
theorem lk_RL_149 : Cond.methodLink RL 149 yX4_recordedIn ∈ lwG := tk4 (i := 11) (by decide +kernel) rfl
theorem lk_RL_152 : Cond.methodLink RL 152 yX4_misfitsIn ∈ lwG := tk4 (i := 15) (by decide +kernel) rfl
theorem lk_RL_155 : Cond.methodLink RL 155 yX4_isRatified ∈ lwG := tk4 (i := 19) (by decide +kernel) rfl
theorem lk_RL_160 : Cond.methodLink RL 160 yX4_leastAnnex ∈ lwG := tk5 (i := 49) (by decide +kernel) rfl
theorem lk_RL_163 : Cond.methodLink RL 163 yX4_longestSigh ∈ lwG := tk4 (i := 27) (by decide +kernel) rfl
theorem lk_RL_166 : Cond.methodLink RL 166 yX4_nextClause ∈ lwG := tk5 (i := 166) (by decide +kernel) rfl
theorem lk_RL_169 : Cond.methodLink RL 169 yX4_meanFit ∈ lwG := tk5 (i := 185) (by decide +kernel) rfl
theorem lk_RL_175 : Cond.methodLink RL 175 yX4_append ∈ lwG := tk4 (i := 35) (by decide +kernel) rfl
theorem lk_RL_178 : Cond.methodLink RL 178 yX4_load ∈ lwG := tk4 (i := 47) (by decide +kernel) rfl
theorem lk_RL_181 : Cond.methodLink RL 181 yX4_keep ∈ lwG := tk4 (i := 222) (by decide +kernel) rfl
theorem lk_RL_185 : Cond.methodLink RL 185 yX4_goBack ∈ lwG := tk4 (i := 65) (by decide +kernel) rfl
theorem lk_RL_188 : Cond.methodLink RL 188 yX4_undo ∈ lwG := tk4 (i := 75) (by decide +kernel) rfl
theorem lk_RL_191 : Cond.methodLink RL 191 yX4_clauses ∈ lwG := tk1 (i := 234) (by decide +kernel) rfl
theorem lk_RL_194 : Cond.methodLink RL 194 yL_addClause ∈ lwG := tk3 (i := 37) (by decide +kernel) rfl
theorem lk_RL_199 : Cond.methodLink RL 199 yL_changeLips ∈ lwG := tk4 (i := 87) (by decide +kernel) rfl
theorem lk_RL_202 : Cond.methodLink RL 202 yL_changeSigh ∈ lwG := tk3 (i := 192) (by decide +kernel) rfl
theorem lk_RL_204 : Cond.methodLink RL 204 yL_moveClause ∈ lwG := tk4 (i := 95) (by decide +kernel) rfl
theorem lk_RL_206 : Cond.methodLink RL 206 yL_translate ∈ lwG := tk4 (i := 104) (by decide +kernel) rfl
end XM28
