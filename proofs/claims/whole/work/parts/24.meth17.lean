/-! the methods: their rows, and what the tables say of them -/
section XM217
theorem fl_RX5_41 : flOk RX5 41 5 2 := ⟨tk5 (i := 232) (by decide +kernel) rfl, by decide, by decide, rfl⟩
theorem fl_RX5_125 : flOk RX5 125 5 6 := ⟨tk5 (i := 236) (by decide +kernel) rfl, by decide, by decide, rfl⟩
theorem fl_RX5_128 : flOk RX5 128 5 8 := ⟨tk5 (i := 238) (by decide +kernel) rfl, by decide, by decide, rfl⟩
theorem fl_RX5_135 : flOk RX5 135 5 9 := ⟨tk5 (i := 239) (by decide +kernel) rfl, by decide, by decide, rfl⟩
theorem fl_RX5_142 : flOk RX5 142 5 10 := ⟨tk6 (i := 0) (by decide +kernel) rfl, by decide, by decide, rfl⟩
theorem fl_RX5_145 : flOk RX5 145 5 11 := ⟨tk6 (i := 1) (by decide +kernel) rfl, by decide, by decide, rfl⟩
theorem fl_RX5_151 : flOk RX5 151 5 12 := ⟨tk6 (i := 2) (by decide +kernel) rfl, by decide, by decide, rfl⟩
theorem fl_RX5_154 : flOk RX5 154 5 13 := ⟨tk6 (i := 3) (by decide +kernel) rfl, by decide, by decide, rfl⟩
theorem fl_RX5_239 : flOk RX5 239 5 14 := ⟨tk6 (i := 4) (by decide +kernel) rfl, by decide, by decide, rfl⟩
theorem lk_RJxe99ae_122 : Cond.methodLink RJxe99ae 122 yJxe99ae_isNaN_b9ae7 ∈ lwG := tk8 (i := 50) (by decide +kernel) rfl
theorem lk_RL_7 : Cond.methodLink RL 7 yX4_addClause ∈ lwG := tk3 (i := 64) (by decide +kernel) rfl
theorem lk_RL_19 : Cond.methodLink RL 19 yX4_changeLips ∈ lwG := tk3 (i := 216) (by decide +kernel) rfl
theorem lk_RL_23 : Cond.methodLink RL 23 yX4_changeSigh ∈ lwG := tk3 (i := 234) (by decide +kernel) rfl
theorem lk_RL_26 : Cond.methodLink RL 26 yX4_moveClause ∈ lwG := tk4 (i := 2) (by decide +kernel) rfl
theorem lk_RL_29 : Cond.methodLink RL 29 yX4_translate ∈ lwG := tk4 (i := 11) (by decide +kernel) rfl
theorem lk_RL_32 : Cond.methodLink RL 32 yX4_annex ∈ lwG := tk4 (i := 31) (by decide +kernel) rfl
theorem lk_RL_35 : Cond.methodLink RL 35 yX4_bringBack ∈ lwG := tk4 (i := 44) (by decide +kernel) rfl
theorem lk_RL_38 : Cond.methodLink RL 38 yX4_cast ∈ lwG := tk4 (i := 52) (by decide +kernel) rfl
theorem lk_RL_41 : Cond.methodLink RL 41 yX4_record ∈ lwG := tk4 (i := 68) (by decide +kernel) rfl
theorem lk_RL_44 : Cond.methodLink RL 44 yX4_wipe ∈ lwG := tk4 (i := 80) (by decide +kernel) rfl
theorem lk_RL_47 : Cond.methodLink RL 47 yX4_nextSession ∈ lwG := tk4 (i := 100) (by decide +kernel) rfl
theorem lk_RL_51 : Cond.methodLink RL 51 yX4_mix ∈ lwG := tk4 (i := 112) (by decide +kernel) rfl
theorem lk_RL_54 : Cond.methodLink RL 54 yX4_sign ∈ lwG := tk4 (i := 128) (by decide +kernel) rfl
theorem lk_RL_57 : Cond.methodLink RL 57 yX4_append ∈ lwG := tk4 (i := 142) (by decide +kernel) rfl
theorem lk_RL_61 : Cond.methodLink RL 61 yX4_load ∈ lwG := tk4 (i := 154) (by decide +kernel) rfl
theorem lk_RL_64 : Cond.methodLink RL 64 yX4_keep ∈ lwG := tk4 (i := 172) (by decide +kernel) rfl
theorem lk_RL_68 : Cond.methodLink RL 68 yX4_goBack ∈ lwG := tk4 (i := 181) (by decide +kernel) rfl
theorem lk_RL_71 : Cond.methodLink RL 71 yX4_undo ∈ lwG := tk4 (i := 189) (by decide +kernel) rfl
theorem lk_RL_74 : Cond.methodLink RL 74 yX4_reelOf ∈ lwG := tk4 (i := 201) (by decide +kernel) rfl
theorem lk_RL_77 : Cond.methodLink RL 77 yX4_speakerOf ∈ lwG := tk4 (i := 208) (by decide +kernel) rfl
theorem lk_RL_80 : Cond.methodLink RL 80 yX4_lipsOf ∈ lwG := tk4 (i := 215) (by decide +kernel) rfl
theorem lk_RL_83 : Cond.methodLink RL 83 yX4_sighOf ∈ lwG := tk4 (i := 222) (by decide +kernel) rfl
theorem lk_RL_86 : Cond.methodLink RL 86 yX4_isTranslated ∈ lwG := tk4 (i := 229) (by decide +kernel) rfl
theorem lk_RL_90 : Cond.methodLink RL 90 yX4_framesOf ∈ lwG := tk4 (i := 236) (by decide +kernel) rfl
theorem lk_RL_93 : Cond.methodLink RL 93 yX4_annexedOf ∈ lwG := tk5 (i := 8) (by decide +kernel) rfl
theorem lk_RL_96 : Cond.methodLink RL 96 yX4_isRecorded ∈ lwG := tk5 (i := 15) (by decide +kernel) rfl
theorem lk_RL_99 : Cond.methodLink RL 99 yX4_sessionOf ∈ lwG := tk5 (i := 22) (by decide +kernel) rfl
theorem lk_RL_102 : Cond.methodLink RL 102 yX4_roomFor ∈ lwG := tk5 (i := 29) (by decide +kernel) rfl
theorem lk_RL_105 : Cond.methodLink RL 105 yX4_fits ∈ lwG := tk5 (i := 36) (by decide +kernel) rfl
theorem lk_RL_108 : Cond.methodLink RL 108 yX4_hundredthsOf ∈ lwG := tk5 (i := 44) (by decide +kernel) rfl
theorem lk_RL_111 : Cond.methodLink RL 111 yX4_reasonAgainst ∈ lwG := tk5 (i := 51) (by decide +kernel) rfl
theorem lk_RL_114 : Cond.methodLink RL 114 yX4_staminaOf ∈ lwG := tk5 (i := 58) (by decide +kernel) rfl
theorem lk_RL_117 : Cond.methodLink RL 117 yX4_strengthLeft ∈ lwG := tk5 (i := 65) (by decide +kernel) rfl
theorem lk_RL_120 : Cond.methodLink RL 120 yX4_framesOfVoice ∈ lwG := tk5 (i := 72) (by decide +kernel) rfl
theorem lk_RL_123 : Cond.methodLink RL 123 yX4_sessionsByGoing ∈ lwG := tk5 (i := 79) (by decide +kernel) rfl
theorem lk_RL_126 : Cond.methodLink RL 126 yX4_sessionsByTable ∈ lwG := tk5 (i := 91) (by decide +kernel) rfl
theorem lk_RL_129 : Cond.methodLink RL 129 yX4_clausesIn ∈ lwG := tk5 (i := 98) (by decide +kernel) rfl
theorem lk_RL_132 : Cond.methodLink RL 132 yX4_lengthOf ∈ lwG := tk5 (i := 105) (by decide +kernel) rfl
theorem lk_RL_135 : Cond.methodLink RL 135 yX4_speaksIn ∈ lwG := tk5 (i := 112) (by decide +kernel) rfl
theorem lk_RL_138 : Cond.methodLink RL 138 yX4_isComplete ∈ lwG := tk5 (i := 119) (by decide +kernel) rfl
theorem lk_RL_141 : Cond.methodLink RL 141 yX4_isMixed ∈ lwG := tk5 (i := 126) (by decide +kernel) rfl
theorem lk_RL_144 : Cond.methodLink RL 144 yX4_hasSigned ∈ lwG := tk5 (i := 133) (by decide +kernel) rfl
theorem lk_RL_148 : Cond.methodLink RL 148 yX4_signaturesOn ∈ lwG := tk5 (i := 140) (by decide +kernel) rfl
theorem lk_RL_151 : Cond.methodLink RL 151 yX4_missingOn ∈ lwG := tk5 (i := 147) (by decide +kernel) rfl
theorem lk_RL_154 : Cond.methodLink RL 154 yX4_annexOf ∈ lwG := tk5 (i := 154) (by decide +kernel) rfl
theorem lk_RL_157 : Cond.methodLink RL 157 yX4_recordedIn ∈ lwG := tk5 (i := 161) (by decide +kernel) rfl
theorem lk_RL_160 : Cond.methodLink RL 160 yX4_readyByClauses ∈ lwG := tk5 (i := 168) (by decide +kernel) rfl
theorem lk_RL_163 : Cond.methodLink RL 163 yX4_readyByVoices ∈ lwG := tk5 (i := 175) (by decide +kernel) rfl
theorem lk_RL_166 : Cond.methodLink RL 166 yX4_isRatified ∈ lwG := tk5 (i := 182) (by decide +kernel) rfl
theorem lk_RL_170 : Cond.methodLink RL 170 yX4_misfitsIn ∈ lwG := tk5 (i := 189) (by decide +kernel) rfl
theorem lk_RL_173 : Cond.methodLink RL 173 yX4_leastAnnex ∈ lwG := tk5 (i := 196) (by decide +kernel) rfl
theorem lk_RL_176 : Cond.methodLink RL 176 yX4_longestSigh ∈ lwG := tk5 (i := 204) (by decide +kernel) rfl
theorem lk_RL_179 : Cond.methodLink RL 179 yX4_nextClause ∈ lwG := tk5 (i := 212) (by decide +kernel) rfl
theorem lk_RL_182 : Cond.methodLink RL 182 yX4_meanFit ∈ lwG := tk5 (i := 220) (by decide +kernel) rfl
theorem lk_RL_186 : Cond.methodLink RL 186 yX4_init ∈ lwG := tk1 (i := 19) (by decide +kernel) rfl
theorem lk_RL_189 : Cond.methodLink RL 189 yX5_init ∈ lwG := tk5 (i := 226) (by decide +kernel) rfl
end XM217
