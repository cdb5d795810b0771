theorem dL_cell_0 : decode cL_cell 0 = .ok (.iload_n 1, 1) := by decide +kernel
theorem dL_cell_1 : decode cL_cell 1 = .ok (.aload_n 0, 1) := by decide +kernel
theorem dL_cell_2 : decode cL_cell 2 = .ok (.arraylength, 1) := by decide +kernel
theorem dL_cell_3 : decode cL_cell 3 = .ok (.if_icmp .ge 9, 3) := by decide +kernel
theorem dL_cell_6 : decode cL_cell 6 = .ok (.aload_n 0, 1) := by decide +kernel
theorem dL_cell_7 : decode cL_cell 7 = .ok (.iload_n 1, 1) := by decide +kernel
theorem dL_cell_8 : decode cL_cell 8 = .ok (.iaload, 1) := by decide +kernel
theorem dL_cell_9 : decode cL_cell 9 = .ok (.goto 15, 3) := by decide +kernel
theorem dL_cell_12 : decode cL_cell 12 = .ok (.ldc 7, 2) := by decide +kernel
theorem dL_cell_14 : decode cL_cell 14 = .ok (.iload_n 1, 1) := by decide +kernel
theorem dL_cell_15 : decode cL_cell 15 = .ok (.sipush 269, 3) := by decide +kernel
theorem dL_cell_18 : decode cL_cell 18 = .ok (.iadd, 1) := by decide +kernel
theorem dL_cell_19 : decode cL_cell 19 = .ok (.imul, 1) := by decide +kernel
theorem dL_cell_20 : decode cL_cell 20 = .ok (.sipush 313, 3) := by decide +kernel
theorem dL_cell_23 : decode cL_cell 23 = .ok (.iadd, 1) := by decide +kernel
theorem dL_cell_24 : decode cL_cell 24 = .ok (.ldc 8, 2) := by decide +kernel
theorem dL_cell_26 : decode cL_cell 26 = .ok (.iand, 1) := by decide +kernel
theorem dL_cell_27 : decode cL_cell 27 = .ok (.ireturn, 1) := by decide +kernel
theorem dL_addClause_0 : decode cL_addClause 0 = .ok (.aload_n 0, 1) := by decide +kernel
theorem dL_addClause_1 : decode cL_addClause 1 = .ok (.iload_n 1, 1) := by decide +kernel
theorem dL_addClause_2 : decode cL_addClause 2 = .ok (.iload_n 2, 1) := by decide +kernel
theorem dL_addClause_3 : decode cL_addClause 3 = .ok (.iload_n 3, 1) := by decide +kernel
theorem dL_addClause_4 : decode cL_addClause 4 = .ok (.invokevirtual 9, 3) := by decide +kernel
theorem dL_addClause_7 : decode cL_addClause 7 = .ok (.ireturn, 1) := by decide +kernel
theorem dL_addClause_8 : decode cL_addClause 8 = .ok (.astore 4, 2) := by decide +kernel
theorem dL_addClause_10 : decode cL_addClause 10 = .ok (.bipush (-2), 2) := by decide +kernel
theorem dL_addClause_12 : decode cL_addClause 12 = .ok (.ireturn, 1) := by decide +kernel
theorem dL_addClause_13 : decode cL_addClause 13 = .ok (.astore 4, 2) := by decide +kernel
theorem dL_addClause_15 : decode cL_addClause 15 = .ok (.bipush (-3), 2) := by decide +kernel
theorem dL_addClause_17 : decode cL_addClause 17 = .ok (.ireturn, 1) := by decide +kernel
theorem dL_addClause_18 : decode cL_addClause 18 = .ok (.astore 4, 2) := by decide +kernel
theorem dL_addClause_20 : decode cL_addClause 20 = .ok (.bipush (-4), 2) := by decide +kernel
theorem dL_addClause_22 : decode cL_addClause 22 = .ok (.ireturn, 1) := by decide +kernel
theorem dL_changeLips_0 : decode cL_changeLips 0 = .ok (.aload_n 0, 1) := by decide +kernel
theorem dL_changeLips_1 : decode cL_changeLips 1 = .ok (.iload_n 1, 1) := by decide +kernel
theorem dL_changeLips_2 : decode cL_changeLips 2 = .ok (.iload_n 2, 1) := by decide +kernel
theorem dL_changeLips_3 : decode cL_changeLips 3 = .ok (.invokevirtual 21, 3) := by decide +kernel
theorem dL_changeLips_6 : decode cL_changeLips 6 = .ok (.ireturn, 1) := by decide +kernel
theorem dL_changeLips_7 : decode cL_changeLips 7 = .ok (.astore_n 3, 1) := by decide +kernel
theorem dL_changeLips_8 : decode cL_changeLips 8 = .ok (.bipush (-2), 2) := by decide +kernel
theorem dL_changeLips_10 : decode cL_changeLips 10 = .ok (.ireturn, 1) := by decide +kernel
theorem dL_changeLips_11 : decode cL_changeLips 11 = .ok (.astore_n 3, 1) := by decide +kernel
theorem dL_changeLips_12 : decode cL_changeLips 12 = .ok (.bipush (-3), 2) := by decide +kernel
theorem dL_changeLips_14 : decode cL_changeLips 14 = .ok (.ireturn, 1) := by decide +kernel
theorem dL_changeLips_15 : decode cL_changeLips 15 = .ok (.astore_n 3, 1) := by decide +kernel
theorem dL_changeLips_16 : decode cL_changeLips 16 = .ok (.bipush (-4), 2) := by decide +kernel
theorem dL_changeLips_18 : decode cL_changeLips 18 = .ok (.ireturn, 1) := by decide +kernel
theorem dL_changeSigh_0 : decode cL_changeSigh 0 = .ok (.aload_n 0, 1) := by decide +kernel
theorem dL_changeSigh_1 : decode cL_changeSigh 1 = .ok (.iload_n 1, 1) := by decide +kernel
theorem dL_changeSigh_2 : decode cL_changeSigh 2 = .ok (.iload_n 2, 1) := by decide +kernel
theorem dL_changeSigh_3 : decode cL_changeSigh 3 = .ok (.invokevirtual 25, 3) := by decide +kernel
theorem dL_changeSigh_6 : decode cL_changeSigh 6 = .ok (.ireturn, 1) := by decide +kernel
theorem dL_changeSigh_7 : decode cL_changeSigh 7 = .ok (.astore_n 3, 1) := by decide +kernel
theorem dL_changeSigh_8 : decode cL_changeSigh 8 = .ok (.bipush (-2), 2) := by decide +kernel
theorem dL_changeSigh_10 : decode cL_changeSigh 10 = .ok (.ireturn, 1) := by decide +kernel
theorem dL_changeSigh_11 : decode cL_changeSigh 11 = .ok (.astore_n 3, 1) := by decide +kernel
theorem dL_changeSigh_12 : decode cL_changeSigh 12 = .ok (.bipush (-3), 2) := by decide +kernel
theorem dL_changeSigh_14 : decode cL_changeSigh 14 = .ok (.ireturn, 1) := by decide +kernel
theorem dL_changeSigh_15 : decode cL_changeSigh 15 = .ok (.astore_n 3, 1) := by decide +kernel
theorem dL_changeSigh_16 : decode cL_changeSigh 16 = .ok (.bipush (-4), 2) := by decide +kernel
theorem dL_changeSigh_18 : decode cL_changeSigh 18 = .ok (.ireturn, 1) := by decide +kernel
theorem dL_moveClause_0 : decode cL_moveClause 0 = .ok (.aload_n 0, 1) := by decide +kernel
theorem dL_moveClause_1 : decode cL_moveClause 1 = .ok (.iload_n 1, 1) := by decide +kernel
theorem dL_moveClause_2 : decode cL_moveClause 2 = .ok (.iload_n 2, 1) := by decide +kernel
theorem dL_moveClause_3 : decode cL_moveClause 3 = .ok (.invokevirtual 28, 3) := by decide +kernel
theorem dL_moveClause_6 : decode cL_moveClause 6 = .ok (.ireturn, 1) := by decide +kernel
theorem dL_moveClause_7 : decode cL_moveClause 7 = .ok (.astore_n 3, 1) := by decide +kernel
theorem dL_moveClause_8 : decode cL_moveClause 8 = .ok (.bipush (-2), 2) := by decide +kernel
theorem dL_moveClause_10 : decode cL_moveClause 10 = .ok (.ireturn, 1) := by decide +kernel
theorem dL_moveClause_11 : decode cL_moveClause 11 = .ok (.astore_n 3, 1) := by decide +kernel
theorem dL_moveClause_12 : decode cL_moveClause 12 = .ok (.bipush (-4), 2) := by decide +kernel
theorem dL_moveClause_14 : decode cL_moveClause 14 = .ok (.ireturn, 1) := by decide +kernel
theorem dL_translate_0 : decode cL_translate 0 = .ok (.aload_n 0, 1) := by decide +kernel
theorem dL_translate_1 : decode cL_translate 1 = .ok (.iload_n 1, 1) := by decide +kernel
theorem dL_translate_2 : decode cL_translate 2 = .ok (.iload_n 2, 1) := by decide +kernel
theorem dL_translate_3 : decode cL_translate 3 = .ok (.iload_n 3, 1) := by decide +kernel
theorem dL_translate_4 : decode cL_translate 4 = .ok (.invokevirtual 31, 3) := by decide +kernel
theorem dL_translate_7 : decode cL_translate 7 = .ok (.ireturn, 1) := by decide +kernel
theorem dL_translate_8 : decode cL_translate 8 = .ok (.astore 4, 2) := by decide +kernel
theorem dL_translate_10 : decode cL_translate 10 = .ok (.sipush (-902), 3) := by decide +kernel
theorem dL_translate_13 : decode cL_translate 13 = .ok (.ireturn, 1) := by decide +kernel
theorem dL_translate_14 : decode cL_translate 14 = .ok (.astore 4, 2) := by decide +kernel
theorem dL_translate_16 : decode cL_translate 16 = .ok (.sipush (-903), 3) := by decide +kernel
theorem dL_translate_19 : decode cL_translate 19 = .ok (.ireturn, 1) := by decide +kernel
theorem dL_translate_20 : decode cL_translate 20 = .ok (.astore 4, 2) := by decide +kernel
theorem dL_translate_22 : decode cL_translate 22 = .ok (.sipush (-904), 3) := by decide +kernel
theorem dL_translate_25 : decode cL_translate 25 = .ok (.ireturn, 1) := by decide +kernel
theorem dL_annex_0 : decode cL_annex 0 = .ok (.aload_n 0, 1) := by decide +kernel
theorem dL_annex_1 : decode cL_annex 1 = .ok (.iload_n 1, 1) := by decide +kernel
theorem dL_annex_2 : decode cL_annex 2 = .ok (.iload_n 2, 1) := by decide +kernel
theorem dL_annex_3 : decode cL_annex 3 = .ok (.iload_n 3, 1) := by decide +kernel
theorem dL_annex_4 : decode cL_annex 4 = .ok (.invokevirtual 34, 3) := by decide +kernel
theorem dL_annex_7 : decode cL_annex 7 = .ok (.ireturn, 1) := by decide +kernel
theorem dL_annex_8 : decode cL_annex 8 = .ok (.astore 4, 2) := by decide +kernel
theorem dL_annex_10 : decode cL_annex 10 = .ok (.bipush (-2), 2) := by decide +kernel
theorem dL_annex_12 : decode cL_annex 12 = .ok (.ireturn, 1) := by decide +kernel
theorem dL_annex_13 : decode cL_annex 13 = .ok (.astore 4, 2) := by decide +kernel
theorem dL_annex_15 : decode cL_annex 15 = .ok (.bipush (-3), 2) := by decide +kernel
theorem dL_annex_17 : decode cL_annex 17 = .ok (.ireturn, 1) := by decide +kernel
theorem dL_annex_18 : decode cL_annex 18 = .ok (.astore 4, 2) := by decide +kernel
theorem dL_annex_20 : decode cL_annex 20 = .ok (.bipush (-4), 2) := by decide +kernel
theorem dL_annex_22 : decode cL_annex 22 = .ok (.ireturn, 1) := by decide +kernel
theorem dL_bringBack_0 : decode cL_bringBack 0 = .ok (.aload_n 0, 1) := by decide +kernel
theorem dL_bringBack_1 : decode cL_bringBack 1 = .ok (.iload_n 1, 1) := by decide +kernel
theorem dL_bringBack_2 : decode cL_bringBack 2 = .ok (.iload_n 2, 1) := by decide +kernel
theorem dL_bringBack_3 : decode cL_bringBack 3 = .ok (.invokevirtual 37, 3) := by decide +kernel
theorem dL_bringBack_6 : decode cL_bringBack 6 = .ok (.ireturn, 1) := by decide +kernel
theorem dL_bringBack_7 : decode cL_bringBack 7 = .ok (.astore_n 3, 1) := by decide +kernel
theorem dL_bringBack_8 : decode cL_bringBack 8 = .ok (.bipush (-2), 2) := by decide +kernel
theorem dL_bringBack_10 : decode cL_bringBack 10 = .ok (.ireturn, 1) := by decide +kernel
theorem dL_bringBack_11 : decode cL_bringBack 11 = .ok (.astore_n 3, 1) := by decide +kernel
theorem dL_bringBack_12 : decode cL_bringBack 12 = .ok (.bipush (-4), 2) := by decide +kernel
theorem dL_bringBack_14 : decode cL_bringBack 14 = .ok (.ireturn, 1) := by decide +kernel
theorem dL_cast_0 : decode cL_cast 0 = .ok (.aload_n 0, 1) := by decide +kernel
theorem dL_cast_1 : decode cL_cast 1 = .ok (.iload_n 1, 1) := by decide +kernel
theorem dL_cast_2 : decode cL_cast 2 = .ok (.iload_n 2, 1) := by decide +kernel
theorem dL_cast_3 : decode cL_cast 3 = .ok (.iload_n 3, 1) := by decide +kernel
theorem dL_cast_4 : decode cL_cast 4 = .ok (.invokevirtual 40, 3) := by decide +kernel
theorem dL_cast_7 : decode cL_cast 7 = .ok (.ireturn, 1) := by decide +kernel
theorem dL_cast_8 : decode cL_cast 8 = .ok (.astore 4, 2) := by decide +kernel
theorem dL_cast_10 : decode cL_cast 10 = .ok (.bipush (-2), 2) := by decide +kernel
theorem dL_cast_12 : decode cL_cast 12 = .ok (.ireturn, 1) := by decide +kernel
theorem dL_cast_13 : decode cL_cast 13 = .ok (.astore 4, 2) := by decide +kernel
theorem dL_cast_15 : decode cL_cast 15 = .ok (.bipush (-3), 2) := by decide +kernel
theorem dL_cast_17 : decode cL_cast 17 = .ok (.ireturn, 1) := by decide +kernel
theorem dL_cast_18 : decode cL_cast 18 = .ok (.astore 4, 2) := by decide +kernel
theorem dL_cast_20 : decode cL_cast 20 = .ok (.bipush (-4), 2) := by decide +kernel
theorem dL_cast_22 : decode cL_cast 22 = .ok (.ireturn, 1) := by decide +kernel
theorem dL_recordIt_0 : decode cL_recordIt 0 = .ok (.aload_n 0, 1) := by decide +kernel
theorem dL_recordIt_1 : decode cL_recordIt 1 = .ok (.iload_n 1, 1) := by decide +kernel
theorem dL_recordIt_2 : decode cL_recordIt 2 = .ok (.iload_n 2, 1) := by decide +kernel
theorem dL_recordIt_3 : decode cL_recordIt 3 = .ok (.invokevirtual 43, 3) := by decide +kernel
theorem dL_recordIt_6 : decode cL_recordIt 6 = .ok (.ireturn, 1) := by decide +kernel
theorem dL_recordIt_7 : decode cL_recordIt 7 = .ok (.astore_n 3, 1) := by decide +kernel
theorem dL_recordIt_8 : decode cL_recordIt 8 = .ok (.bipush (-2), 2) := by decide +kernel
theorem dL_recordIt_10 : decode cL_recordIt 10 = .ok (.ireturn, 1) := by decide +kernel
theorem dL_recordIt_11 : decode cL_recordIt 11 = .ok (.astore_n 3, 1) := by decide +kernel
theorem dL_recordIt_12 : decode cL_recordIt 12 = .ok (.bipush (-4), 2) := by decide +kernel
theorem dL_recordIt_14 : decode cL_recordIt 14 = .ok (.ireturn, 1) := by decide +kernel
theorem dL_wipe_0 : decode cL_wipe 0 = .ok (.aload_n 0, 1) := by decide +kernel
theorem dL_wipe_1 : decode cL_wipe 1 = .ok (.iload_n 1, 1) := by decide +kernel
theorem dL_wipe_2 : decode cL_wipe 2 = .ok (.iload_n 2, 1) := by decide +kernel
theorem dL_wipe_3 : decode cL_wipe 3 = .ok (.invokevirtual 46, 3) := by decide +kernel
theorem dL_wipe_6 : decode cL_wipe 6 = .ok (.ireturn, 1) := by decide +kernel
theorem dL_wipe_7 : decode cL_wipe 7 = .ok (.astore_n 3, 1) := by decide +kernel
theorem dL_wipe_8 : decode cL_wipe 8 = .ok (.bipush (-2), 2) := by decide +kernel
theorem dL_wipe_10 : decode cL_wipe 10 = .ok (.ireturn, 1) := by decide +kernel
theorem dL_wipe_11 : decode cL_wipe 11 = .ok (.astore_n 3, 1) := by decide +kernel
theorem dL_wipe_12 : decode cL_wipe 12 = .ok (.bipush (-4), 2) := by decide +kernel
theorem dL_wipe_14 : decode cL_wipe 14 = .ok (.ireturn, 1) := by decide +kernel
theorem dL_nextSession_0 : decode cL_nextSession 0 = .ok (.aload_n 0, 1) := by decide +kernel
theorem dL_nextSession_1 : decode cL_nextSession 1 = .ok (.invokevirtual 49, 3) := by decide +kernel
theorem dL_nextSession_4 : decode cL_nextSession 4 = .ok (.ireturn, 1) := by decide +kernel
theorem dL_nextSession_5 : decode cL_nextSession 5 = .ok (.astore_n 1, 1) := by decide +kernel
theorem dL_nextSession_6 : decode cL_nextSession 6 = .ok (.bipush (-4), 2) := by decide +kernel
theorem dL_nextSession_8 : decode cL_nextSession 8 = .ok (.ireturn, 1) := by decide +kernel
theorem dL_mix_0 : decode cL_mix 0 = .ok (.aload_n 0, 1) := by decide +kernel
theorem dL_mix_1 : decode cL_mix 1 = .ok (.iload_n 1, 1) := by decide +kernel
theorem dL_mix_2 : decode cL_mix 2 = .ok (.iload_n 2, 1) := by decide +kernel
theorem dL_mix_3 : decode cL_mix 3 = .ok (.invokevirtual 53, 3) := by decide +kernel
theorem dL_mix_6 : decode cL_mix 6 = .ok (.ireturn, 1) := by decide +kernel
theorem dL_mix_7 : decode cL_mix 7 = .ok (.astore_n 3, 1) := by decide +kernel
theorem dL_mix_8 : decode cL_mix 8 = .ok (.bipush (-2), 2) := by decide +kernel
theorem dL_mix_10 : decode cL_mix 10 = .ok (.ireturn, 1) := by decide +kernel
theorem dL_mix_11 : decode cL_mix 11 = .ok (.astore_n 3, 1) := by decide +kernel
theorem dL_mix_12 : decode cL_mix 12 = .ok (.bipush (-4), 2) := by decide +kernel
theorem dL_mix_14 : decode cL_mix 14 = .ok (.ireturn, 1) := by decide +kernel
theorem dL_sign_0 : decode cL_sign 0 = .ok (.aload_n 0, 1) := by decide +kernel
theorem dL_sign_1 : decode cL_sign 1 = .ok (.iload_n 1, 1) := by decide +kernel
theorem dL_sign_2 : decode cL_sign 2 = .ok (.iload_n 2, 1) := by decide +kernel
theorem dL_sign_3 : decode cL_sign 3 = .ok (.iload_n 3, 1) := by decide +kernel
theorem dL_sign_4 : decode cL_sign 4 = .ok (.invokevirtual 56, 3) := by decide +kernel
theorem dL_sign_7 : decode cL_sign 7 = .ok (.ireturn, 1) := by decide +kernel
theorem dL_sign_8 : decode cL_sign 8 = .ok (.astore 4, 2) := by decide +kernel
theorem dL_sign_10 : decode cL_sign 10 = .ok (.bipush (-2), 2) := by decide +kernel
theorem dL_sign_12 : decode cL_sign 12 = .ok (.ireturn, 1) := by decide +kernel
theorem dL_sign_13 : decode cL_sign 13 = .ok (.astore 4, 2) := by decide +kernel
theorem dL_sign_15 : decode cL_sign 15 = .ok (.bipush (-4), 2) := by decide +kernel
theorem dL_sign_17 : decode cL_sign 17 = .ok (.ireturn, 1) := by decide +kernel
theorem dL_clauseOf_0 : decode cL_clauseOf 0 = .ok (.aload_n 0, 1) := by decide +kernel
theorem dL_clauseOf_1 : decode cL_clauseOf 1 = .ok (.iload_n 1, 1) := by decide +kernel
theorem dL_clauseOf_2 : decode cL_clauseOf 2 = .ok (.invokevirtual 59, 3) := by decide +kernel
theorem dL_clauseOf_5 : decode cL_clauseOf 5 = .ok (.iconst 4, 1) := by decide +kernel
theorem dL_clauseOf_6 : decode cL_clauseOf 6 = .ok (.aload_n 0, 1) := by decide +kernel
theorem dL_clauseOf_7 : decode cL_clauseOf 7 = .ok (.iload_n 1, 1) := by decide +kernel
theorem dL_clauseOf_8 : decode cL_clauseOf 8 = .ok (.invokevirtual 63, 3) := by decide +kernel
theorem dL_clauseOf_11 : decode cL_clauseOf 11 = .ok (.imul, 1) := by decide +kernel
theorem dL_clauseOf_12 : decode cL_clauseOf 12 = .ok (.iadd, 1) := by decide +kernel
theorem dL_clauseOf_13 : decode cL_clauseOf 13 = .ok (.bipush 32, 2) := by decide +kernel
theorem dL_clauseOf_15 : decode cL_clauseOf 15 = .ok (.aload_n 0, 1) := by decide +kernel
theorem dL_clauseOf_16 : decode cL_clauseOf 16 = .ok (.iload_n 1, 1) := by decide +kernel
theorem dL_clauseOf_17 : decode cL_clauseOf 17 = .ok (.invokevirtual 66, 3) := by decide +kernel
theorem dL_clauseOf_20 : decode cL_clauseOf 20 = .ok (.imul, 1) := by decide +kernel
theorem dL_clauseOf_21 : decode cL_clauseOf 21 = .ok (.iadd, 1) := by decide +kernel
theorem dL_clauseOf_22 : decode cL_clauseOf 22 = .ok (.sipush 2048, 3) := by decide +kernel
theorem dL_clauseOf_25 : decode cL_clauseOf 25 = .ok (.aload_n 0, 1) := by decide +kernel
theorem dL_clauseOf_26 : decode cL_clauseOf 26 = .ok (.iload_n 1, 1) := by decide +kernel
theorem dL_clauseOf_27 : decode cL_clauseOf 27 = .ok (.invokevirtual 69, 3) := by decide +kernel
theorem dL_clauseOf_30 : decode cL_clauseOf 30 = .ok (.imul, 1) := by decide +kernel
theorem dL_clauseOf_31 : decode cL_clauseOf 31 = .ok (.iadd, 1) := by decide +kernel
theorem dL_clauseOf_32 : decode cL_clauseOf 32 = .ok (.ireturn, 1) := by decide +kernel
theorem dL_clauseOf_33 : decode cL_clauseOf 33 = .ok (.astore_n 2, 1) := by decide +kernel
theorem dL_clauseOf_34 : decode cL_clauseOf 34 = .ok (.bipush (-2), 2) := by decide +kernel
theorem dL_clauseOf_36 : decode cL_clauseOf 36 = .ok (.ireturn, 1) := by decide +kernel
theorem dL_isTranslated_0 : decode cL_isTranslated 0 = .ok (.aload_n 0, 1) := by decide +kernel
theorem dL_isTranslated_1 : decode cL_isTranslated 1 = .ok (.iload_n 1, 1) := by decide +kernel
theorem dL_isTranslated_2 : decode cL_isTranslated 2 = .ok (.iload_n 2, 1) := by decide +kernel
theorem dL_isTranslated_3 : decode cL_isTranslated 3 = .ok (.invokevirtual 72, 3) := by decide +kernel
theorem dL_isTranslated_6 : decode cL_isTranslated 6 = .ok (.ifCond .eq 7, 3) := by decide +kernel
theorem dL_isTranslated_9 : decode cL_isTranslated 9 = .ok (.iconst 1, 1) := by decide +kernel
theorem dL_isTranslated_10 : decode cL_isTranslated 10 = .ok (.goto 4, 3) := by decide +kernel
theorem dL_isTranslated_13 : decode cL_isTranslated 13 = .ok (.iconst 0, 1) := by decide +kernel
theorem dL_isTranslated_14 : decode cL_isTranslated 14 = .ok (.ireturn, 1) := by decide +kernel
theorem dL_isTranslated_15 : decode cL_isTranslated 15 = .ok (.astore_n 3, 1) := by decide +kernel
theorem dL_isTranslated_16 : decode cL_isTranslated 16 = .ok (.bipush (-2), 2) := by decide +kernel
theorem dL_isTranslated_18 : decode cL_isTranslated 18 = .ok (.ireturn, 1) := by decide +kernel
theorem dL_framesOf_0 : decode cL_framesOf 0 = .ok (.aload_n 0, 1) := by decide +kernel
theorem dL_framesOf_1 : decode cL_framesOf 1 = .ok (.iload_n 1, 1) := by decide +kernel
theorem dL_framesOf_2 : decode cL_framesOf 2 = .ok (.iload_n 2, 1) := by decide +kernel
theorem dL_framesOf_3 : decode cL_framesOf 3 = .ok (.invokevirtual 76, 3) := by decide +kernel
theorem dL_framesOf_6 : decode cL_framesOf 6 = .ok (.ireturn, 1) := by decide +kernel
theorem dL_framesOf_7 : decode cL_framesOf 7 = .ok (.astore_n 3, 1) := by decide +kernel
theorem dL_framesOf_8 : decode cL_framesOf 8 = .ok (.bipush (-2), 2) := by decide +kernel
theorem dL_framesOf_10 : decode cL_framesOf 10 = .ok (.ireturn, 1) := by decide +kernel
theorem dL_framesOf_11 : decode cL_framesOf 11 = .ok (.astore_n 3, 1) := by decide +kernel
theorem dL_framesOf_12 : decode cL_framesOf 12 = .ok (.bipush (-4), 2) := by decide +kernel
theorem dL_framesOf_14 : decode cL_framesOf 14 = .ok (.ireturn, 1) := by decide +kernel
theorem dL_annexedOf_0 : decode cL_annexedOf 0 = .ok (.aload_n 0, 1) := by decide +kernel
theorem dL_annexedOf_1 : decode cL_annexedOf 1 = .ok (.iload_n 1, 1) := by decide +kernel
theorem dL_annexedOf_2 : decode cL_annexedOf 2 = .ok (.iload_n 2, 1) := by decide +kernel
theorem dL_annexedOf_3 : decode cL_annexedOf 3 = .ok (.invokevirtual 79, 3) := by decide +kernel
theorem dL_annexedOf_6 : decode cL_annexedOf 6 = .ok (.ireturn, 1) := by decide +kernel
theorem dL_annexedOf_7 : decode cL_annexedOf 7 = .ok (.astore_n 3, 1) := by decide +kernel
theorem dL_annexedOf_8 : decode cL_annexedOf 8 = .ok (.bipush (-2), 2) := by decide +kernel
theorem dL_annexedOf_10 : decode cL_annexedOf 10 = .ok (.ireturn, 1) := by decide +kernel
theorem dL_isRecorded_0 : decode cL_isRecorded 0 = .ok (.aload_n 0, 1) := by decide +kernel
theorem dL_isRecorded_1 : decode cL_isRecorded 1 = .ok (.iload_n 1, 1) := by decide +kernel
theorem dL_isRecorded_2 : decode cL_isRecorded 2 = .ok (.iload_n 2, 1) := by decide +kernel
theorem dL_isRecorded_3 : decode cL_isRecorded 3 = .ok (.invokevirtual 82, 3) := by decide +kernel
theorem dL_isRecorded_6 : decode cL_isRecorded 6 = .ok (.ifCond .eq 7, 3) := by decide +kernel
theorem dL_isRecorded_9 : decode cL_isRecorded 9 = .ok (.iconst 1, 1) := by decide +kernel
theorem dL_isRecorded_10 : decode cL_isRecorded 10 = .ok (.goto 4, 3) := by decide +kernel
theorem dL_isRecorded_13 : decode cL_isRecorded 13 = .ok (.iconst 0, 1) := by decide +kernel
theorem dL_isRecorded_14 : decode cL_isRecorded 14 = .ok (.ireturn, 1) := by decide +kernel
theorem dL_isRecorded_15 : decode cL_isRecorded 15 = .ok (.astore_n 3, 1) := by decide +kernel
theorem dL_isRecorded_16 : decode cL_isRecorded 16 = .ok (.bipush (-2), 2) := by decide +kernel
theorem dL_isRecorded_18 : decode cL_isRecorded 18 = .ok (.ireturn, 1) := by decide +kernel
theorem dL_sessionOf_0 : decode cL_sessionOf 0 = .ok (.aload_n 0, 1) := by decide +kernel
theorem dL_sessionOf_1 : decode cL_sessionOf 1 = .ok (.iload_n 1, 1) := by decide +kernel
theorem dL_sessionOf_2 : decode cL_sessionOf 2 = .ok (.iload_n 2, 1) := by decide +kernel
theorem dL_sessionOf_3 : decode cL_sessionOf 3 = .ok (.invokevirtual 85, 3) := by decide +kernel
theorem dL_sessionOf_6 : decode cL_sessionOf 6 = .ok (.ireturn, 1) := by decide +kernel
theorem dL_sessionOf_7 : decode cL_sessionOf 7 = .ok (.astore_n 3, 1) := by decide +kernel
theorem dL_sessionOf_8 : decode cL_sessionOf 8 = .ok (.bipush (-2), 2) := by decide +kernel
theorem dL_sessionOf_10 : decode cL_sessionOf 10 = .ok (.ireturn, 1) := by decide +kernel
theorem dL_sessionOf_11 : decode cL_sessionOf 11 = .ok (.astore_n 3, 1) := by decide +kernel
theorem dL_sessionOf_12 : decode cL_sessionOf 12 = .ok (.bipush (-4), 2) := by decide +kernel
theorem dL_sessionOf_14 : decode cL_sessionOf 14 = .ok (.ireturn, 1) := by decide +kernel
theorem dL_roomFor_0 : decode cL_roomFor 0 = .ok (.aload_n 0, 1) := by decide +kernel
theorem dL_roomFor_1 : decode cL_roomFor 1 = .ok (.iload_n 1, 1) := by decide +kernel
theorem dL_roomFor_2 : decode cL_roomFor 2 = .ok (.iload_n 2, 1) := by decide +kernel
theorem dL_roomFor_3 : decode cL_roomFor 3 = .ok (.invokevirtual 88, 3) := by decide +kernel
theorem dL_roomFor_6 : decode cL_roomFor 6 = .ok (.ireturn, 1) := by decide +kernel
theorem dL_roomFor_7 : decode cL_roomFor 7 = .ok (.astore_n 3, 1) := by decide +kernel
theorem dL_roomFor_8 : decode cL_roomFor 8 = .ok (.sipush (-902), 3) := by decide +kernel
theorem dL_roomFor_11 : decode cL_roomFor 11 = .ok (.ireturn, 1) := by decide +kernel
theorem dL_roomFor_12 : decode cL_roomFor 12 = .ok (.astore_n 3, 1) := by decide +kernel
theorem dL_roomFor_13 : decode cL_roomFor 13 = .ok (.sipush (-904), 3) := by decide +kernel
theorem dL_roomFor_16 : decode cL_roomFor 16 = .ok (.ireturn, 1) := by decide +kernel
theorem dL_fits_0 : decode cL_fits 0 = .ok (.aload_n 0, 1) := by decide +kernel
theorem dL_fits_1 : decode cL_fits 1 = .ok (.iload_n 1, 1) := by decide +kernel
theorem dL_fits_2 : decode cL_fits 2 = .ok (.iload_n 2, 1) := by decide +kernel
theorem dL_fits_3 : decode cL_fits 3 = .ok (.invokevirtual 91, 3) := by decide +kernel
theorem dL_fits_6 : decode cL_fits 6 = .ok (.ifCond .eq 7, 3) := by decide +kernel
theorem dL_fits_9 : decode cL_fits 9 = .ok (.iconst 1, 1) := by decide +kernel
theorem dL_fits_10 : decode cL_fits 10 = .ok (.goto 4, 3) := by decide +kernel
theorem dL_fits_13 : decode cL_fits 13 = .ok (.iconst 0, 1) := by decide +kernel
theorem dL_fits_14 : decode cL_fits 14 = .ok (.ireturn, 1) := by decide +kernel
theorem dL_fits_15 : decode cL_fits 15 = .ok (.astore_n 3, 1) := by decide +kernel
theorem dL_fits_16 : decode cL_fits 16 = .ok (.bipush (-2), 2) := by decide +kernel
theorem dL_fits_18 : decode cL_fits 18 = .ok (.ireturn, 1) := by decide +kernel
theorem dL_hundredthsOf_0 : decode cL_hundredthsOf 0 = .ok (.aload_n 0, 1) := by decide +kernel
theorem dL_hundredthsOf_1 : decode cL_hundredthsOf 1 = .ok (.iload_n 1, 1) := by decide +kernel
theorem dL_hundredthsOf_2 : decode cL_hundredthsOf 2 = .ok (.iload_n 2, 1) := by decide +kernel
theorem dL_hundredthsOf_3 : decode cL_hundredthsOf 3 = .ok (.invokevirtual 94, 3) := by decide +kernel
theorem dL_hundredthsOf_6 : decode cL_hundredthsOf 6 = .ok (.ireturn, 1) := by decide +kernel
theorem dL_hundredthsOf_7 : decode cL_hundredthsOf 7 = .ok (.astore_n 3, 1) := by decide +kernel
theorem dL_hundredthsOf_8 : decode cL_hundredthsOf 8 = .ok (.bipush (-2), 2) := by decide +kernel
theorem dL_hundredthsOf_10 : decode cL_hundredthsOf 10 = .ok (.ireturn, 1) := by decide +kernel
theorem dL_hundredthsOf_11 : decode cL_hundredthsOf 11 = .ok (.astore_n 3, 1) := by decide +kernel
theorem dL_hundredthsOf_12 : decode cL_hundredthsOf 12 = .ok (.bipush (-4), 2) := by decide +kernel
theorem dL_hundredthsOf_14 : decode cL_hundredthsOf 14 = .ok (.ireturn, 1) := by decide +kernel
theorem dL_reasonAgainst_0 : decode cL_reasonAgainst 0 = .ok (.aload_n 0, 1) := by decide +kernel
theorem dL_reasonAgainst_1 : decode cL_reasonAgainst 1 = .ok (.iload_n 1, 1) := by decide +kernel
theorem dL_reasonAgainst_2 : decode cL_reasonAgainst 2 = .ok (.iload_n 2, 1) := by decide +kernel
theorem dL_reasonAgainst_3 : decode cL_reasonAgainst 3 = .ok (.invokevirtual 97, 3) := by decide +kernel
theorem dL_reasonAgainst_6 : decode cL_reasonAgainst 6 = .ok (.ireturn, 1) := by decide +kernel
theorem dL_reasonAgainst_7 : decode cL_reasonAgainst 7 = .ok (.astore_n 3, 1) := by decide +kernel
theorem dL_reasonAgainst_8 : decode cL_reasonAgainst 8 = .ok (.bipush (-2), 2) := by decide +kernel
theorem dL_reasonAgainst_10 : decode cL_reasonAgainst 10 = .ok (.ireturn, 1) := by decide +kernel
theorem dL_staminaOf_0 : decode cL_staminaOf 0 = .ok (.aload_n 0, 1) := by decide +kernel
theorem dL_staminaOf_1 : decode cL_staminaOf 1 = .ok (.iload_n 1, 1) := by decide +kernel
theorem dL_staminaOf_2 : decode cL_staminaOf 2 = .ok (.iload_n 2, 1) := by decide +kernel
theorem dL_staminaOf_3 : decode cL_staminaOf 3 = .ok (.invokevirtual 100, 3) := by decide +kernel
theorem dL_staminaOf_6 : decode cL_staminaOf 6 = .ok (.ireturn, 1) := by decide +kernel
theorem dL_staminaOf_7 : decode cL_staminaOf 7 = .ok (.astore_n 3, 1) := by decide +kernel
theorem dL_staminaOf_8 : decode cL_staminaOf 8 = .ok (.bipush (-2), 2) := by decide +kernel
theorem dL_staminaOf_10 : decode cL_staminaOf 10 = .ok (.ireturn, 1) := by decide +kernel
theorem dL_strengthLeft_0 : decode cL_strengthLeft 0 = .ok (.aload_n 0, 1) := by decide +kernel
theorem dL_strengthLeft_1 : decode cL_strengthLeft 1 = .ok (.iload_n 1, 1) := by decide +kernel
theorem dL_strengthLeft_2 : decode cL_strengthLeft 2 = .ok (.iload_n 2, 1) := by decide +kernel
theorem dL_strengthLeft_3 : decode cL_strengthLeft 3 = .ok (.invokevirtual 103, 3) := by decide +kernel
theorem dL_strengthLeft_6 : decode cL_strengthLeft 6 = .ok (.ireturn, 1) := by decide +kernel
theorem dL_strengthLeft_7 : decode cL_strengthLeft 7 = .ok (.astore_n 3, 1) := by decide +kernel
theorem dL_strengthLeft_8 : decode cL_strengthLeft 8 = .ok (.bipush (-2), 2) := by decide +kernel
theorem dL_strengthLeft_10 : decode cL_strengthLeft 10 = .ok (.ireturn, 1) := by decide +kernel
theorem dL_framesOfVoice_0 : decode cL_framesOfVoice 0 = .ok (.aload_n 0, 1) := by decide +kernel
theorem dL_framesOfVoice_1 : decode cL_framesOfVoice 1 = .ok (.iload_n 1, 1) := by decide +kernel
theorem dL_framesOfVoice_2 : decode cL_framesOfVoice 2 = .ok (.iload_n 2, 1) := by decide +kernel
theorem dL_framesOfVoice_3 : decode cL_framesOfVoice 3 = .ok (.invokevirtual 106, 3) := by decide +kernel
theorem dL_framesOfVoice_6 : decode cL_framesOfVoice 6 = .ok (.ireturn, 1) := by decide +kernel
theorem dL_framesOfVoice_7 : decode cL_framesOfVoice 7 = .ok (.astore_n 3, 1) := by decide +kernel
theorem dL_framesOfVoice_8 : decode cL_framesOfVoice 8 = .ok (.bipush (-2), 2) := by decide +kernel
theorem dL_framesOfVoice_10 : decode cL_framesOfVoice 10 = .ok (.ireturn, 1) := by decide +kernel
theorem dL_sessionsByGoing_0 : decode cL_sessionsByGoing 0 = .ok (.aload_n 0, 1) := by decide +kernel
theorem dL_sessionsByGoing_1 : decode cL_sessionsByGoing 1 = .ok (.iload_n 1, 1) := by decide +kernel
theorem dL_sessionsByGoing_2 : decode cL_sessionsByGoing 2 = .ok (.iload_n 2, 1) := by decide +kernel
theorem dL_sessionsByGoing_3 : decode cL_sessionsByGoing 3 = .ok (.invokevirtual 109, 3) := by decide +kernel
theorem dL_sessionsByGoing_6 : decode cL_sessionsByGoing 6 = .ok (.ireturn, 1) := by decide +kernel
theorem dL_sessionsByGoing_7 : decode cL_sessionsByGoing 7 = .ok (.astore_n 3, 1) := by decide +kernel
theorem dL_sessionsByGoing_8 : decode cL_sessionsByGoing 8 = .ok (.bipush (-2), 2) := by decide +kernel
theorem dL_sessionsByGoing_10 : decode cL_sessionsByGoing 10 = .ok (.ireturn, 1) := by decide +kernel
theorem dL_sessionsByGoing_11 : decode cL_sessionsByGoing 11 = .ok (.astore_n 3, 1) := by decide +kernel
theorem dL_sessionsByGoing_12 : decode cL_sessionsByGoing 12 = .ok (.bipush (-4), 2) := by decide +kernel
theorem dL_sessionsByGoing_14 : decode cL_sessionsByGoing 14 = .ok (.ireturn, 1) := by decide +kernel
theorem dL_sessionsByTable_0 : decode cL_sessionsByTable 0 = .ok (.aload_n 0, 1) := by decide +kernel
theorem dL_sessionsByTable_1 : decode cL_sessionsByTable 1 = .ok (.iload_n 1, 1) := by decide +kernel
theorem dL_sessionsByTable_2 : decode cL_sessionsByTable 2 = .ok (.iload_n 2, 1) := by decide +kernel
theorem dL_sessionsByTable_3 : decode cL_sessionsByTable 3 = .ok (.invokevirtual 112, 3) := by decide +kernel
theorem dL_sessionsByTable_6 : decode cL_sessionsByTable 6 = .ok (.ireturn, 1) := by decide +kernel
theorem dL_sessionsByTable_7 : decode cL_sessionsByTable 7 = .ok (.astore_n 3, 1) := by decide +kernel
theorem dL_sessionsByTable_8 : decode cL_sessionsByTable 8 = .ok (.bipush (-2), 2) := by decide +kernel
theorem dL_sessionsByTable_10 : decode cL_sessionsByTable 10 = .ok (.ireturn, 1) := by decide +kernel
theorem dL_sessionsByTable_11 : decode cL_sessionsByTable 11 = .ok (.astore_n 3, 1) := by decide +kernel
theorem dL_sessionsByTable_12 : decode cL_sessionsByTable 12 = .ok (.bipush (-4), 2) := by decide +kernel
theorem dL_sessionsByTable_14 : decode cL_sessionsByTable 14 = .ok (.ireturn, 1) := by decide +kernel
theorem dL_reelAt_0 : decode cL_reelAt 0 = .ok (.aload_n 0, 1) := by decide +kernel
theorem dL_reelAt_1 : decode cL_reelAt 1 = .ok (.iload_n 1, 1) := by decide +kernel
theorem dL_reelAt_2 : decode cL_reelAt 2 = .ok (.invokevirtual 115, 3) := by decide +kernel
theorem dL_reelAt_5 : decode cL_reelAt 5 = .ok (.bipush 100, 2) := by decide +kernel
theorem dL_reelAt_7 : decode cL_reelAt 7 = .ok (.aload_n 0, 1) := by decide +kernel
theorem dL_reelAt_8 : decode cL_reelAt 8 = .ok (.iload_n 1, 1) := by decide +kernel
theorem dL_reelAt_9 : decode cL_reelAt 9 = .ok (.invokevirtual 118, 3) := by decide +kernel
theorem dL_reelAt_12 : decode cL_reelAt 12 = .ok (.imul, 1) := by decide +kernel
theorem dL_reelAt_13 : decode cL_reelAt 13 = .ok (.iadd, 1) := by decide +kernel
theorem dL_reelAt_14 : decode cL_reelAt 14 = .ok (.ireturn, 1) := by decide +kernel
theorem dL_reelAt_15 : decode cL_reelAt 15 = .ok (.astore_n 2, 1) := by decide +kernel
theorem dL_reelAt_16 : decode cL_reelAt 16 = .ok (.bipush (-2), 2) := by decide +kernel
theorem dL_reelAt_18 : decode cL_reelAt 18 = .ok (.ireturn, 1) := by decide +kernel
theorem dL_speaksIn_0 : decode cL_speaksIn 0 = .ok (.aload_n 0, 1) := by decide +kernel
theorem dL_speaksIn_1 : decode cL_speaksIn 1 = .ok (.iload_n 1, 1) := by decide +kernel
theorem dL_speaksIn_2 : decode cL_speaksIn 2 = .ok (.iload_n 2, 1) := by decide +kernel
theorem dL_speaksIn_3 : decode cL_speaksIn 3 = .ok (.invokevirtual 121, 3) := by decide +kernel
theorem dL_speaksIn_6 : decode cL_speaksIn 6 = .ok (.ifCond .eq 7, 3) := by decide +kernel
theorem dL_speaksIn_9 : decode cL_speaksIn 9 = .ok (.iconst 1, 1) := by decide +kernel
theorem dL_speaksIn_10 : decode cL_speaksIn 10 = .ok (.goto 4, 3) := by decide +kernel
theorem dL_speaksIn_13 : decode cL_speaksIn 13 = .ok (.iconst 0, 1) := by decide +kernel
theorem dL_speaksIn_14 : decode cL_speaksIn 14 = .ok (.ireturn, 1) := by decide +kernel
theorem dL_speaksIn_15 : decode cL_speaksIn 15 = .ok (.astore_n 3, 1) := by decide +kernel
theorem dL_speaksIn_16 : decode cL_speaksIn 16 = .ok (.bipush (-2), 2) := by decide +kernel
theorem dL_speaksIn_18 : decode cL_speaksIn 18 = .ok (.ireturn, 1) := by decide +kernel
theorem dL_mixOf_0 : decode cL_mixOf 0 = .ok (.aload_n 0, 1) := by decide +kernel
theorem dL_mixOf_1 : decode cL_mixOf 1 = .ok (.iload_n 1, 1) := by decide +kernel
theorem dL_mixOf_2 : decode cL_mixOf 2 = .ok (.iload_n 2, 1) := by decide +kernel
theorem dL_mixOf_3 : decode cL_mixOf 3 = .ok (.invokevirtual 124, 3) := by decide +kernel
theorem dL_mixOf_6 : decode cL_mixOf 6 = .ok (.ifCond .eq 7, 3) := by decide +kernel
theorem dL_mixOf_9 : decode cL_mixOf 9 = .ok (.iconst 1, 1) := by decide +kernel
theorem dL_mixOf_10 : decode cL_mixOf 10 = .ok (.goto 4, 3) := by decide +kernel
theorem dL_mixOf_13 : decode cL_mixOf 13 = .ok (.iconst 0, 1) := by decide +kernel
theorem dL_mixOf_14 : decode cL_mixOf 14 = .ok (.aload_n 0, 1) := by decide +kernel
theorem dL_mixOf_15 : decode cL_mixOf 15 = .ok (.iload_n 1, 1) := by decide +kernel
theorem dL_mixOf_16 : decode cL_mixOf 16 = .ok (.iload_n 2, 1) := by decide +kernel
theorem dL_mixOf_17 : decode cL_mixOf 17 = .ok (.invokevirtual 127, 3) := by decide +kernel
theorem dL_mixOf_20 : decode cL_mixOf 20 = .ok (.ifCond .eq 7, 3) := by decide +kernel
theorem dL_mixOf_23 : decode cL_mixOf 23 = .ok (.iconst 2, 1) := by decide +kernel
theorem dL_mixOf_24 : decode cL_mixOf 24 = .ok (.goto 4, 3) := by decide +kernel
theorem dL_mixOf_27 : decode cL_mixOf 27 = .ok (.iconst 0, 1) := by decide +kernel
theorem dL_mixOf_28 : decode cL_mixOf 28 = .ok (.iadd, 1) := by decide +kernel
theorem dL_mixOf_29 : decode cL_mixOf 29 = .ok (.bipush 10, 2) := by decide +kernel
theorem dL_mixOf_31 : decode cL_mixOf 31 = .ok (.aload_n 0, 1) := by decide +kernel
theorem dL_mixOf_32 : decode cL_mixOf 32 = .ok (.iload_n 1, 1) := by decide +kernel
theorem dL_mixOf_33 : decode cL_mixOf 33 = .ok (.iload_n 2, 1) := by decide +kernel
theorem dL_mixOf_34 : decode cL_mixOf 34 = .ok (.invokevirtual 130, 3) := by decide +kernel
theorem dL_mixOf_37 : decode cL_mixOf 37 = .ok (.imul, 1) := by decide +kernel
theorem dL_mixOf_38 : decode cL_mixOf 38 = .ok (.iadd, 1) := by decide +kernel
theorem dL_mixOf_39 : decode cL_mixOf 39 = .ok (.bipush 100, 2) := by decide +kernel
theorem dL_mixOf_41 : decode cL_mixOf 41 = .ok (.aload_n 0, 1) := by decide +kernel
theorem dL_mixOf_42 : decode cL_mixOf 42 = .ok (.iload_n 1, 1) := by decide +kernel
theorem dL_mixOf_43 : decode cL_mixOf 43 = .ok (.iload_n 2, 1) := by decide +kernel
theorem dL_mixOf_44 : decode cL_mixOf 44 = .ok (.invokevirtual 133, 3) := by decide +kernel
theorem dL_mixOf_47 : decode cL_mixOf 47 = .ok (.imul, 1) := by decide +kernel
theorem dL_mixOf_48 : decode cL_mixOf 48 = .ok (.iadd, 1) := by decide +kernel
theorem dL_mixOf_49 : decode cL_mixOf 49 = .ok (.ireturn, 1) := by decide +kernel
theorem dL_mixOf_50 : decode cL_mixOf 50 = .ok (.astore_n 3, 1) := by decide +kernel
theorem dL_mixOf_51 : decode cL_mixOf 51 = .ok (.bipush (-2), 2) := by decide +kernel
theorem dL_mixOf_53 : decode cL_mixOf 53 = .ok (.ireturn, 1) := by decide +kernel
theorem dL_hasSigned_0 : decode cL_hasSigned 0 = .ok (.aload_n 0, 1) := by decide +kernel
theorem dL_hasSigned_1 : decode cL_hasSigned 1 = .ok (.iload_n 1, 1) := by decide +kernel
theorem dL_hasSigned_2 : decode cL_hasSigned 2 = .ok (.iload_n 2, 1) := by decide +kernel
theorem dL_hasSigned_3 : decode cL_hasSigned 3 = .ok (.iload_n 3, 1) := by decide +kernel
theorem dL_hasSigned_4 : decode cL_hasSigned 4 = .ok (.invokevirtual 136, 3) := by decide +kernel
theorem dL_hasSigned_7 : decode cL_hasSigned 7 = .ok (.ifCond .eq 7, 3) := by decide +kernel
theorem dL_hasSigned_10 : decode cL_hasSigned 10 = .ok (.iconst 1, 1) := by decide +kernel
theorem dL_hasSigned_11 : decode cL_hasSigned 11 = .ok (.goto 4, 3) := by decide +kernel
theorem dL_hasSigned_14 : decode cL_hasSigned 14 = .ok (.iconst 0, 1) := by decide +kernel
theorem dL_hasSigned_15 : decode cL_hasSigned 15 = .ok (.ireturn, 1) := by decide +kernel
theorem dL_hasSigned_16 : decode cL_hasSigned 16 = .ok (.astore 4, 2) := by decide +kernel
theorem dL_hasSigned_18 : decode cL_hasSigned 18 = .ok (.bipush (-2), 2) := by decide +kernel
theorem dL_hasSigned_20 : decode cL_hasSigned 20 = .ok (.ireturn, 1) := by decide +kernel
theorem dL_ready_0 : decode cL_ready 0 = .ok (.aload_n 0, 1) := by decide +kernel
theorem dL_ready_1 : decode cL_ready 1 = .ok (.iload_n 1, 1) := by decide +kernel
theorem dL_ready_2 : decode cL_ready 2 = .ok (.invokevirtual 140, 3) := by decide +kernel
theorem dL_ready_5 : decode cL_ready 5 = .ok (.aload_n 0, 1) := by decide +kernel
theorem dL_ready_6 : decode cL_ready 6 = .ok (.iload_n 1, 1) := by decide +kernel
theorem dL_ready_7 : decode cL_ready 7 = .ok (.invokevirtual 143, 3) := by decide +kernel
theorem dL_ready_10 : decode cL_ready 10 = .ok (.if_icmp .ne 11, 3) := by decide +kernel
theorem dL_ready_13 : decode cL_ready 13 = .ok (.aload_n 0, 1) := by decide +kernel
theorem dL_ready_14 : decode cL_ready 14 = .ok (.iload_n 1, 1) := by decide +kernel
theorem dL_ready_15 : decode cL_ready 15 = .ok (.invokevirtual 140, 3) := by decide +kernel
theorem dL_ready_18 : decode cL_ready 18 = .ok (.goto 5, 3) := by decide +kernel
theorem dL_ready_21 : decode cL_ready 21 = .ok (.bipush (-9), 2) := by decide +kernel
theorem dL_ready_23 : decode cL_ready 23 = .ok (.ireturn, 1) := by decide +kernel
theorem dL_ready_24 : decode cL_ready 24 = .ok (.astore_n 2, 1) := by decide +kernel
theorem dL_ready_25 : decode cL_ready 25 = .ok (.bipush (-2), 2) := by decide +kernel
theorem dL_ready_27 : decode cL_ready 27 = .ok (.ireturn, 1) := by decide +kernel
theorem dL_tongueAt_0 : decode cL_tongueAt 0 = .ok (.aload_n 0, 1) := by decide +kernel
theorem dL_tongueAt_1 : decode cL_tongueAt 1 = .ok (.iload_n 1, 1) := by decide +kernel
theorem dL_tongueAt_2 : decode cL_tongueAt 2 = .ok (.invokevirtual 146, 3) := by decide +kernel
theorem dL_tongueAt_5 : decode cL_tongueAt 5 = .ok (.bipush 100, 2) := by decide +kernel
theorem dL_tongueAt_7 : decode cL_tongueAt 7 = .ok (.aload_n 0, 1) := by decide +kernel
theorem dL_tongueAt_8 : decode cL_tongueAt 8 = .ok (.iload_n 1, 1) := by decide +kernel
theorem dL_tongueAt_9 : decode cL_tongueAt 9 = .ok (.invokevirtual 149, 3) := by decide +kernel
theorem dL_tongueAt_12 : decode cL_tongueAt 12 = .ok (.imul, 1) := by decide +kernel
theorem dL_tongueAt_13 : decode cL_tongueAt 13 = .ok (.iadd, 1) := by decide +kernel
theorem dL_tongueAt_14 : decode cL_tongueAt 14 = .ok (.sipush 10000, 3) := by decide +kernel
theorem dL_tongueAt_17 : decode cL_tongueAt 17 = .ok (.aload_n 0, 1) := by decide +kernel
theorem dL_tongueAt_18 : decode cL_tongueAt 18 = .ok (.iload_n 1, 1) := by decide +kernel
theorem dL_tongueAt_19 : decode cL_tongueAt 19 = .ok (.invokevirtual 152, 3) := by decide +kernel
theorem dL_tongueAt_22 : decode cL_tongueAt 22 = .ok (.imul, 1) := by decide +kernel
theorem dL_tongueAt_23 : decode cL_tongueAt 23 = .ok (.iadd, 1) := by decide +kernel
theorem dL_tongueAt_24 : decode cL_tongueAt 24 = .ok (.aload_n 0, 1) := by decide +kernel
theorem dL_tongueAt_25 : decode cL_tongueAt 25 = .ok (.iload_n 1, 1) := by decide +kernel
theorem dL_tongueAt_26 : decode cL_tongueAt 26 = .ok (.invokevirtual 155, 3) := by decide +kernel
theorem dL_tongueAt_29 : decode cL_tongueAt 29 = .ok (.ifCond .eq 8, 3) := by decide +kernel
theorem dL_tongueAt_32 : decode cL_tongueAt 32 = .ok (.ldc 159, 2) := by decide +kernel
theorem dL_tongueAt_34 : decode cL_tongueAt 34 = .ok (.goto 4, 3) := by decide +kernel
theorem dL_tongueAt_37 : decode cL_tongueAt 37 = .ok (.iconst 0, 1) := by decide +kernel
theorem dL_tongueAt_38 : decode cL_tongueAt 38 = .ok (.iadd, 1) := by decide +kernel
theorem dL_tongueAt_39 : decode cL_tongueAt 39 = .ok (.ireturn, 1) := by decide +kernel
theorem dL_tongueAt_40 : decode cL_tongueAt 40 = .ok (.astore_n 2, 1) := by decide +kernel
theorem dL_tongueAt_41 : decode cL_tongueAt 41 = .ok (.bipush (-2), 2) := by decide +kernel
theorem dL_tongueAt_43 : decode cL_tongueAt 43 = .ok (.ireturn, 1) := by decide +kernel
theorem dL_leastAnnex_0 : decode cL_leastAnnex 0 = .ok (.aload_n 0, 1) := by decide +kernel
theorem dL_leastAnnex_1 : decode cL_leastAnnex 1 = .ok (.iload_n 1, 1) := by decide +kernel
theorem dL_leastAnnex_2 : decode cL_leastAnnex 2 = .ok (.iload_n 2, 1) := by decide +kernel
theorem dL_leastAnnex_3 : decode cL_leastAnnex 3 = .ok (.invokevirtual 160, 3) := by decide +kernel
theorem dL_leastAnnex_6 : decode cL_leastAnnex 6 = .ok (.ireturn, 1) := by decide +kernel
theorem dL_leastAnnex_7 : decode cL_leastAnnex 7 = .ok (.astore_n 3, 1) := by decide +kernel
theorem dL_leastAnnex_8 : decode cL_leastAnnex 8 = .ok (.bipush (-2), 2) := by decide +kernel
theorem dL_leastAnnex_10 : decode cL_leastAnnex 10 = .ok (.ireturn, 1) := by decide +kernel
theorem dL_leastAnnex_11 : decode cL_leastAnnex 11 = .ok (.astore_n 3, 1) := by decide +kernel
theorem dL_leastAnnex_12 : decode cL_leastAnnex 12 = .ok (.bipush (-4), 2) := by decide +kernel
theorem dL_leastAnnex_14 : decode cL_leastAnnex 14 = .ok (.ireturn, 1) := by decide +kernel
theorem dL_longestSigh_0 : decode cL_longestSigh 0 = .ok (.aload_n 0, 1) := by decide +kernel
theorem dL_longestSigh_1 : decode cL_longestSigh 1 = .ok (.iload_n 1, 1) := by decide +kernel
theorem dL_longestSigh_2 : decode cL_longestSigh 2 = .ok (.invokevirtual 163, 3) := by decide +kernel
theorem dL_longestSigh_5 : decode cL_longestSigh 5 = .ok (.ireturn, 1) := by decide +kernel
theorem dL_longestSigh_6 : decode cL_longestSigh 6 = .ok (.astore_n 2, 1) := by decide +kernel
theorem dL_longestSigh_7 : decode cL_longestSigh 7 = .ok (.bipush (-2), 2) := by decide +kernel
theorem dL_longestSigh_9 : decode cL_longestSigh 9 = .ok (.ireturn, 1) := by decide +kernel
theorem dL_longestSigh_10 : decode cL_longestSigh 10 = .ok (.astore_n 2, 1) := by decide +kernel
theorem dL_longestSigh_11 : decode cL_longestSigh 11 = .ok (.bipush (-4), 2) := by decide +kernel
theorem dL_longestSigh_13 : decode cL_longestSigh 13 = .ok (.ireturn, 1) := by decide +kernel
theorem dL_nextClause_0 : decode cL_nextClause 0 = .ok (.aload_n 0, 1) := by decide +kernel
theorem dL_nextClause_1 : decode cL_nextClause 1 = .ok (.iload_n 1, 1) := by decide +kernel
theorem dL_nextClause_2 : decode cL_nextClause 2 = .ok (.invokevirtual 166, 3) := by decide +kernel
theorem dL_nextClause_5 : decode cL_nextClause 5 = .ok (.ireturn, 1) := by decide +kernel
theorem dL_nextClause_6 : decode cL_nextClause 6 = .ok (.astore_n 2, 1) := by decide +kernel
theorem dL_nextClause_7 : decode cL_nextClause 7 = .ok (.bipush (-2), 2) := by decide +kernel
theorem dL_nextClause_9 : decode cL_nextClause 9 = .ok (.ireturn, 1) := by decide +kernel
theorem dL_nextClause_10 : decode cL_nextClause 10 = .ok (.astore_n 2, 1) := by decide +kernel
theorem dL_nextClause_11 : decode cL_nextClause 11 = .ok (.bipush (-4), 2) := by decide +kernel
theorem dL_nextClause_13 : decode cL_nextClause 13 = .ok (.ireturn, 1) := by decide +kernel
theorem dL_meanFit_0 : decode cL_meanFit 0 = .ok (.aload_n 0, 1) := by decide +kernel
theorem dL_meanFit_1 : decode cL_meanFit 1 = .ok (.iload_n 1, 1) := by decide +kernel
theorem dL_meanFit_2 : decode cL_meanFit 2 = .ok (.invokevirtual 169, 3) := by decide +kernel
theorem dL_meanFit_5 : decode cL_meanFit 5 = .ok (.dreturn, 1) := by decide +kernel
theorem dL_meanFit_6 : decode cL_meanFit 6 = .ok (.astore_n 2, 1) := by decide +kernel
theorem dL_meanFit_7 : decode cL_meanFit 7 = .ok (.ldc2_w 173, 3) := by decide +kernel
theorem dL_meanFit_10 : decode cL_meanFit 10 = .ok (.dreturn, 1) := by decide +kernel
theorem dL_append_0 : decode cL_append 0 = .ok (.aload_n 0, 1) := by decide +kernel
theorem dL_append_1 : decode cL_append 1 = .ok (.iload_n 1, 1) := by decide +kernel
theorem dL_append_2 : decode cL_append 2 = .ok (.invokevirtual 175, 3) := by decide +kernel
theorem dL_append_5 : decode cL_append 5 = .ok (.ireturn, 1) := by decide +kernel
theorem dL_append_6 : decode cL_append 6 = .ok (.astore_n 2, 1) := by decide +kernel
theorem dL_append_7 : decode cL_append 7 = .ok (.bipush (-3), 2) := by decide +kernel
theorem dL_append_9 : decode cL_append 9 = .ok (.ireturn, 1) := by decide +kernel
theorem dL_append_10 : decode cL_append 10 = .ok (.astore_n 2, 1) := by decide +kernel
theorem dL_append_11 : decode cL_append 11 = .ok (.bipush (-4), 2) := by decide +kernel
theorem dL_append_13 : decode cL_append 13 = .ok (.ireturn, 1) := by decide +kernel
theorem dL_load_0 : decode cL_load 0 = .ok (.aload_n 0, 1) := by decide +kernel
theorem dL_load_1 : decode cL_load 1 = .ok (.invokevirtual 178, 3) := by decide +kernel
theorem dL_load_4 : decode cL_load 4 = .ok (.ireturn, 1) := by decide +kernel
theorem dL_load_5 : decode cL_load 5 = .ok (.astore_n 1, 1) := by decide +kernel
theorem dL_load_6 : decode cL_load 6 = .ok (.bipush (-3), 2) := by decide +kernel
theorem dL_load_8 : decode cL_load 8 = .ok (.ireturn, 1) := by decide +kernel
theorem dL_load_9 : decode cL_load 9 = .ok (.astore_n 1, 1) := by decide +kernel
theorem dL_load_10 : decode cL_load 10 = .ok (.bipush (-4), 2) := by decide +kernel
theorem dL_load_12 : decode cL_load 12 = .ok (.ireturn, 1) := by decide +kernel
theorem dL_keep_0 : decode cL_keep 0 = .ok (.aload_n 0, 1) := by decide +kernel
theorem dL_keep_1 : decode cL_keep 1 = .ok (.iload_n 1, 1) := by decide +kernel
theorem dL_keep_2 : decode cL_keep 2 = .ok (.invokevirtual 181, 3) := by decide +kernel
theorem dL_keep_5 : decode cL_keep 5 = .ok (.iconst 1, 1) := by decide +kernel
theorem dL_keep_6 : decode cL_keep 6 = .ok (.ireturn, 1) := by decide +kernel
theorem dL_keep_7 : decode cL_keep 7 = .ok (.astore_n 2, 1) := by decide +kernel
theorem dL_keep_8 : decode cL_keep 8 = .ok (.bipush (-3), 2) := by decide +kernel
theorem dL_keep_10 : decode cL_keep 10 = .ok (.ireturn, 1) := by decide +kernel
theorem dL_goBack_0 : decode cL_goBack 0 = .ok (.aload_n 0, 1) := by decide +kernel
theorem dL_goBack_1 : decode cL_goBack 1 = .ok (.iload_n 1, 1) := by decide +kernel
theorem dL_goBack_2 : decode cL_goBack 2 = .ok (.invokevirtual 185, 3) := by decide +kernel
theorem dL_goBack_5 : decode cL_goBack 5 = .ok (.iconst 1, 1) := by decide +kernel
theorem dL_goBack_6 : decode cL_goBack 6 = .ok (.ireturn, 1) := by decide +kernel
theorem dL_goBack_7 : decode cL_goBack 7 = .ok (.astore_n 2, 1) := by decide +kernel
theorem dL_goBack_8 : decode cL_goBack 8 = .ok (.bipush (-3), 2) := by decide +kernel
theorem dL_goBack_10 : decode cL_goBack 10 = .ok (.ireturn, 1) := by decide +kernel
theorem dL_goBack_11 : decode cL_goBack 11 = .ok (.astore_n 2, 1) := by decide +kernel
theorem dL_goBack_12 : decode cL_goBack 12 = .ok (.bipush (-4), 2) := by decide +kernel
theorem dL_goBack_14 : decode cL_goBack 14 = .ok (.ireturn, 1) := by decide +kernel
theorem dL_undo_0 : decode cL_undo 0 = .ok (.aload_n 0, 1) := by decide +kernel
theorem dL_undo_1 : decode cL_undo 1 = .ok (.invokevirtual 188, 3) := by decide +kernel
theorem dL_undo_4 : decode cL_undo 4 = .ok (.iconst 1, 1) := by decide +kernel
theorem dL_undo_5 : decode cL_undo 5 = .ok (.ireturn, 1) := by decide +kernel
theorem dL_undo_6 : decode cL_undo 6 = .ok (.astore_n 1, 1) := by decide +kernel
theorem dL_undo_7 : decode cL_undo 7 = .ok (.bipush (-4), 2) := by decide +kernel
theorem dL_undo_9 : decode cL_undo 9 = .ok (.ireturn, 1) := by decide +kernel
