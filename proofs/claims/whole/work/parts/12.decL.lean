theorem dL_addClause_0 : decode cL_addClause 0 = .ok (.aload 4, 2) := by decide +kernel
theorem dL_addClause_2 : decode cL_addClause 2 = .ok (.iconst 0, 1) := by decide +kernel
theorem dL_addClause_3 : decode cL_addClause 3 = .ok (.aload_n 0, 1) := by decide +kernel
theorem dL_addClause_4 : decode cL_addClause 4 = .ok (.iload_n 1, 1) := by decide +kernel
theorem dL_addClause_5 : decode cL_addClause 5 = .ok (.iload_n 2, 1) := by decide +kernel
theorem dL_addClause_6 : decode cL_addClause 6 = .ok (.iload_n 3, 1) := by decide +kernel
theorem dL_addClause_7 : decode cL_addClause 7 = .ok (.invokevirtual 7, 3) := by decide +kernel
theorem dL_addClause_10 : decode cL_addClause 10 = .ok (.i2l, 1) := by decide +kernel
theorem dL_addClause_11 : decode cL_addClause 11 = .ok (.lastore, 1) := by decide +kernel
theorem dL_addClause_12 : decode cL_addClause 12 = .ok (.goto 15, 3) := by decide +kernel
theorem dL_addClause_15 : decode cL_addClause 15 = .ok (.astore 5, 2) := by decide +kernel
theorem dL_addClause_17 : decode cL_addClause 17 = .ok (.iconst 1, 1) := by decide +kernel
theorem dL_addClause_18 : decode cL_addClause 18 = .ok (.ireturn, 1) := by decide +kernel
theorem dL_addClause_19 : decode cL_addClause 19 = .ok (.astore 5, 2) := by decide +kernel
theorem dL_addClause_21 : decode cL_addClause 21 = .ok (.iconst 2, 1) := by decide +kernel
theorem dL_addClause_22 : decode cL_addClause 22 = .ok (.ireturn, 1) := by decide +kernel
theorem dL_addClause_23 : decode cL_addClause 23 = .ok (.astore 5, 2) := by decide +kernel
theorem dL_addClause_25 : decode cL_addClause 25 = .ok (.iconst 3, 1) := by decide +kernel
theorem dL_addClause_26 : decode cL_addClause 26 = .ok (.ireturn, 1) := by decide +kernel
theorem dL_addClause_27 : decode cL_addClause 27 = .ok (.iconst 0, 1) := by decide +kernel
theorem dL_addClause_28 : decode cL_addClause 28 = .ok (.ireturn, 1) := by decide +kernel
theorem dL_changeLips_0 : decode cL_changeLips 0 = .ok (.aload_n 3, 1) := by decide +kernel
theorem dL_changeLips_1 : decode cL_changeLips 1 = .ok (.iconst 0, 1) := by decide +kernel
theorem dL_changeLips_2 : decode cL_changeLips 2 = .ok (.aload_n 0, 1) := by decide +kernel
theorem dL_changeLips_3 : decode cL_changeLips 3 = .ok (.iload_n 1, 1) := by decide +kernel
theorem dL_changeLips_4 : decode cL_changeLips 4 = .ok (.iload_n 2, 1) := by decide +kernel
theorem dL_changeLips_5 : decode cL_changeLips 5 = .ok (.invokevirtual 19, 3) := by decide +kernel
theorem dL_changeLips_8 : decode cL_changeLips 8 = .ok (.i2l, 1) := by decide +kernel
theorem dL_changeLips_9 : decode cL_changeLips 9 = .ok (.lastore, 1) := by decide +kernel
theorem dL_changeLips_10 : decode cL_changeLips 10 = .ok (.goto 15, 3) := by decide +kernel
theorem dL_changeLips_13 : decode cL_changeLips 13 = .ok (.astore 4, 2) := by decide +kernel
theorem dL_changeLips_15 : decode cL_changeLips 15 = .ok (.iconst 1, 1) := by decide +kernel
theorem dL_changeLips_16 : decode cL_changeLips 16 = .ok (.ireturn, 1) := by decide +kernel
theorem dL_changeLips_17 : decode cL_changeLips 17 = .ok (.astore 4, 2) := by decide +kernel
theorem dL_changeLips_19 : decode cL_changeLips 19 = .ok (.iconst 2, 1) := by decide +kernel
theorem dL_changeLips_20 : decode cL_changeLips 20 = .ok (.ireturn, 1) := by decide +kernel
theorem dL_changeLips_21 : decode cL_changeLips 21 = .ok (.astore 4, 2) := by decide +kernel
theorem dL_changeLips_23 : decode cL_changeLips 23 = .ok (.iconst 3, 1) := by decide +kernel
theorem dL_changeLips_24 : decode cL_changeLips 24 = .ok (.ireturn, 1) := by decide +kernel
theorem dL_changeLips_25 : decode cL_changeLips 25 = .ok (.iconst 0, 1) := by decide +kernel
theorem dL_changeLips_26 : decode cL_changeLips 26 = .ok (.ireturn, 1) := by decide +kernel
theorem dL_changeSigh_0 : decode cL_changeSigh 0 = .ok (.aload_n 3, 1) := by decide +kernel
theorem dL_changeSigh_1 : decode cL_changeSigh 1 = .ok (.iconst 0, 1) := by decide +kernel
theorem dL_changeSigh_2 : decode cL_changeSigh 2 = .ok (.aload_n 0, 1) := by decide +kernel
theorem dL_changeSigh_3 : decode cL_changeSigh 3 = .ok (.iload_n 1, 1) := by decide +kernel
theorem dL_changeSigh_4 : decode cL_changeSigh 4 = .ok (.iload_n 2, 1) := by decide +kernel
theorem dL_changeSigh_5 : decode cL_changeSigh 5 = .ok (.invokevirtual 23, 3) := by decide +kernel
theorem dL_changeSigh_8 : decode cL_changeSigh 8 = .ok (.i2l, 1) := by decide +kernel
theorem dL_changeSigh_9 : decode cL_changeSigh 9 = .ok (.lastore, 1) := by decide +kernel
theorem dL_changeSigh_10 : decode cL_changeSigh 10 = .ok (.goto 15, 3) := by decide +kernel
theorem dL_changeSigh_13 : decode cL_changeSigh 13 = .ok (.astore 4, 2) := by decide +kernel
theorem dL_changeSigh_15 : decode cL_changeSigh 15 = .ok (.iconst 1, 1) := by decide +kernel
theorem dL_changeSigh_16 : decode cL_changeSigh 16 = .ok (.ireturn, 1) := by decide +kernel
theorem dL_changeSigh_17 : decode cL_changeSigh 17 = .ok (.astore 4, 2) := by decide +kernel
theorem dL_changeSigh_19 : decode cL_changeSigh 19 = .ok (.iconst 2, 1) := by decide +kernel
theorem dL_changeSigh_20 : decode cL_changeSigh 20 = .ok (.ireturn, 1) := by decide +kernel
theorem dL_changeSigh_21 : decode cL_changeSigh 21 = .ok (.astore 4, 2) := by decide +kernel
theorem dL_changeSigh_23 : decode cL_changeSigh 23 = .ok (.iconst 3, 1) := by decide +kernel
theorem dL_changeSigh_24 : decode cL_changeSigh 24 = .ok (.ireturn, 1) := by decide +kernel
theorem dL_changeSigh_25 : decode cL_changeSigh 25 = .ok (.iconst 0, 1) := by decide +kernel
theorem dL_changeSigh_26 : decode cL_changeSigh 26 = .ok (.ireturn, 1) := by decide +kernel
theorem dL_moveClause_0 : decode cL_moveClause 0 = .ok (.aload_n 3, 1) := by decide +kernel
theorem dL_moveClause_1 : decode cL_moveClause 1 = .ok (.iconst 0, 1) := by decide +kernel
theorem dL_moveClause_2 : decode cL_moveClause 2 = .ok (.aload_n 0, 1) := by decide +kernel
theorem dL_moveClause_3 : decode cL_moveClause 3 = .ok (.iload_n 1, 1) := by decide +kernel
theorem dL_moveClause_4 : decode cL_moveClause 4 = .ok (.iload_n 2, 1) := by decide +kernel
theorem dL_moveClause_5 : decode cL_moveClause 5 = .ok (.invokevirtual 26, 3) := by decide +kernel
theorem dL_moveClause_8 : decode cL_moveClause 8 = .ok (.i2l, 1) := by decide +kernel
theorem dL_moveClause_9 : decode cL_moveClause 9 = .ok (.lastore, 1) := by decide +kernel
theorem dL_moveClause_10 : decode cL_moveClause 10 = .ok (.goto 11, 3) := by decide +kernel
theorem dL_moveClause_13 : decode cL_moveClause 13 = .ok (.astore 4, 2) := by decide +kernel
theorem dL_moveClause_15 : decode cL_moveClause 15 = .ok (.iconst 1, 1) := by decide +kernel
theorem dL_moveClause_16 : decode cL_moveClause 16 = .ok (.ireturn, 1) := by decide +kernel
theorem dL_moveClause_17 : decode cL_moveClause 17 = .ok (.astore 4, 2) := by decide +kernel
theorem dL_moveClause_19 : decode cL_moveClause 19 = .ok (.iconst 2, 1) := by decide +kernel
theorem dL_moveClause_20 : decode cL_moveClause 20 = .ok (.ireturn, 1) := by decide +kernel
theorem dL_moveClause_21 : decode cL_moveClause 21 = .ok (.iconst 0, 1) := by decide +kernel
theorem dL_moveClause_22 : decode cL_moveClause 22 = .ok (.ireturn, 1) := by decide +kernel
theorem dL_translate_0 : decode cL_translate 0 = .ok (.aload 4, 2) := by decide +kernel
theorem dL_translate_2 : decode cL_translate 2 = .ok (.iconst 0, 1) := by decide +kernel
theorem dL_translate_3 : decode cL_translate 3 = .ok (.aload_n 0, 1) := by decide +kernel
theorem dL_translate_4 : decode cL_translate 4 = .ok (.iload_n 1, 1) := by decide +kernel
theorem dL_translate_5 : decode cL_translate 5 = .ok (.iload_n 2, 1) := by decide +kernel
theorem dL_translate_6 : decode cL_translate 6 = .ok (.iload_n 3, 1) := by decide +kernel
theorem dL_translate_7 : decode cL_translate 7 = .ok (.invokevirtual 29, 3) := by decide +kernel
theorem dL_translate_10 : decode cL_translate 10 = .ok (.i2l, 1) := by decide +kernel
theorem dL_translate_11 : decode cL_translate 11 = .ok (.lastore, 1) := by decide +kernel
theorem dL_translate_12 : decode cL_translate 12 = .ok (.goto 15, 3) := by decide +kernel
theorem dL_translate_15 : decode cL_translate 15 = .ok (.astore 5, 2) := by decide +kernel
theorem dL_translate_17 : decode cL_translate 17 = .ok (.iconst 1, 1) := by decide +kernel
theorem dL_translate_18 : decode cL_translate 18 = .ok (.ireturn, 1) := by decide +kernel
theorem dL_translate_19 : decode cL_translate 19 = .ok (.astore 5, 2) := by decide +kernel
theorem dL_translate_21 : decode cL_translate 21 = .ok (.iconst 2, 1) := by decide +kernel
theorem dL_translate_22 : decode cL_translate 22 = .ok (.ireturn, 1) := by decide +kernel
theorem dL_translate_23 : decode cL_translate 23 = .ok (.astore 5, 2) := by decide +kernel
theorem dL_translate_25 : decode cL_translate 25 = .ok (.iconst 3, 1) := by decide +kernel
theorem dL_translate_26 : decode cL_translate 26 = .ok (.ireturn, 1) := by decide +kernel
theorem dL_translate_27 : decode cL_translate 27 = .ok (.iconst 0, 1) := by decide +kernel
theorem dL_translate_28 : decode cL_translate 28 = .ok (.ireturn, 1) := by decide +kernel
theorem dL_annex_0 : decode cL_annex 0 = .ok (.aload 4, 2) := by decide +kernel
theorem dL_annex_2 : decode cL_annex 2 = .ok (.iconst 0, 1) := by decide +kernel
theorem dL_annex_3 : decode cL_annex 3 = .ok (.aload_n 0, 1) := by decide +kernel
theorem dL_annex_4 : decode cL_annex 4 = .ok (.iload_n 1, 1) := by decide +kernel
theorem dL_annex_5 : decode cL_annex 5 = .ok (.iload_n 2, 1) := by decide +kernel
theorem dL_annex_6 : decode cL_annex 6 = .ok (.iload_n 3, 1) := by decide +kernel
theorem dL_annex_7 : decode cL_annex 7 = .ok (.invokevirtual 32, 3) := by decide +kernel
theorem dL_annex_10 : decode cL_annex 10 = .ok (.i2l, 1) := by decide +kernel
theorem dL_annex_11 : decode cL_annex 11 = .ok (.lastore, 1) := by decide +kernel
theorem dL_annex_12 : decode cL_annex 12 = .ok (.goto 15, 3) := by decide +kernel
theorem dL_annex_15 : decode cL_annex 15 = .ok (.astore 5, 2) := by decide +kernel
theorem dL_annex_17 : decode cL_annex 17 = .ok (.iconst 1, 1) := by decide +kernel
theorem dL_annex_18 : decode cL_annex 18 = .ok (.ireturn, 1) := by decide +kernel
theorem dL_annex_19 : decode cL_annex 19 = .ok (.astore 5, 2) := by decide +kernel
theorem dL_annex_21 : decode cL_annex 21 = .ok (.iconst 2, 1) := by decide +kernel
theorem dL_annex_22 : decode cL_annex 22 = .ok (.ireturn, 1) := by decide +kernel
theorem dL_annex_23 : decode cL_annex 23 = .ok (.astore 5, 2) := by decide +kernel
theorem dL_annex_25 : decode cL_annex 25 = .ok (.iconst 3, 1) := by decide +kernel
theorem dL_annex_26 : decode cL_annex 26 = .ok (.ireturn, 1) := by decide +kernel
theorem dL_annex_27 : decode cL_annex 27 = .ok (.iconst 0, 1) := by decide +kernel
theorem dL_annex_28 : decode cL_annex 28 = .ok (.ireturn, 1) := by decide +kernel
theorem dL_bringBack_0 : decode cL_bringBack 0 = .ok (.aload_n 3, 1) := by decide +kernel
theorem dL_bringBack_1 : decode cL_bringBack 1 = .ok (.iconst 0, 1) := by decide +kernel
theorem dL_bringBack_2 : decode cL_bringBack 2 = .ok (.aload_n 0, 1) := by decide +kernel
theorem dL_bringBack_3 : decode cL_bringBack 3 = .ok (.iload_n 1, 1) := by decide +kernel
theorem dL_bringBack_4 : decode cL_bringBack 4 = .ok (.iload_n 2, 1) := by decide +kernel
theorem dL_bringBack_5 : decode cL_bringBack 5 = .ok (.invokevirtual 35, 3) := by decide +kernel
theorem dL_bringBack_8 : decode cL_bringBack 8 = .ok (.i2l, 1) := by decide +kernel
theorem dL_bringBack_9 : decode cL_bringBack 9 = .ok (.lastore, 1) := by decide +kernel
theorem dL_bringBack_10 : decode cL_bringBack 10 = .ok (.goto 11, 3) := by decide +kernel
theorem dL_bringBack_13 : decode cL_bringBack 13 = .ok (.astore 4, 2) := by decide +kernel
theorem dL_bringBack_15 : decode cL_bringBack 15 = .ok (.iconst 1, 1) := by decide +kernel
theorem dL_bringBack_16 : decode cL_bringBack 16 = .ok (.ireturn, 1) := by decide +kernel
theorem dL_bringBack_17 : decode cL_bringBack 17 = .ok (.astore 4, 2) := by decide +kernel
theorem dL_bringBack_19 : decode cL_bringBack 19 = .ok (.iconst 2, 1) := by decide +kernel
theorem dL_bringBack_20 : decode cL_bringBack 20 = .ok (.ireturn, 1) := by decide +kernel
theorem dL_bringBack_21 : decode cL_bringBack 21 = .ok (.iconst 0, 1) := by decide +kernel
theorem dL_bringBack_22 : decode cL_bringBack 22 = .ok (.ireturn, 1) := by decide +kernel
theorem dL_cast_0 : decode cL_cast 0 = .ok (.aload 4, 2) := by decide +kernel
theorem dL_cast_2 : decode cL_cast 2 = .ok (.iconst 0, 1) := by decide +kernel
theorem dL_cast_3 : decode cL_cast 3 = .ok (.aload_n 0, 1) := by decide +kernel
theorem dL_cast_4 : decode cL_cast 4 = .ok (.iload_n 1, 1) := by decide +kernel
theorem dL_cast_5 : decode cL_cast 5 = .ok (.iload_n 2, 1) := by decide +kernel
theorem dL_cast_6 : decode cL_cast 6 = .ok (.iload_n 3, 1) := by decide +kernel
theorem dL_cast_7 : decode cL_cast 7 = .ok (.invokevirtual 38, 3) := by decide +kernel
theorem dL_cast_10 : decode cL_cast 10 = .ok (.i2l, 1) := by decide +kernel
theorem dL_cast_11 : decode cL_cast 11 = .ok (.lastore, 1) := by decide +kernel
theorem dL_cast_12 : decode cL_cast 12 = .ok (.goto 15, 3) := by decide +kernel
theorem dL_cast_15 : decode cL_cast 15 = .ok (.astore 5, 2) := by decide +kernel
theorem dL_cast_17 : decode cL_cast 17 = .ok (.iconst 1, 1) := by decide +kernel
theorem dL_cast_18 : decode cL_cast 18 = .ok (.ireturn, 1) := by decide +kernel
theorem dL_cast_19 : decode cL_cast 19 = .ok (.astore 5, 2) := by decide +kernel
theorem dL_cast_21 : decode cL_cast 21 = .ok (.iconst 2, 1) := by decide +kernel
theorem dL_cast_22 : decode cL_cast 22 = .ok (.ireturn, 1) := by decide +kernel
theorem dL_cast_23 : decode cL_cast 23 = .ok (.astore 5, 2) := by decide +kernel
theorem dL_cast_25 : decode cL_cast 25 = .ok (.iconst 3, 1) := by decide +kernel
theorem dL_cast_26 : decode cL_cast 26 = .ok (.ireturn, 1) := by decide +kernel
theorem dL_cast_27 : decode cL_cast 27 = .ok (.iconst 0, 1) := by decide +kernel
theorem dL_cast_28 : decode cL_cast 28 = .ok (.ireturn, 1) := by decide +kernel
theorem dL_record_0 : decode cL_record 0 = .ok (.aload_n 3, 1) := by decide +kernel
theorem dL_record_1 : decode cL_record 1 = .ok (.iconst 0, 1) := by decide +kernel
theorem dL_record_2 : decode cL_record 2 = .ok (.aload_n 0, 1) := by decide +kernel
theorem dL_record_3 : decode cL_record 3 = .ok (.iload_n 1, 1) := by decide +kernel
theorem dL_record_4 : decode cL_record 4 = .ok (.iload_n 2, 1) := by decide +kernel
theorem dL_record_5 : decode cL_record 5 = .ok (.invokevirtual 41, 3) := by decide +kernel
theorem dL_record_8 : decode cL_record 8 = .ok (.i2l, 1) := by decide +kernel
theorem dL_record_9 : decode cL_record 9 = .ok (.lastore, 1) := by decide +kernel
theorem dL_record_10 : decode cL_record 10 = .ok (.goto 11, 3) := by decide +kernel
theorem dL_record_13 : decode cL_record 13 = .ok (.astore 4, 2) := by decide +kernel
theorem dL_record_15 : decode cL_record 15 = .ok (.iconst 1, 1) := by decide +kernel
theorem dL_record_16 : decode cL_record 16 = .ok (.ireturn, 1) := by decide +kernel
theorem dL_record_17 : decode cL_record 17 = .ok (.astore 4, 2) := by decide +kernel
theorem dL_record_19 : decode cL_record 19 = .ok (.iconst 2, 1) := by decide +kernel
theorem dL_record_20 : decode cL_record 20 = .ok (.ireturn, 1) := by decide +kernel
theorem dL_record_21 : decode cL_record 21 = .ok (.iconst 0, 1) := by decide +kernel
theorem dL_record_22 : decode cL_record 22 = .ok (.ireturn, 1) := by decide +kernel
theorem dL_wipe_0 : decode cL_wipe 0 = .ok (.aload_n 3, 1) := by decide +kernel
theorem dL_wipe_1 : decode cL_wipe 1 = .ok (.iconst 0, 1) := by decide +kernel
theorem dL_wipe_2 : decode cL_wipe 2 = .ok (.aload_n 0, 1) := by decide +kernel
theorem dL_wipe_3 : decode cL_wipe 3 = .ok (.iload_n 1, 1) := by decide +kernel
theorem dL_wipe_4 : decode cL_wipe 4 = .ok (.iload_n 2, 1) := by decide +kernel
theorem dL_wipe_5 : decode cL_wipe 5 = .ok (.invokevirtual 44, 3) := by decide +kernel
theorem dL_wipe_8 : decode cL_wipe 8 = .ok (.i2l, 1) := by decide +kernel
theorem dL_wipe_9 : decode cL_wipe 9 = .ok (.lastore, 1) := by decide +kernel
theorem dL_wipe_10 : decode cL_wipe 10 = .ok (.goto 11, 3) := by decide +kernel
theorem dL_wipe_13 : decode cL_wipe 13 = .ok (.astore 4, 2) := by decide +kernel
theorem dL_wipe_15 : decode cL_wipe 15 = .ok (.iconst 1, 1) := by decide +kernel
theorem dL_wipe_16 : decode cL_wipe 16 = .ok (.ireturn, 1) := by decide +kernel
theorem dL_wipe_17 : decode cL_wipe 17 = .ok (.astore 4, 2) := by decide +kernel
theorem dL_wipe_19 : decode cL_wipe 19 = .ok (.iconst 2, 1) := by decide +kernel
theorem dL_wipe_20 : decode cL_wipe 20 = .ok (.ireturn, 1) := by decide +kernel
theorem dL_wipe_21 : decode cL_wipe 21 = .ok (.iconst 0, 1) := by decide +kernel
theorem dL_wipe_22 : decode cL_wipe 22 = .ok (.ireturn, 1) := by decide +kernel
theorem dL_nextSession_0 : decode cL_nextSession 0 = .ok (.aload_n 1, 1) := by decide +kernel
theorem dL_nextSession_1 : decode cL_nextSession 1 = .ok (.iconst 0, 1) := by decide +kernel
theorem dL_nextSession_2 : decode cL_nextSession 2 = .ok (.aload_n 0, 1) := by decide +kernel
theorem dL_nextSession_3 : decode cL_nextSession 3 = .ok (.invokevirtual 47, 3) := by decide +kernel
theorem dL_nextSession_6 : decode cL_nextSession 6 = .ok (.i2l, 1) := by decide +kernel
theorem dL_nextSession_7 : decode cL_nextSession 7 = .ok (.lastore, 1) := by decide +kernel
theorem dL_nextSession_8 : decode cL_nextSession 8 = .ok (.goto 6, 3) := by decide +kernel
theorem dL_nextSession_11 : decode cL_nextSession 11 = .ok (.astore_n 2, 1) := by decide +kernel
theorem dL_nextSession_12 : decode cL_nextSession 12 = .ok (.iconst 1, 1) := by decide +kernel
theorem dL_nextSession_13 : decode cL_nextSession 13 = .ok (.ireturn, 1) := by decide +kernel
theorem dL_nextSession_14 : decode cL_nextSession 14 = .ok (.iconst 0, 1) := by decide +kernel
theorem dL_nextSession_15 : decode cL_nextSession 15 = .ok (.ireturn, 1) := by decide +kernel
theorem dL_mix_0 : decode cL_mix 0 = .ok (.aload_n 3, 1) := by decide +kernel
theorem dL_mix_1 : decode cL_mix 1 = .ok (.iconst 0, 1) := by decide +kernel
theorem dL_mix_2 : decode cL_mix 2 = .ok (.aload_n 0, 1) := by decide +kernel
theorem dL_mix_3 : decode cL_mix 3 = .ok (.iload_n 1, 1) := by decide +kernel
theorem dL_mix_4 : decode cL_mix 4 = .ok (.iload_n 2, 1) := by decide +kernel
theorem dL_mix_5 : decode cL_mix 5 = .ok (.invokevirtual 51, 3) := by decide +kernel
theorem dL_mix_8 : decode cL_mix 8 = .ok (.i2l, 1) := by decide +kernel
theorem dL_mix_9 : decode cL_mix 9 = .ok (.lastore, 1) := by decide +kernel
theorem dL_mix_10 : decode cL_mix 10 = .ok (.goto 11, 3) := by decide +kernel
theorem dL_mix_13 : decode cL_mix 13 = .ok (.astore 4, 2) := by decide +kernel
theorem dL_mix_15 : decode cL_mix 15 = .ok (.iconst 1, 1) := by decide +kernel
theorem dL_mix_16 : decode cL_mix 16 = .ok (.ireturn, 1) := by decide +kernel
theorem dL_mix_17 : decode cL_mix 17 = .ok (.astore 4, 2) := by decide +kernel
theorem dL_mix_19 : decode cL_mix 19 = .ok (.iconst 2, 1) := by decide +kernel
theorem dL_mix_20 : decode cL_mix 20 = .ok (.ireturn, 1) := by decide +kernel
theorem dL_mix_21 : decode cL_mix 21 = .ok (.iconst 0, 1) := by decide +kernel
theorem dL_mix_22 : decode cL_mix 22 = .ok (.ireturn, 1) := by decide +kernel
theorem dL_sign_0 : decode cL_sign 0 = .ok (.aload 4, 2) := by decide +kernel
theorem dL_sign_2 : decode cL_sign 2 = .ok (.iconst 0, 1) := by decide +kernel
theorem dL_sign_3 : decode cL_sign 3 = .ok (.aload_n 0, 1) := by decide +kernel
theorem dL_sign_4 : decode cL_sign 4 = .ok (.iload_n 1, 1) := by decide +kernel
theorem dL_sign_5 : decode cL_sign 5 = .ok (.iload_n 2, 1) := by decide +kernel
theorem dL_sign_6 : decode cL_sign 6 = .ok (.iload_n 3, 1) := by decide +kernel
theorem dL_sign_7 : decode cL_sign 7 = .ok (.invokevirtual 54, 3) := by decide +kernel
theorem dL_sign_10 : decode cL_sign 10 = .ok (.i2l, 1) := by decide +kernel
theorem dL_sign_11 : decode cL_sign 11 = .ok (.lastore, 1) := by decide +kernel
theorem dL_sign_12 : decode cL_sign 12 = .ok (.goto 11, 3) := by decide +kernel
theorem dL_sign_15 : decode cL_sign 15 = .ok (.astore 5, 2) := by decide +kernel
theorem dL_sign_17 : decode cL_sign 17 = .ok (.iconst 1, 1) := by decide +kernel
theorem dL_sign_18 : decode cL_sign 18 = .ok (.ireturn, 1) := by decide +kernel
theorem dL_sign_19 : decode cL_sign 19 = .ok (.astore 5, 2) := by decide +kernel
theorem dL_sign_21 : decode cL_sign 21 = .ok (.iconst 2, 1) := by decide +kernel
theorem dL_sign_22 : decode cL_sign 22 = .ok (.ireturn, 1) := by decide +kernel
theorem dL_sign_23 : decode cL_sign 23 = .ok (.iconst 0, 1) := by decide +kernel
theorem dL_sign_24 : decode cL_sign 24 = .ok (.ireturn, 1) := by decide +kernel
theorem dL_append_0 : decode cL_append 0 = .ok (.aload_n 2, 1) := by decide +kernel
theorem dL_append_1 : decode cL_append 1 = .ok (.iconst 0, 1) := by decide +kernel
theorem dL_append_2 : decode cL_append 2 = .ok (.aload_n 0, 1) := by decide +kernel
theorem dL_append_3 : decode cL_append 3 = .ok (.iload_n 1, 1) := by decide +kernel
theorem dL_append_4 : decode cL_append 4 = .ok (.invokevirtual 57, 3) := by decide +kernel
theorem dL_append_7 : decode cL_append 7 = .ok (.i2l, 1) := by decide +kernel
theorem dL_append_8 : decode cL_append 8 = .ok (.lastore, 1) := by decide +kernel
theorem dL_append_9 : decode cL_append 9 = .ok (.goto 9, 3) := by decide +kernel
theorem dL_append_12 : decode cL_append 12 = .ok (.astore_n 3, 1) := by decide +kernel
theorem dL_append_13 : decode cL_append 13 = .ok (.iconst 1, 1) := by decide +kernel
theorem dL_append_14 : decode cL_append 14 = .ok (.ireturn, 1) := by decide +kernel
theorem dL_append_15 : decode cL_append 15 = .ok (.astore_n 3, 1) := by decide +kernel
theorem dL_append_16 : decode cL_append 16 = .ok (.iconst 2, 1) := by decide +kernel
theorem dL_append_17 : decode cL_append 17 = .ok (.ireturn, 1) := by decide +kernel
theorem dL_append_18 : decode cL_append 18 = .ok (.iconst 0, 1) := by decide +kernel
theorem dL_append_19 : decode cL_append 19 = .ok (.ireturn, 1) := by decide +kernel
theorem dL_load_0 : decode cL_load 0 = .ok (.aload_n 1, 1) := by decide +kernel
theorem dL_load_1 : decode cL_load 1 = .ok (.iconst 0, 1) := by decide +kernel
theorem dL_load_2 : decode cL_load 2 = .ok (.aload_n 0, 1) := by decide +kernel
theorem dL_load_3 : decode cL_load 3 = .ok (.invokevirtual 61, 3) := by decide +kernel
theorem dL_load_6 : decode cL_load 6 = .ok (.i2l, 1) := by decide +kernel
theorem dL_load_7 : decode cL_load 7 = .ok (.lastore, 1) := by decide +kernel
theorem dL_load_8 : decode cL_load 8 = .ok (.goto 9, 3) := by decide +kernel
theorem dL_load_11 : decode cL_load 11 = .ok (.astore_n 2, 1) := by decide +kernel
theorem dL_load_12 : decode cL_load 12 = .ok (.iconst 1, 1) := by decide +kernel
theorem dL_load_13 : decode cL_load 13 = .ok (.ireturn, 1) := by decide +kernel
theorem dL_load_14 : decode cL_load 14 = .ok (.astore_n 2, 1) := by decide +kernel
theorem dL_load_15 : decode cL_load 15 = .ok (.iconst 2, 1) := by decide +kernel
theorem dL_load_16 : decode cL_load 16 = .ok (.ireturn, 1) := by decide +kernel
theorem dL_load_17 : decode cL_load 17 = .ok (.iconst 0, 1) := by decide +kernel
theorem dL_load_18 : decode cL_load 18 = .ok (.ireturn, 1) := by decide +kernel
theorem dL_keep_0 : decode cL_keep 0 = .ok (.aload_n 0, 1) := by decide +kernel
theorem dL_keep_1 : decode cL_keep 1 = .ok (.iload_n 1, 1) := by decide +kernel
theorem dL_keep_2 : decode cL_keep 2 = .ok (.invokevirtual 64, 3) := by decide +kernel
theorem dL_keep_5 : decode cL_keep 5 = .ok (.goto 6, 3) := by decide +kernel
theorem dL_keep_8 : decode cL_keep 8 = .ok (.astore_n 2, 1) := by decide +kernel
theorem dL_keep_9 : decode cL_keep 9 = .ok (.iconst 1, 1) := by decide +kernel
theorem dL_keep_10 : decode cL_keep 10 = .ok (.ireturn, 1) := by decide +kernel
theorem dL_keep_11 : decode cL_keep 11 = .ok (.iconst 0, 1) := by decide +kernel
theorem dL_keep_12 : decode cL_keep 12 = .ok (.ireturn, 1) := by decide +kernel
theorem dL_goBack_0 : decode cL_goBack 0 = .ok (.aload_n 0, 1) := by decide +kernel
theorem dL_goBack_1 : decode cL_goBack 1 = .ok (.iload_n 1, 1) := by decide +kernel
theorem dL_goBack_2 : decode cL_goBack 2 = .ok (.invokevirtual 68, 3) := by decide +kernel
theorem dL_goBack_5 : decode cL_goBack 5 = .ok (.goto 9, 3) := by decide +kernel
theorem dL_goBack_8 : decode cL_goBack 8 = .ok (.astore_n 2, 1) := by decide +kernel
theorem dL_goBack_9 : decode cL_goBack 9 = .ok (.iconst 1, 1) := by decide +kernel
theorem dL_goBack_10 : decode cL_goBack 10 = .ok (.ireturn, 1) := by decide +kernel
theorem dL_goBack_11 : decode cL_goBack 11 = .ok (.astore_n 2, 1) := by decide +kernel
theorem dL_goBack_12 : decode cL_goBack 12 = .ok (.iconst 2, 1) := by decide +kernel
theorem dL_goBack_13 : decode cL_goBack 13 = .ok (.ireturn, 1) := by decide +kernel
theorem dL_goBack_14 : decode cL_goBack 14 = .ok (.iconst 0, 1) := by decide +kernel
theorem dL_goBack_15 : decode cL_goBack 15 = .ok (.ireturn, 1) := by decide +kernel
theorem dL_undo_0 : decode cL_undo 0 = .ok (.aload_n 0, 1) := by decide +kernel
theorem dL_undo_1 : decode cL_undo 1 = .ok (.invokevirtual 71, 3) := by decide +kernel
theorem dL_undo_4 : decode cL_undo 4 = .ok (.goto 6, 3) := by decide +kernel
theorem dL_undo_7 : decode cL_undo 7 = .ok (.astore_n 1, 1) := by decide +kernel
theorem dL_undo_8 : decode cL_undo 8 = .ok (.iconst 1, 1) := by decide +kernel
theorem dL_undo_9 : decode cL_undo 9 = .ok (.ireturn, 1) := by decide +kernel
theorem dL_undo_10 : decode cL_undo 10 = .ok (.iconst 0, 1) := by decide +kernel
theorem dL_undo_11 : decode cL_undo 11 = .ok (.ireturn, 1) := by decide +kernel
theorem dL_reelOf_0 : decode cL_reelOf 0 = .ok (.aload_n 2, 1) := by decide +kernel
theorem dL_reelOf_1 : decode cL_reelOf 1 = .ok (.iconst 0, 1) := by decide +kernel
theorem dL_reelOf_2 : decode cL_reelOf 2 = .ok (.aload_n 0, 1) := by decide +kernel
theorem dL_reelOf_3 : decode cL_reelOf 3 = .ok (.iload_n 1, 1) := by decide +kernel
theorem dL_reelOf_4 : decode cL_reelOf 4 = .ok (.invokevirtual 74, 3) := by decide +kernel
theorem dL_reelOf_7 : decode cL_reelOf 7 = .ok (.i2l, 1) := by decide +kernel
theorem dL_reelOf_8 : decode cL_reelOf 8 = .ok (.lastore, 1) := by decide +kernel
theorem dL_reelOf_9 : decode cL_reelOf 9 = .ok (.goto 6, 3) := by decide +kernel
theorem dL_reelOf_12 : decode cL_reelOf 12 = .ok (.astore_n 3, 1) := by decide +kernel
theorem dL_reelOf_13 : decode cL_reelOf 13 = .ok (.iconst 1, 1) := by decide +kernel
theorem dL_reelOf_14 : decode cL_reelOf 14 = .ok (.ireturn, 1) := by decide +kernel
theorem dL_reelOf_15 : decode cL_reelOf 15 = .ok (.iconst 0, 1) := by decide +kernel
theorem dL_reelOf_16 : decode cL_reelOf 16 = .ok (.ireturn, 1) := by decide +kernel
theorem dL_speakerOf_0 : decode cL_speakerOf 0 = .ok (.aload_n 2, 1) := by decide +kernel
theorem dL_speakerOf_1 : decode cL_speakerOf 1 = .ok (.iconst 0, 1) := by decide +kernel
theorem dL_speakerOf_2 : decode cL_speakerOf 2 = .ok (.aload_n 0, 1) := by decide +kernel
theorem dL_speakerOf_3 : decode cL_speakerOf 3 = .ok (.iload_n 1, 1) := by decide +kernel
theorem dL_speakerOf_4 : decode cL_speakerOf 4 = .ok (.invokevirtual 77, 3) := by decide +kernel
theorem dL_speakerOf_7 : decode cL_speakerOf 7 = .ok (.i2l, 1) := by decide +kernel
theorem dL_speakerOf_8 : decode cL_speakerOf 8 = .ok (.lastore, 1) := by decide +kernel
theorem dL_speakerOf_9 : decode cL_speakerOf 9 = .ok (.goto 6, 3) := by decide +kernel
theorem dL_speakerOf_12 : decode cL_speakerOf 12 = .ok (.astore_n 3, 1) := by decide +kernel
theorem dL_speakerOf_13 : decode cL_speakerOf 13 = .ok (.iconst 1, 1) := by decide +kernel
theorem dL_speakerOf_14 : decode cL_speakerOf 14 = .ok (.ireturn, 1) := by decide +kernel
theorem dL_speakerOf_15 : decode cL_speakerOf 15 = .ok (.iconst 0, 1) := by decide +kernel
theorem dL_speakerOf_16 : decode cL_speakerOf 16 = .ok (.ireturn, 1) := by decide +kernel
theorem dL_lipsOf_0 : decode cL_lipsOf 0 = .ok (.aload_n 2, 1) := by decide +kernel
theorem dL_lipsOf_1 : decode cL_lipsOf 1 = .ok (.iconst 0, 1) := by decide +kernel
theorem dL_lipsOf_2 : decode cL_lipsOf 2 = .ok (.aload_n 0, 1) := by decide +kernel
theorem dL_lipsOf_3 : decode cL_lipsOf 3 = .ok (.iload_n 1, 1) := by decide +kernel
theorem dL_lipsOf_4 : decode cL_lipsOf 4 = .ok (.invokevirtual 80, 3) := by decide +kernel
theorem dL_lipsOf_7 : decode cL_lipsOf 7 = .ok (.i2l, 1) := by decide +kernel
theorem dL_lipsOf_8 : decode cL_lipsOf 8 = .ok (.lastore, 1) := by decide +kernel
theorem dL_lipsOf_9 : decode cL_lipsOf 9 = .ok (.goto 6, 3) := by decide +kernel
theorem dL_lipsOf_12 : decode cL_lipsOf 12 = .ok (.astore_n 3, 1) := by decide +kernel
theorem dL_lipsOf_13 : decode cL_lipsOf 13 = .ok (.iconst 1, 1) := by decide +kernel
theorem dL_lipsOf_14 : decode cL_lipsOf 14 = .ok (.ireturn, 1) := by decide +kernel
theorem dL_lipsOf_15 : decode cL_lipsOf 15 = .ok (.iconst 0, 1) := by decide +kernel
theorem dL_lipsOf_16 : decode cL_lipsOf 16 = .ok (.ireturn, 1) := by decide +kernel
theorem dL_sighOf_0 : decode cL_sighOf 0 = .ok (.aload_n 2, 1) := by decide +kernel
theorem dL_sighOf_1 : decode cL_sighOf 1 = .ok (.iconst 0, 1) := by decide +kernel
theorem dL_sighOf_2 : decode cL_sighOf 2 = .ok (.aload_n 0, 1) := by decide +kernel
theorem dL_sighOf_3 : decode cL_sighOf 3 = .ok (.iload_n 1, 1) := by decide +kernel
theorem dL_sighOf_4 : decode cL_sighOf 4 = .ok (.invokevirtual 83, 3) := by decide +kernel
theorem dL_sighOf_7 : decode cL_sighOf 7 = .ok (.i2l, 1) := by decide +kernel
theorem dL_sighOf_8 : decode cL_sighOf 8 = .ok (.lastore, 1) := by decide +kernel
theorem dL_sighOf_9 : decode cL_sighOf 9 = .ok (.goto 6, 3) := by decide +kernel
theorem dL_sighOf_12 : decode cL_sighOf 12 = .ok (.astore_n 3, 1) := by decide +kernel
theorem dL_sighOf_13 : decode cL_sighOf 13 = .ok (.iconst 1, 1) := by decide +kernel
theorem dL_sighOf_14 : decode cL_sighOf 14 = .ok (.ireturn, 1) := by decide +kernel
theorem dL_sighOf_15 : decode cL_sighOf 15 = .ok (.iconst 0, 1) := by decide +kernel
theorem dL_sighOf_16 : decode cL_sighOf 16 = .ok (.ireturn, 1) := by decide +kernel
theorem dL_isTranslated_0 : decode cL_isTranslated 0 = .ok (.aload_n 3, 1) := by decide +kernel
theorem dL_isTranslated_1 : decode cL_isTranslated 1 = .ok (.iconst 0, 1) := by decide +kernel
theorem dL_isTranslated_2 : decode cL_isTranslated 2 = .ok (.aload_n 0, 1) := by decide +kernel
theorem dL_isTranslated_3 : decode cL_isTranslated 3 = .ok (.iload_n 1, 1) := by decide +kernel
theorem dL_isTranslated_4 : decode cL_isTranslated 4 = .ok (.iload_n 2, 1) := by decide +kernel
theorem dL_isTranslated_5 : decode cL_isTranslated 5 = .ok (.invokevirtual 86, 3) := by decide +kernel
theorem dL_isTranslated_8 : decode cL_isTranslated 8 = .ok (.ifCond .eq 7, 3) := by decide +kernel
theorem dL_isTranslated_11 : decode cL_isTranslated 11 = .ok (.lconst 1, 1) := by decide +kernel
theorem dL_isTranslated_12 : decode cL_isTranslated 12 = .ok (.goto 4, 3) := by decide +kernel
theorem dL_isTranslated_15 : decode cL_isTranslated 15 = .ok (.lconst 0, 1) := by decide +kernel
theorem dL_isTranslated_16 : decode cL_isTranslated 16 = .ok (.lastore, 1) := by decide +kernel
theorem dL_isTranslated_17 : decode cL_isTranslated 17 = .ok (.goto 7, 3) := by decide +kernel
theorem dL_isTranslated_20 : decode cL_isTranslated 20 = .ok (.astore 4, 2) := by decide +kernel
theorem dL_isTranslated_22 : decode cL_isTranslated 22 = .ok (.iconst 1, 1) := by decide +kernel
theorem dL_isTranslated_23 : decode cL_isTranslated 23 = .ok (.ireturn, 1) := by decide +kernel
theorem dL_isTranslated_24 : decode cL_isTranslated 24 = .ok (.iconst 0, 1) := by decide +kernel
theorem dL_isTranslated_25 : decode cL_isTranslated 25 = .ok (.ireturn, 1) := by decide +kernel
theorem dL_framesOf_0 : decode cL_framesOf 0 = .ok (.aload_n 3, 1) := by decide +kernel
theorem dL_framesOf_1 : decode cL_framesOf 1 = .ok (.iconst 0, 1) := by decide +kernel
theorem dL_framesOf_2 : decode cL_framesOf 2 = .ok (.aload_n 0, 1) := by decide +kernel
theorem dL_framesOf_3 : decode cL_framesOf 3 = .ok (.iload_n 1, 1) := by decide +kernel
theorem dL_framesOf_4 : decode cL_framesOf 4 = .ok (.iload_n 2, 1) := by decide +kernel
theorem dL_framesOf_5 : decode cL_framesOf 5 = .ok (.invokevirtual 90, 3) := by decide +kernel
theorem dL_framesOf_8 : decode cL_framesOf 8 = .ok (.i2l, 1) := by decide +kernel
theorem dL_framesOf_9 : decode cL_framesOf 9 = .ok (.lastore, 1) := by decide +kernel
theorem dL_framesOf_10 : decode cL_framesOf 10 = .ok (.goto 11, 3) := by decide +kernel
theorem dL_framesOf_13 : decode cL_framesOf 13 = .ok (.astore 4, 2) := by decide +kernel
theorem dL_framesOf_15 : decode cL_framesOf 15 = .ok (.iconst 1, 1) := by decide +kernel
theorem dL_framesOf_16 : decode cL_framesOf 16 = .ok (.ireturn, 1) := by decide +kernel
theorem dL_framesOf_17 : decode cL_framesOf 17 = .ok (.astore 4, 2) := by decide +kernel
theorem dL_framesOf_19 : decode cL_framesOf 19 = .ok (.iconst 2, 1) := by decide +kernel
theorem dL_framesOf_20 : decode cL_framesOf 20 = .ok (.ireturn, 1) := by decide +kernel
theorem dL_framesOf_21 : decode cL_framesOf 21 = .ok (.iconst 0, 1) := by decide +kernel
theorem dL_framesOf_22 : decode cL_framesOf 22 = .ok (.ireturn, 1) := by decide +kernel
theorem dL_annexedOf_0 : decode cL_annexedOf 0 = .ok (.aload_n 3, 1) := by decide +kernel
theorem dL_annexedOf_1 : decode cL_annexedOf 1 = .ok (.iconst 0, 1) := by decide +kernel
theorem dL_annexedOf_2 : decode cL_annexedOf 2 = .ok (.aload_n 0, 1) := by decide +kernel
theorem dL_annexedOf_3 : decode cL_annexedOf 3 = .ok (.iload_n 1, 1) := by decide +kernel
theorem dL_annexedOf_4 : decode cL_annexedOf 4 = .ok (.iload_n 2, 1) := by decide +kernel
theorem dL_annexedOf_5 : decode cL_annexedOf 5 = .ok (.invokevirtual 93, 3) := by decide +kernel
theorem dL_annexedOf_8 : decode cL_annexedOf 8 = .ok (.i2l, 1) := by decide +kernel
theorem dL_annexedOf_9 : decode cL_annexedOf 9 = .ok (.lastore, 1) := by decide +kernel
theorem dL_annexedOf_10 : decode cL_annexedOf 10 = .ok (.goto 7, 3) := by decide +kernel
theorem dL_annexedOf_13 : decode cL_annexedOf 13 = .ok (.astore 4, 2) := by decide +kernel
theorem dL_annexedOf_15 : decode cL_annexedOf 15 = .ok (.iconst 1, 1) := by decide +kernel
theorem dL_annexedOf_16 : decode cL_annexedOf 16 = .ok (.ireturn, 1) := by decide +kernel
theorem dL_annexedOf_17 : decode cL_annexedOf 17 = .ok (.iconst 0, 1) := by decide +kernel
theorem dL_annexedOf_18 : decode cL_annexedOf 18 = .ok (.ireturn, 1) := by decide +kernel
theorem dL_isRecorded_0 : decode cL_isRecorded 0 = .ok (.aload_n 3, 1) := by decide +kernel
theorem dL_isRecorded_1 : decode cL_isRecorded 1 = .ok (.iconst 0, 1) := by decide +kernel
theorem dL_isRecorded_2 : decode cL_isRecorded 2 = .ok (.aload_n 0, 1) := by decide +kernel
theorem dL_isRecorded_3 : decode cL_isRecorded 3 = .ok (.iload_n 1, 1) := by decide +kernel
theorem dL_isRecorded_4 : decode cL_isRecorded 4 = .ok (.iload_n 2, 1) := by decide +kernel
theorem dL_isRecorded_5 : decode cL_isRecorded 5 = .ok (.invokevirtual 96, 3) := by decide +kernel
theorem dL_isRecorded_8 : decode cL_isRecorded 8 = .ok (.ifCond .eq 7, 3) := by decide +kernel
theorem dL_isRecorded_11 : decode cL_isRecorded 11 = .ok (.lconst 1, 1) := by decide +kernel
theorem dL_isRecorded_12 : decode cL_isRecorded 12 = .ok (.goto 4, 3) := by decide +kernel
theorem dL_isRecorded_15 : decode cL_isRecorded 15 = .ok (.lconst 0, 1) := by decide +kernel
theorem dL_isRecorded_16 : decode cL_isRecorded 16 = .ok (.lastore, 1) := by decide +kernel
theorem dL_isRecorded_17 : decode cL_isRecorded 17 = .ok (.goto 7, 3) := by decide +kernel
theorem dL_isRecorded_20 : decode cL_isRecorded 20 = .ok (.astore 4, 2) := by decide +kernel
theorem dL_isRecorded_22 : decode cL_isRecorded 22 = .ok (.iconst 1, 1) := by decide +kernel
theorem dL_isRecorded_23 : decode cL_isRecorded 23 = .ok (.ireturn, 1) := by decide +kernel
theorem dL_isRecorded_24 : decode cL_isRecorded 24 = .ok (.iconst 0, 1) := by decide +kernel
theorem dL_isRecorded_25 : decode cL_isRecorded 25 = .ok (.ireturn, 1) := by decide +kernel
theorem dL_sessionOf_0 : decode cL_sessionOf 0 = .ok (.aload_n 3, 1) := by decide +kernel
theorem dL_sessionOf_1 : decode cL_sessionOf 1 = .ok (.iconst 0, 1) := by decide +kernel
theorem dL_sessionOf_2 : decode cL_sessionOf 2 = .ok (.aload_n 0, 1) := by decide +kernel
theorem dL_sessionOf_3 : decode cL_sessionOf 3 = .ok (.iload_n 1, 1) := by decide +kernel
theorem dL_sessionOf_4 : decode cL_sessionOf 4 = .ok (.iload_n 2, 1) := by decide +kernel
theorem dL_sessionOf_5 : decode cL_sessionOf 5 = .ok (.invokevirtual 99, 3) := by decide +kernel
theorem dL_sessionOf_8 : decode cL_sessionOf 8 = .ok (.i2l, 1) := by decide +kernel
theorem dL_sessionOf_9 : decode cL_sessionOf 9 = .ok (.lastore, 1) := by decide +kernel
theorem dL_sessionOf_10 : decode cL_sessionOf 10 = .ok (.goto 11, 3) := by decide +kernel
theorem dL_sessionOf_13 : decode cL_sessionOf 13 = .ok (.astore 4, 2) := by decide +kernel
theorem dL_sessionOf_15 : decode cL_sessionOf 15 = .ok (.iconst 1, 1) := by decide +kernel
theorem dL_sessionOf_16 : decode cL_sessionOf 16 = .ok (.ireturn, 1) := by decide +kernel
theorem dL_sessionOf_17 : decode cL_sessionOf 17 = .ok (.astore 4, 2) := by decide +kernel
theorem dL_sessionOf_19 : decode cL_sessionOf 19 = .ok (.iconst 2, 1) := by decide +kernel
theorem dL_sessionOf_20 : decode cL_sessionOf 20 = .ok (.ireturn, 1) := by decide +kernel
theorem dL_sessionOf_21 : decode cL_sessionOf 21 = .ok (.iconst 0, 1) := by decide +kernel
theorem dL_sessionOf_22 : decode cL_sessionOf 22 = .ok (.ireturn, 1) := by decide +kernel
theorem dL_roomFor_0 : decode cL_roomFor 0 = .ok (.aload_n 3, 1) := by decide +kernel
theorem dL_roomFor_1 : decode cL_roomFor 1 = .ok (.iconst 0, 1) := by decide +kernel
theorem dL_roomFor_2 : decode cL_roomFor 2 = .ok (.aload_n 0, 1) := by decide +kernel
theorem dL_roomFor_3 : decode cL_roomFor 3 = .ok (.iload_n 1, 1) := by decide +kernel
theorem dL_roomFor_4 : decode cL_roomFor 4 = .ok (.iload_n 2, 1) := by decide +kernel
theorem dL_roomFor_5 : decode cL_roomFor 5 = .ok (.invokevirtual 102, 3) := by decide +kernel
theorem dL_roomFor_8 : decode cL_roomFor 8 = .ok (.i2l, 1) := by decide +kernel
theorem dL_roomFor_9 : decode cL_roomFor 9 = .ok (.lastore, 1) := by decide +kernel
theorem dL_roomFor_10 : decode cL_roomFor 10 = .ok (.goto 11, 3) := by decide +kernel
theorem dL_roomFor_13 : decode cL_roomFor 13 = .ok (.astore 4, 2) := by decide +kernel
theorem dL_roomFor_15 : decode cL_roomFor 15 = .ok (.iconst 1, 1) := by decide +kernel
theorem dL_roomFor_16 : decode cL_roomFor 16 = .ok (.ireturn, 1) := by decide +kernel
theorem dL_roomFor_17 : decode cL_roomFor 17 = .ok (.astore 4, 2) := by decide +kernel
theorem dL_roomFor_19 : decode cL_roomFor 19 = .ok (.iconst 2, 1) := by decide +kernel
theorem dL_roomFor_20 : decode cL_roomFor 20 = .ok (.ireturn, 1) := by decide +kernel
theorem dL_roomFor_21 : decode cL_roomFor 21 = .ok (.iconst 0, 1) := by decide +kernel
theorem dL_roomFor_22 : decode cL_roomFor 22 = .ok (.ireturn, 1) := by decide +kernel
theorem dL_fits_0 : decode cL_fits 0 = .ok (.aload_n 3, 1) := by decide +kernel
theorem dL_fits_1 : decode cL_fits 1 = .ok (.iconst 0, 1) := by decide +kernel
theorem dL_fits_2 : decode cL_fits 2 = .ok (.aload_n 0, 1) := by decide +kernel
theorem dL_fits_3 : decode cL_fits 3 = .ok (.iload_n 1, 1) := by decide +kernel
theorem dL_fits_4 : decode cL_fits 4 = .ok (.iload_n 2, 1) := by decide +kernel
theorem dL_fits_5 : decode cL_fits 5 = .ok (.invokevirtual 105, 3) := by decide +kernel
theorem dL_fits_8 : decode cL_fits 8 = .ok (.ifCond .eq 7, 3) := by decide +kernel
theorem dL_fits_11 : decode cL_fits 11 = .ok (.lconst 1, 1) := by decide +kernel
theorem dL_fits_12 : decode cL_fits 12 = .ok (.goto 4, 3) := by decide +kernel
theorem dL_fits_15 : decode cL_fits 15 = .ok (.lconst 0, 1) := by decide +kernel
theorem dL_fits_16 : decode cL_fits 16 = .ok (.lastore, 1) := by decide +kernel
theorem dL_fits_17 : decode cL_fits 17 = .ok (.goto 7, 3) := by decide +kernel
theorem dL_fits_20 : decode cL_fits 20 = .ok (.astore 4, 2) := by decide +kernel
theorem dL_fits_22 : decode cL_fits 22 = .ok (.iconst 1, 1) := by decide +kernel
theorem dL_fits_23 : decode cL_fits 23 = .ok (.ireturn, 1) := by decide +kernel
theorem dL_fits_24 : decode cL_fits 24 = .ok (.iconst 0, 1) := by decide +kernel
theorem dL_fits_25 : decode cL_fits 25 = .ok (.ireturn, 1) := by decide +kernel
theorem dL_hundredthsOf_0 : decode cL_hundredthsOf 0 = .ok (.aload_n 3, 1) := by decide +kernel
theorem dL_hundredthsOf_1 : decode cL_hundredthsOf 1 = .ok (.iconst 0, 1) := by decide +kernel
theorem dL_hundredthsOf_2 : decode cL_hundredthsOf 2 = .ok (.aload_n 0, 1) := by decide +kernel
theorem dL_hundredthsOf_3 : decode cL_hundredthsOf 3 = .ok (.iload_n 1, 1) := by decide +kernel
theorem dL_hundredthsOf_4 : decode cL_hundredthsOf 4 = .ok (.iload_n 2, 1) := by decide +kernel
theorem dL_hundredthsOf_5 : decode cL_hundredthsOf 5 = .ok (.invokevirtual 108, 3) := by decide +kernel
theorem dL_hundredthsOf_8 : decode cL_hundredthsOf 8 = .ok (.i2l, 1) := by decide +kernel
theorem dL_hundredthsOf_9 : decode cL_hundredthsOf 9 = .ok (.lastore, 1) := by decide +kernel
theorem dL_hundredthsOf_10 : decode cL_hundredthsOf 10 = .ok (.goto 11, 3) := by decide +kernel
theorem dL_hundredthsOf_13 : decode cL_hundredthsOf 13 = .ok (.astore 4, 2) := by decide +kernel
theorem dL_hundredthsOf_15 : decode cL_hundredthsOf 15 = .ok (.iconst 1, 1) := by decide +kernel
theorem dL_hundredthsOf_16 : decode cL_hundredthsOf 16 = .ok (.ireturn, 1) := by decide +kernel
theorem dL_hundredthsOf_17 : decode cL_hundredthsOf 17 = .ok (.astore 4, 2) := by decide +kernel
theorem dL_hundredthsOf_19 : decode cL_hundredthsOf 19 = .ok (.iconst 2, 1) := by decide +kernel
theorem dL_hundredthsOf_20 : decode cL_hundredthsOf 20 = .ok (.ireturn, 1) := by decide +kernel
theorem dL_hundredthsOf_21 : decode cL_hundredthsOf 21 = .ok (.iconst 0, 1) := by decide +kernel
theorem dL_hundredthsOf_22 : decode cL_hundredthsOf 22 = .ok (.ireturn, 1) := by decide +kernel
theorem dL_reasonAgainst_0 : decode cL_reasonAgainst 0 = .ok (.aload_n 3, 1) := by decide +kernel
theorem dL_reasonAgainst_1 : decode cL_reasonAgainst 1 = .ok (.iconst 0, 1) := by decide +kernel
theorem dL_reasonAgainst_2 : decode cL_reasonAgainst 2 = .ok (.aload_n 0, 1) := by decide +kernel
theorem dL_reasonAgainst_3 : decode cL_reasonAgainst 3 = .ok (.iload_n 1, 1) := by decide +kernel
theorem dL_reasonAgainst_4 : decode cL_reasonAgainst 4 = .ok (.iload_n 2, 1) := by decide +kernel
theorem dL_reasonAgainst_5 : decode cL_reasonAgainst 5 = .ok (.invokevirtual 111, 3) := by decide +kernel
theorem dL_reasonAgainst_8 : decode cL_reasonAgainst 8 = .ok (.i2l, 1) := by decide +kernel
theorem dL_reasonAgainst_9 : decode cL_reasonAgainst 9 = .ok (.lastore, 1) := by decide +kernel
theorem dL_reasonAgainst_10 : decode cL_reasonAgainst 10 = .ok (.goto 7, 3) := by decide +kernel
theorem dL_reasonAgainst_13 : decode cL_reasonAgainst 13 = .ok (.astore 4, 2) := by decide +kernel
theorem dL_reasonAgainst_15 : decode cL_reasonAgainst 15 = .ok (.iconst 1, 1) := by decide +kernel
theorem dL_reasonAgainst_16 : decode cL_reasonAgainst 16 = .ok (.ireturn, 1) := by decide +kernel
theorem dL_reasonAgainst_17 : decode cL_reasonAgainst 17 = .ok (.iconst 0, 1) := by decide +kernel
theorem dL_reasonAgainst_18 : decode cL_reasonAgainst 18 = .ok (.ireturn, 1) := by decide +kernel
theorem dL_staminaOf_0 : decode cL_staminaOf 0 = .ok (.aload_n 3, 1) := by decide +kernel
theorem dL_staminaOf_1 : decode cL_staminaOf 1 = .ok (.iconst 0, 1) := by decide +kernel
theorem dL_staminaOf_2 : decode cL_staminaOf 2 = .ok (.aload_n 0, 1) := by decide +kernel
theorem dL_staminaOf_3 : decode cL_staminaOf 3 = .ok (.iload_n 1, 1) := by decide +kernel
theorem dL_staminaOf_4 : decode cL_staminaOf 4 = .ok (.iload_n 2, 1) := by decide +kernel
theorem dL_staminaOf_5 : decode cL_staminaOf 5 = .ok (.invokevirtual 114, 3) := by decide +kernel
theorem dL_staminaOf_8 : decode cL_staminaOf 8 = .ok (.i2l, 1) := by decide +kernel
theorem dL_staminaOf_9 : decode cL_staminaOf 9 = .ok (.lastore, 1) := by decide +kernel
theorem dL_staminaOf_10 : decode cL_staminaOf 10 = .ok (.goto 7, 3) := by decide +kernel
theorem dL_staminaOf_13 : decode cL_staminaOf 13 = .ok (.astore 4, 2) := by decide +kernel
theorem dL_staminaOf_15 : decode cL_staminaOf 15 = .ok (.iconst 1, 1) := by decide +kernel
theorem dL_staminaOf_16 : decode cL_staminaOf 16 = .ok (.ireturn, 1) := by decide +kernel
theorem dL_staminaOf_17 : decode cL_staminaOf 17 = .ok (.iconst 0, 1) := by decide +kernel
theorem dL_staminaOf_18 : decode cL_staminaOf 18 = .ok (.ireturn, 1) := by decide +kernel
theorem dL_strengthLeft_0 : decode cL_strengthLeft 0 = .ok (.aload_n 3, 1) := by decide +kernel
theorem dL_strengthLeft_1 : decode cL_strengthLeft 1 = .ok (.iconst 0, 1) := by decide +kernel
theorem dL_strengthLeft_2 : decode cL_strengthLeft 2 = .ok (.aload_n 0, 1) := by decide +kernel
theorem dL_strengthLeft_3 : decode cL_strengthLeft 3 = .ok (.iload_n 1, 1) := by decide +kernel
theorem dL_strengthLeft_4 : decode cL_strengthLeft 4 = .ok (.iload_n 2, 1) := by decide +kernel
theorem dL_strengthLeft_5 : decode cL_strengthLeft 5 = .ok (.invokevirtual 117, 3) := by decide +kernel
theorem dL_strengthLeft_8 : decode cL_strengthLeft 8 = .ok (.i2l, 1) := by decide +kernel
theorem dL_strengthLeft_9 : decode cL_strengthLeft 9 = .ok (.lastore, 1) := by decide +kernel
theorem dL_strengthLeft_10 : decode cL_strengthLeft 10 = .ok (.goto 7, 3) := by decide +kernel
theorem dL_strengthLeft_13 : decode cL_strengthLeft 13 = .ok (.astore 4, 2) := by decide +kernel
theorem dL_strengthLeft_15 : decode cL_strengthLeft 15 = .ok (.iconst 1, 1) := by decide +kernel
theorem dL_strengthLeft_16 : decode cL_strengthLeft 16 = .ok (.ireturn, 1) := by decide +kernel
theorem dL_strengthLeft_17 : decode cL_strengthLeft 17 = .ok (.iconst 0, 1) := by decide +kernel
theorem dL_strengthLeft_18 : decode cL_strengthLeft 18 = .ok (.ireturn, 1) := by decide +kernel
theorem dL_framesOfVoice_0 : decode cL_framesOfVoice 0 = .ok (.aload_n 3, 1) := by decide +kernel
theorem dL_framesOfVoice_1 : decode cL_framesOfVoice 1 = .ok (.iconst 0, 1) := by decide +kernel
theorem dL_framesOfVoice_2 : decode cL_framesOfVoice 2 = .ok (.aload_n 0, 1) := by decide +kernel
theorem dL_framesOfVoice_3 : decode cL_framesOfVoice 3 = .ok (.iload_n 1, 1) := by decide +kernel
theorem dL_framesOfVoice_4 : decode cL_framesOfVoice 4 = .ok (.iload_n 2, 1) := by decide +kernel
theorem dL_framesOfVoice_5 : decode cL_framesOfVoice 5 = .ok (.invokevirtual 120, 3) := by decide +kernel
theorem dL_framesOfVoice_8 : decode cL_framesOfVoice 8 = .ok (.i2l, 1) := by decide +kernel
theorem dL_framesOfVoice_9 : decode cL_framesOfVoice 9 = .ok (.lastore, 1) := by decide +kernel
theorem dL_framesOfVoice_10 : decode cL_framesOfVoice 10 = .ok (.goto 7, 3) := by decide +kernel
theorem dL_framesOfVoice_13 : decode cL_framesOfVoice 13 = .ok (.astore 4, 2) := by decide +kernel
theorem dL_framesOfVoice_15 : decode cL_framesOfVoice 15 = .ok (.iconst 1, 1) := by decide +kernel
theorem dL_framesOfVoice_16 : decode cL_framesOfVoice 16 = .ok (.ireturn, 1) := by decide +kernel
theorem dL_framesOfVoice_17 : decode cL_framesOfVoice 17 = .ok (.iconst 0, 1) := by decide +kernel
theorem dL_framesOfVoice_18 : decode cL_framesOfVoice 18 = .ok (.ireturn, 1) := by decide +kernel
theorem dL_sessionsByGoing_0 : decode cL_sessionsByGoing 0 = .ok (.aload_n 3, 1) := by decide +kernel
theorem dL_sessionsByGoing_1 : decode cL_sessionsByGoing 1 = .ok (.iconst 0, 1) := by decide +kernel
theorem dL_sessionsByGoing_2 : decode cL_sessionsByGoing 2 = .ok (.aload_n 0, 1) := by decide +kernel
theorem dL_sessionsByGoing_3 : decode cL_sessionsByGoing 3 = .ok (.iload_n 1, 1) := by decide +kernel
theorem dL_sessionsByGoing_4 : decode cL_sessionsByGoing 4 = .ok (.iload_n 2, 1) := by decide +kernel
theorem dL_sessionsByGoing_5 : decode cL_sessionsByGoing 5 = .ok (.invokevirtual 123, 3) := by decide +kernel
theorem dL_sessionsByGoing_8 : decode cL_sessionsByGoing 8 = .ok (.i2l, 1) := by decide +kernel
theorem dL_sessionsByGoing_9 : decode cL_sessionsByGoing 9 = .ok (.lastore, 1) := by decide +kernel
theorem dL_sessionsByGoing_10 : decode cL_sessionsByGoing 10 = .ok (.goto 11, 3) := by decide +kernel
theorem dL_sessionsByGoing_13 : decode cL_sessionsByGoing 13 = .ok (.astore 4, 2) := by decide +kernel
theorem dL_sessionsByGoing_15 : decode cL_sessionsByGoing 15 = .ok (.iconst 1, 1) := by decide +kernel
theorem dL_sessionsByGoing_16 : decode cL_sessionsByGoing 16 = .ok (.ireturn, 1) := by decide +kernel
theorem dL_sessionsByGoing_17 : decode cL_sessionsByGoing 17 = .ok (.astore 4, 2) := by decide +kernel
theorem dL_sessionsByGoing_19 : decode cL_sessionsByGoing 19 = .ok (.iconst 2, 1) := by decide +kernel
theorem dL_sessionsByGoing_20 : decode cL_sessionsByGoing 20 = .ok (.ireturn, 1) := by decide +kernel
theorem dL_sessionsByGoing_21 : decode cL_sessionsByGoing 21 = .ok (.iconst 0, 1) := by decide +kernel
theorem dL_sessionsByGoing_22 : decode cL_sessionsByGoing 22 = .ok (.ireturn, 1) := by decide +kernel
theorem dL_sessionsByTable_0 : decode cL_sessionsByTable 0 = .ok (.aload_n 3, 1) := by decide +kernel
theorem dL_sessionsByTable_1 : decode cL_sessionsByTable 1 = .ok (.iconst 0, 1) := by decide +kernel
theorem dL_sessionsByTable_2 : decode cL_sessionsByTable 2 = .ok (.aload_n 0, 1) := by decide +kernel
theorem dL_sessionsByTable_3 : decode cL_sessionsByTable 3 = .ok (.iload_n 1, 1) := by decide +kernel
theorem dL_sessionsByTable_4 : decode cL_sessionsByTable 4 = .ok (.iload_n 2, 1) := by decide +kernel
theorem dL_sessionsByTable_5 : decode cL_sessionsByTable 5 = .ok (.invokevirtual 126, 3) := by decide +kernel
theorem dL_sessionsByTable_8 : decode cL_sessionsByTable 8 = .ok (.i2l, 1) := by decide +kernel
theorem dL_sessionsByTable_9 : decode cL_sessionsByTable 9 = .ok (.lastore, 1) := by decide +kernel
theorem dL_sessionsByTable_10 : decode cL_sessionsByTable 10 = .ok (.goto 11, 3) := by decide +kernel
theorem dL_sessionsByTable_13 : decode cL_sessionsByTable 13 = .ok (.astore 4, 2) := by decide +kernel
theorem dL_sessionsByTable_15 : decode cL_sessionsByTable 15 = .ok (.iconst 1, 1) := by decide +kernel
theorem dL_sessionsByTable_16 : decode cL_sessionsByTable 16 = .ok (.ireturn, 1) := by decide +kernel
theorem dL_sessionsByTable_17 : decode cL_sessionsByTable 17 = .ok (.astore 4, 2) := by decide +kernel
theorem dL_sessionsByTable_19 : decode cL_sessionsByTable 19 = .ok (.iconst 2, 1) := by decide +kernel
theorem dL_sessionsByTable_20 : decode cL_sessionsByTable 20 = .ok (.ireturn, 1) := by decide +kernel
theorem dL_sessionsByTable_21 : decode cL_sessionsByTable 21 = .ok (.iconst 0, 1) := by decide +kernel
theorem dL_sessionsByTable_22 : decode cL_sessionsByTable 22 = .ok (.ireturn, 1) := by decide +kernel
theorem dL_clausesIn_0 : decode cL_clausesIn 0 = .ok (.aload_n 2, 1) := by decide +kernel
theorem dL_clausesIn_1 : decode cL_clausesIn 1 = .ok (.iconst 0, 1) := by decide +kernel
theorem dL_clausesIn_2 : decode cL_clausesIn 2 = .ok (.aload_n 0, 1) := by decide +kernel
theorem dL_clausesIn_3 : decode cL_clausesIn 3 = .ok (.iload_n 1, 1) := by decide +kernel
theorem dL_clausesIn_4 : decode cL_clausesIn 4 = .ok (.invokevirtual 129, 3) := by decide +kernel
theorem dL_clausesIn_7 : decode cL_clausesIn 7 = .ok (.i2l, 1) := by decide +kernel
theorem dL_clausesIn_8 : decode cL_clausesIn 8 = .ok (.lastore, 1) := by decide +kernel
theorem dL_clausesIn_9 : decode cL_clausesIn 9 = .ok (.goto 6, 3) := by decide +kernel
theorem dL_clausesIn_12 : decode cL_clausesIn 12 = .ok (.astore_n 3, 1) := by decide +kernel
theorem dL_clausesIn_13 : decode cL_clausesIn 13 = .ok (.iconst 1, 1) := by decide +kernel
theorem dL_clausesIn_14 : decode cL_clausesIn 14 = .ok (.ireturn, 1) := by decide +kernel
theorem dL_clausesIn_15 : decode cL_clausesIn 15 = .ok (.iconst 0, 1) := by decide +kernel
theorem dL_clausesIn_16 : decode cL_clausesIn 16 = .ok (.ireturn, 1) := by decide +kernel
theorem dL_lengthOf_0 : decode cL_lengthOf 0 = .ok (.aload_n 2, 1) := by decide +kernel
theorem dL_lengthOf_1 : decode cL_lengthOf 1 = .ok (.iconst 0, 1) := by decide +kernel
theorem dL_lengthOf_2 : decode cL_lengthOf 2 = .ok (.aload_n 0, 1) := by decide +kernel
theorem dL_lengthOf_3 : decode cL_lengthOf 3 = .ok (.iload_n 1, 1) := by decide +kernel
theorem dL_lengthOf_4 : decode cL_lengthOf 4 = .ok (.invokevirtual 132, 3) := by decide +kernel
theorem dL_lengthOf_7 : decode cL_lengthOf 7 = .ok (.i2l, 1) := by decide +kernel
theorem dL_lengthOf_8 : decode cL_lengthOf 8 = .ok (.lastore, 1) := by decide +kernel
theorem dL_lengthOf_9 : decode cL_lengthOf 9 = .ok (.goto 6, 3) := by decide +kernel
theorem dL_lengthOf_12 : decode cL_lengthOf 12 = .ok (.astore_n 3, 1) := by decide +kernel
theorem dL_lengthOf_13 : decode cL_lengthOf 13 = .ok (.iconst 1, 1) := by decide +kernel
theorem dL_lengthOf_14 : decode cL_lengthOf 14 = .ok (.ireturn, 1) := by decide +kernel
theorem dL_lengthOf_15 : decode cL_lengthOf 15 = .ok (.iconst 0, 1) := by decide +kernel
theorem dL_lengthOf_16 : decode cL_lengthOf 16 = .ok (.ireturn, 1) := by decide +kernel
theorem dL_speaksIn_0 : decode cL_speaksIn 0 = .ok (.aload_n 3, 1) := by decide +kernel
theorem dL_speaksIn_1 : decode cL_speaksIn 1 = .ok (.iconst 0, 1) := by decide +kernel
theorem dL_speaksIn_2 : decode cL_speaksIn 2 = .ok (.aload_n 0, 1) := by decide +kernel
theorem dL_speaksIn_3 : decode cL_speaksIn 3 = .ok (.iload_n 1, 1) := by decide +kernel
theorem dL_speaksIn_4 : decode cL_speaksIn 4 = .ok (.iload_n 2, 1) := by decide +kernel
theorem dL_speaksIn_5 : decode cL_speaksIn 5 = .ok (.invokevirtual 135, 3) := by decide +kernel
theorem dL_speaksIn_8 : decode cL_speaksIn 8 = .ok (.ifCond .eq 7, 3) := by decide +kernel
theorem dL_speaksIn_11 : decode cL_speaksIn 11 = .ok (.lconst 1, 1) := by decide +kernel
theorem dL_speaksIn_12 : decode cL_speaksIn 12 = .ok (.goto 4, 3) := by decide +kernel
theorem dL_speaksIn_15 : decode cL_speaksIn 15 = .ok (.lconst 0, 1) := by decide +kernel
theorem dL_speaksIn_16 : decode cL_speaksIn 16 = .ok (.lastore, 1) := by decide +kernel
theorem dL_speaksIn_17 : decode cL_speaksIn 17 = .ok (.goto 7, 3) := by decide +kernel
theorem dL_speaksIn_20 : decode cL_speaksIn 20 = .ok (.astore 4, 2) := by decide +kernel
theorem dL_speaksIn_22 : decode cL_speaksIn 22 = .ok (.iconst 1, 1) := by decide +kernel
theorem dL_speaksIn_23 : decode cL_speaksIn 23 = .ok (.ireturn, 1) := by decide +kernel
theorem dL_speaksIn_24 : decode cL_speaksIn 24 = .ok (.iconst 0, 1) := by decide +kernel
theorem dL_speaksIn_25 : decode cL_speaksIn 25 = .ok (.ireturn, 1) := by decide +kernel
theorem dL_isComplete_0 : decode cL_isComplete 0 = .ok (.aload_n 3, 1) := by decide +kernel
theorem dL_isComplete_1 : decode cL_isComplete 1 = .ok (.iconst 0, 1) := by decide +kernel
theorem dL_isComplete_2 : decode cL_isComplete 2 = .ok (.aload_n 0, 1) := by decide +kernel
theorem dL_isComplete_3 : decode cL_isComplete 3 = .ok (.iload_n 1, 1) := by decide +kernel
theorem dL_isComplete_4 : decode cL_isComplete 4 = .ok (.iload_n 2, 1) := by decide +kernel
theorem dL_isComplete_5 : decode cL_isComplete 5 = .ok (.invokevirtual 138, 3) := by decide +kernel
theorem dL_isComplete_8 : decode cL_isComplete 8 = .ok (.ifCond .eq 7, 3) := by decide +kernel
theorem dL_isComplete_11 : decode cL_isComplete 11 = .ok (.lconst 1, 1) := by decide +kernel
theorem dL_isComplete_12 : decode cL_isComplete 12 = .ok (.goto 4, 3) := by decide +kernel
theorem dL_isComplete_15 : decode cL_isComplete 15 = .ok (.lconst 0, 1) := by decide +kernel
theorem dL_isComplete_16 : decode cL_isComplete 16 = .ok (.lastore, 1) := by decide +kernel
theorem dL_isComplete_17 : decode cL_isComplete 17 = .ok (.goto 7, 3) := by decide +kernel
theorem dL_isComplete_20 : decode cL_isComplete 20 = .ok (.astore 4, 2) := by decide +kernel
theorem dL_isComplete_22 : decode cL_isComplete 22 = .ok (.iconst 1, 1) := by decide +kernel
theorem dL_isComplete_23 : decode cL_isComplete 23 = .ok (.ireturn, 1) := by decide +kernel
theorem dL_isComplete_24 : decode cL_isComplete 24 = .ok (.iconst 0, 1) := by decide +kernel
theorem dL_isComplete_25 : decode cL_isComplete 25 = .ok (.ireturn, 1) := by decide +kernel
theorem dL_isMixed_0 : decode cL_isMixed 0 = .ok (.aload_n 3, 1) := by decide +kernel
theorem dL_isMixed_1 : decode cL_isMixed 1 = .ok (.iconst 0, 1) := by decide +kernel
theorem dL_isMixed_2 : decode cL_isMixed 2 = .ok (.aload_n 0, 1) := by decide +kernel
theorem dL_isMixed_3 : decode cL_isMixed 3 = .ok (.iload_n 1, 1) := by decide +kernel
theorem dL_isMixed_4 : decode cL_isMixed 4 = .ok (.iload_n 2, 1) := by decide +kernel
theorem dL_isMixed_5 : decode cL_isMixed 5 = .ok (.invokevirtual 141, 3) := by decide +kernel
theorem dL_isMixed_8 : decode cL_isMixed 8 = .ok (.ifCond .eq 7, 3) := by decide +kernel
theorem dL_isMixed_11 : decode cL_isMixed 11 = .ok (.lconst 1, 1) := by decide +kernel
theorem dL_isMixed_12 : decode cL_isMixed 12 = .ok (.goto 4, 3) := by decide +kernel
theorem dL_isMixed_15 : decode cL_isMixed 15 = .ok (.lconst 0, 1) := by decide +kernel
theorem dL_isMixed_16 : decode cL_isMixed 16 = .ok (.lastore, 1) := by decide +kernel
theorem dL_isMixed_17 : decode cL_isMixed 17 = .ok (.goto 7, 3) := by decide +kernel
theorem dL_isMixed_20 : decode cL_isMixed 20 = .ok (.astore 4, 2) := by decide +kernel
theorem dL_isMixed_22 : decode cL_isMixed 22 = .ok (.iconst 1, 1) := by decide +kernel
theorem dL_isMixed_23 : decode cL_isMixed 23 = .ok (.ireturn, 1) := by decide +kernel
theorem dL_isMixed_24 : decode cL_isMixed 24 = .ok (.iconst 0, 1) := by decide +kernel
theorem dL_isMixed_25 : decode cL_isMixed 25 = .ok (.ireturn, 1) := by decide +kernel
theorem dL_hasSigned_0 : decode cL_hasSigned 0 = .ok (.aload 4, 2) := by decide +kernel
theorem dL_hasSigned_2 : decode cL_hasSigned 2 = .ok (.iconst 0, 1) := by decide +kernel
theorem dL_hasSigned_3 : decode cL_hasSigned 3 = .ok (.aload_n 0, 1) := by decide +kernel
theorem dL_hasSigned_4 : decode cL_hasSigned 4 = .ok (.iload_n 1, 1) := by decide +kernel
theorem dL_hasSigned_5 : decode cL_hasSigned 5 = .ok (.iload_n 2, 1) := by decide +kernel
theorem dL_hasSigned_6 : decode cL_hasSigned 6 = .ok (.iload_n 3, 1) := by decide +kernel
theorem dL_hasSigned_7 : decode cL_hasSigned 7 = .ok (.invokevirtual 144, 3) := by decide +kernel
theorem dL_hasSigned_10 : decode cL_hasSigned 10 = .ok (.ifCond .eq 7, 3) := by decide +kernel
theorem dL_hasSigned_13 : decode cL_hasSigned 13 = .ok (.lconst 1, 1) := by decide +kernel
theorem dL_hasSigned_14 : decode cL_hasSigned 14 = .ok (.goto 4, 3) := by decide +kernel
theorem dL_hasSigned_17 : decode cL_hasSigned 17 = .ok (.lconst 0, 1) := by decide +kernel
theorem dL_hasSigned_18 : decode cL_hasSigned 18 = .ok (.lastore, 1) := by decide +kernel
theorem dL_hasSigned_19 : decode cL_hasSigned 19 = .ok (.goto 7, 3) := by decide +kernel
theorem dL_hasSigned_22 : decode cL_hasSigned 22 = .ok (.astore 5, 2) := by decide +kernel
theorem dL_hasSigned_24 : decode cL_hasSigned 24 = .ok (.iconst 1, 1) := by decide +kernel
theorem dL_hasSigned_25 : decode cL_hasSigned 25 = .ok (.ireturn, 1) := by decide +kernel
theorem dL_hasSigned_26 : decode cL_hasSigned 26 = .ok (.iconst 0, 1) := by decide +kernel
theorem dL_hasSigned_27 : decode cL_hasSigned 27 = .ok (.ireturn, 1) := by decide +kernel
theorem dL_signaturesOn_0 : decode cL_signaturesOn 0 = .ok (.aload_n 3, 1) := by decide +kernel
theorem dL_signaturesOn_1 : decode cL_signaturesOn 1 = .ok (.iconst 0, 1) := by decide +kernel
theorem dL_signaturesOn_2 : decode cL_signaturesOn 2 = .ok (.aload_n 0, 1) := by decide +kernel
theorem dL_signaturesOn_3 : decode cL_signaturesOn 3 = .ok (.iload_n 1, 1) := by decide +kernel
theorem dL_signaturesOn_4 : decode cL_signaturesOn 4 = .ok (.iload_n 2, 1) := by decide +kernel
theorem dL_signaturesOn_5 : decode cL_signaturesOn 5 = .ok (.invokevirtual 148, 3) := by decide +kernel
theorem dL_signaturesOn_8 : decode cL_signaturesOn 8 = .ok (.i2l, 1) := by decide +kernel
theorem dL_signaturesOn_9 : decode cL_signaturesOn 9 = .ok (.lastore, 1) := by decide +kernel
theorem dL_signaturesOn_10 : decode cL_signaturesOn 10 = .ok (.goto 7, 3) := by decide +kernel
theorem dL_signaturesOn_13 : decode cL_signaturesOn 13 = .ok (.astore 4, 2) := by decide +kernel
theorem dL_signaturesOn_15 : decode cL_signaturesOn 15 = .ok (.iconst 1, 1) := by decide +kernel
theorem dL_signaturesOn_16 : decode cL_signaturesOn 16 = .ok (.ireturn, 1) := by decide +kernel
theorem dL_signaturesOn_17 : decode cL_signaturesOn 17 = .ok (.iconst 0, 1) := by decide +kernel
theorem dL_signaturesOn_18 : decode cL_signaturesOn 18 = .ok (.ireturn, 1) := by decide +kernel
theorem dL_missingOn_0 : decode cL_missingOn 0 = .ok (.aload_n 3, 1) := by decide +kernel
theorem dL_missingOn_1 : decode cL_missingOn 1 = .ok (.iconst 0, 1) := by decide +kernel
theorem dL_missingOn_2 : decode cL_missingOn 2 = .ok (.aload_n 0, 1) := by decide +kernel
theorem dL_missingOn_3 : decode cL_missingOn 3 = .ok (.iload_n 1, 1) := by decide +kernel
theorem dL_missingOn_4 : decode cL_missingOn 4 = .ok (.iload_n 2, 1) := by decide +kernel
theorem dL_missingOn_5 : decode cL_missingOn 5 = .ok (.invokevirtual 151, 3) := by decide +kernel
theorem dL_missingOn_8 : decode cL_missingOn 8 = .ok (.i2l, 1) := by decide +kernel
theorem dL_missingOn_9 : decode cL_missingOn 9 = .ok (.lastore, 1) := by decide +kernel
theorem dL_missingOn_10 : decode cL_missingOn 10 = .ok (.goto 7, 3) := by decide +kernel
theorem dL_missingOn_13 : decode cL_missingOn 13 = .ok (.astore 4, 2) := by decide +kernel
theorem dL_missingOn_15 : decode cL_missingOn 15 = .ok (.iconst 1, 1) := by decide +kernel
theorem dL_missingOn_16 : decode cL_missingOn 16 = .ok (.ireturn, 1) := by decide +kernel
theorem dL_missingOn_17 : decode cL_missingOn 17 = .ok (.iconst 0, 1) := by decide +kernel
theorem dL_missingOn_18 : decode cL_missingOn 18 = .ok (.ireturn, 1) := by decide +kernel
theorem dL_annexOf_0 : decode cL_annexOf 0 = .ok (.aload_n 2, 1) := by decide +kernel
theorem dL_annexOf_1 : decode cL_annexOf 1 = .ok (.iconst 0, 1) := by decide +kernel
theorem dL_annexOf_2 : decode cL_annexOf 2 = .ok (.aload_n 0, 1) := by decide +kernel
theorem dL_annexOf_3 : decode cL_annexOf 3 = .ok (.iload_n 1, 1) := by decide +kernel
theorem dL_annexOf_4 : decode cL_annexOf 4 = .ok (.invokevirtual 154, 3) := by decide +kernel
theorem dL_annexOf_7 : decode cL_annexOf 7 = .ok (.i2l, 1) := by decide +kernel
theorem dL_annexOf_8 : decode cL_annexOf 8 = .ok (.lastore, 1) := by decide +kernel
theorem dL_annexOf_9 : decode cL_annexOf 9 = .ok (.goto 6, 3) := by decide +kernel
theorem dL_annexOf_12 : decode cL_annexOf 12 = .ok (.astore_n 3, 1) := by decide +kernel
theorem dL_annexOf_13 : decode cL_annexOf 13 = .ok (.iconst 1, 1) := by decide +kernel
theorem dL_annexOf_14 : decode cL_annexOf 14 = .ok (.ireturn, 1) := by decide +kernel
theorem dL_annexOf_15 : decode cL_annexOf 15 = .ok (.iconst 0, 1) := by decide +kernel
theorem dL_annexOf_16 : decode cL_annexOf 16 = .ok (.ireturn, 1) := by decide +kernel
theorem dL_recordedIn_0 : decode cL_recordedIn 0 = .ok (.aload_n 2, 1) := by decide +kernel
theorem dL_recordedIn_1 : decode cL_recordedIn 1 = .ok (.iconst 0, 1) := by decide +kernel
theorem dL_recordedIn_2 : decode cL_recordedIn 2 = .ok (.aload_n 0, 1) := by decide +kernel
theorem dL_recordedIn_3 : decode cL_recordedIn 3 = .ok (.iload_n 1, 1) := by decide +kernel
theorem dL_recordedIn_4 : decode cL_recordedIn 4 = .ok (.invokevirtual 157, 3) := by decide +kernel
theorem dL_recordedIn_7 : decode cL_recordedIn 7 = .ok (.i2l, 1) := by decide +kernel
theorem dL_recordedIn_8 : decode cL_recordedIn 8 = .ok (.lastore, 1) := by decide +kernel
theorem dL_recordedIn_9 : decode cL_recordedIn 9 = .ok (.goto 6, 3) := by decide +kernel
theorem dL_recordedIn_12 : decode cL_recordedIn 12 = .ok (.astore_n 3, 1) := by decide +kernel
theorem dL_recordedIn_13 : decode cL_recordedIn 13 = .ok (.iconst 1, 1) := by decide +kernel
theorem dL_recordedIn_14 : decode cL_recordedIn 14 = .ok (.ireturn, 1) := by decide +kernel
theorem dL_recordedIn_15 : decode cL_recordedIn 15 = .ok (.iconst 0, 1) := by decide +kernel
theorem dL_recordedIn_16 : decode cL_recordedIn 16 = .ok (.ireturn, 1) := by decide +kernel
theorem dL_readyByClauses_0 : decode cL_readyByClauses 0 = .ok (.aload_n 2, 1) := by decide +kernel
theorem dL_readyByClauses_1 : decode cL_readyByClauses 1 = .ok (.iconst 0, 1) := by decide +kernel
theorem dL_readyByClauses_2 : decode cL_readyByClauses 2 = .ok (.aload_n 0, 1) := by decide +kernel
theorem dL_readyByClauses_3 : decode cL_readyByClauses 3 = .ok (.iload_n 1, 1) := by decide +kernel
theorem dL_readyByClauses_4 : decode cL_readyByClauses 4 = .ok (.invokevirtual 160, 3) := by decide +kernel
theorem dL_readyByClauses_7 : decode cL_readyByClauses 7 = .ok (.i2l, 1) := by decide +kernel
theorem dL_readyByClauses_8 : decode cL_readyByClauses 8 = .ok (.lastore, 1) := by decide +kernel
theorem dL_readyByClauses_9 : decode cL_readyByClauses 9 = .ok (.goto 6, 3) := by decide +kernel
theorem dL_readyByClauses_12 : decode cL_readyByClauses 12 = .ok (.astore_n 3, 1) := by decide +kernel
theorem dL_readyByClauses_13 : decode cL_readyByClauses 13 = .ok (.iconst 1, 1) := by decide +kernel
theorem dL_readyByClauses_14 : decode cL_readyByClauses 14 = .ok (.ireturn, 1) := by decide +kernel
theorem dL_readyByClauses_15 : decode cL_readyByClauses 15 = .ok (.iconst 0, 1) := by decide +kernel
theorem dL_readyByClauses_16 : decode cL_readyByClauses 16 = .ok (.ireturn, 1) := by decide +kernel
theorem dL_readyByVoices_0 : decode cL_readyByVoices 0 = .ok (.aload_n 2, 1) := by decide +kernel
theorem dL_readyByVoices_1 : decode cL_readyByVoices 1 = .ok (.iconst 0, 1) := by decide +kernel
theorem dL_readyByVoices_2 : decode cL_readyByVoices 2 = .ok (.aload_n 0, 1) := by decide +kernel
theorem dL_readyByVoices_3 : decode cL_readyByVoices 3 = .ok (.iload_n 1, 1) := by decide +kernel
theorem dL_readyByVoices_4 : decode cL_readyByVoices 4 = .ok (.invokevirtual 163, 3) := by decide +kernel
theorem dL_readyByVoices_7 : decode cL_readyByVoices 7 = .ok (.i2l, 1) := by decide +kernel
theorem dL_readyByVoices_8 : decode cL_readyByVoices 8 = .ok (.lastore, 1) := by decide +kernel
theorem dL_readyByVoices_9 : decode cL_readyByVoices 9 = .ok (.goto 6, 3) := by decide +kernel
theorem dL_readyByVoices_12 : decode cL_readyByVoices 12 = .ok (.astore_n 3, 1) := by decide +kernel
theorem dL_readyByVoices_13 : decode cL_readyByVoices 13 = .ok (.iconst 1, 1) := by decide +kernel
theorem dL_readyByVoices_14 : decode cL_readyByVoices 14 = .ok (.ireturn, 1) := by decide +kernel
theorem dL_readyByVoices_15 : decode cL_readyByVoices 15 = .ok (.iconst 0, 1) := by decide +kernel
theorem dL_readyByVoices_16 : decode cL_readyByVoices 16 = .ok (.ireturn, 1) := by decide +kernel
theorem dL_isRatified_0 : decode cL_isRatified 0 = .ok (.aload_n 2, 1) := by decide +kernel
theorem dL_isRatified_1 : decode cL_isRatified 1 = .ok (.iconst 0, 1) := by decide +kernel
theorem dL_isRatified_2 : decode cL_isRatified 2 = .ok (.aload_n 0, 1) := by decide +kernel
theorem dL_isRatified_3 : decode cL_isRatified 3 = .ok (.iload_n 1, 1) := by decide +kernel
theorem dL_isRatified_4 : decode cL_isRatified 4 = .ok (.invokevirtual 166, 3) := by decide +kernel
theorem dL_isRatified_7 : decode cL_isRatified 7 = .ok (.ifCond .eq 7, 3) := by decide +kernel
theorem dL_isRatified_10 : decode cL_isRatified 10 = .ok (.lconst 1, 1) := by decide +kernel
theorem dL_isRatified_11 : decode cL_isRatified 11 = .ok (.goto 4, 3) := by decide +kernel
theorem dL_isRatified_14 : decode cL_isRatified 14 = .ok (.lconst 0, 1) := by decide +kernel
theorem dL_isRatified_15 : decode cL_isRatified 15 = .ok (.lastore, 1) := by decide +kernel
theorem dL_isRatified_16 : decode cL_isRatified 16 = .ok (.goto 6, 3) := by decide +kernel
theorem dL_isRatified_19 : decode cL_isRatified 19 = .ok (.astore_n 3, 1) := by decide +kernel
theorem dL_isRatified_20 : decode cL_isRatified 20 = .ok (.iconst 1, 1) := by decide +kernel
theorem dL_isRatified_21 : decode cL_isRatified 21 = .ok (.ireturn, 1) := by decide +kernel
theorem dL_isRatified_22 : decode cL_isRatified 22 = .ok (.iconst 0, 1) := by decide +kernel
theorem dL_isRatified_23 : decode cL_isRatified 23 = .ok (.ireturn, 1) := by decide +kernel
theorem dL_misfitsIn_0 : decode cL_misfitsIn 0 = .ok (.aload_n 2, 1) := by decide +kernel
theorem dL_misfitsIn_1 : decode cL_misfitsIn 1 = .ok (.iconst 0, 1) := by decide +kernel
theorem dL_misfitsIn_2 : decode cL_misfitsIn 2 = .ok (.aload_n 0, 1) := by decide +kernel
theorem dL_misfitsIn_3 : decode cL_misfitsIn 3 = .ok (.iload_n 1, 1) := by decide +kernel
theorem dL_misfitsIn_4 : decode cL_misfitsIn 4 = .ok (.invokevirtual 170, 3) := by decide +kernel
theorem dL_misfitsIn_7 : decode cL_misfitsIn 7 = .ok (.i2l, 1) := by decide +kernel
theorem dL_misfitsIn_8 : decode cL_misfitsIn 8 = .ok (.lastore, 1) := by decide +kernel
theorem dL_misfitsIn_9 : decode cL_misfitsIn 9 = .ok (.goto 6, 3) := by decide +kernel
theorem dL_misfitsIn_12 : decode cL_misfitsIn 12 = .ok (.astore_n 3, 1) := by decide +kernel
theorem dL_misfitsIn_13 : decode cL_misfitsIn 13 = .ok (.iconst 1, 1) := by decide +kernel
theorem dL_misfitsIn_14 : decode cL_misfitsIn 14 = .ok (.ireturn, 1) := by decide +kernel
theorem dL_misfitsIn_15 : decode cL_misfitsIn 15 = .ok (.iconst 0, 1) := by decide +kernel
theorem dL_misfitsIn_16 : decode cL_misfitsIn 16 = .ok (.ireturn, 1) := by decide +kernel
theorem dL_leastAnnex_0 : decode cL_leastAnnex 0 = .ok (.aload_n 3, 1) := by decide +kernel
theorem dL_leastAnnex_1 : decode cL_leastAnnex 1 = .ok (.iconst 0, 1) := by decide +kernel
theorem dL_leastAnnex_2 : decode cL_leastAnnex 2 = .ok (.aload_n 0, 1) := by decide +kernel
theorem dL_leastAnnex_3 : decode cL_leastAnnex 3 = .ok (.iload_n 1, 1) := by decide +kernel
theorem dL_leastAnnex_4 : decode cL_leastAnnex 4 = .ok (.iload_n 2, 1) := by decide +kernel
theorem dL_leastAnnex_5 : decode cL_leastAnnex 5 = .ok (.invokevirtual 173, 3) := by decide +kernel
theorem dL_leastAnnex_8 : decode cL_leastAnnex 8 = .ok (.i2l, 1) := by decide +kernel
theorem dL_leastAnnex_9 : decode cL_leastAnnex 9 = .ok (.lastore, 1) := by decide +kernel
theorem dL_leastAnnex_10 : decode cL_leastAnnex 10 = .ok (.goto 11, 3) := by decide +kernel
theorem dL_leastAnnex_13 : decode cL_leastAnnex 13 = .ok (.astore 4, 2) := by decide +kernel
theorem dL_leastAnnex_15 : decode cL_leastAnnex 15 = .ok (.iconst 1, 1) := by decide +kernel
theorem dL_leastAnnex_16 : decode cL_leastAnnex 16 = .ok (.ireturn, 1) := by decide +kernel
theorem dL_leastAnnex_17 : decode cL_leastAnnex 17 = .ok (.astore 4, 2) := by decide +kernel
theorem dL_leastAnnex_19 : decode cL_leastAnnex 19 = .ok (.iconst 2, 1) := by decide +kernel
theorem dL_leastAnnex_20 : decode cL_leastAnnex 20 = .ok (.ireturn, 1) := by decide +kernel
theorem dL_leastAnnex_21 : decode cL_leastAnnex 21 = .ok (.iconst 0, 1) := by decide +kernel
theorem dL_leastAnnex_22 : decode cL_leastAnnex 22 = .ok (.ireturn, 1) := by decide +kernel
theorem dL_longestSigh_0 : decode cL_longestSigh 0 = .ok (.aload_n 2, 1) := by decide +kernel
theorem dL_longestSigh_1 : decode cL_longestSigh 1 = .ok (.iconst 0, 1) := by decide +kernel
theorem dL_longestSigh_2 : decode cL_longestSigh 2 = .ok (.aload_n 0, 1) := by decide +kernel
theorem dL_longestSigh_3 : decode cL_longestSigh 3 = .ok (.iload_n 1, 1) := by decide +kernel
theorem dL_longestSigh_4 : decode cL_longestSigh 4 = .ok (.invokevirtual 176, 3) := by decide +kernel
theorem dL_longestSigh_7 : decode cL_longestSigh 7 = .ok (.i2l, 1) := by decide +kernel
theorem dL_longestSigh_8 : decode cL_longestSigh 8 = .ok (.lastore, 1) := by decide +kernel
theorem dL_longestSigh_9 : decode cL_longestSigh 9 = .ok (.goto 9, 3) := by decide +kernel
theorem dL_longestSigh_12 : decode cL_longestSigh 12 = .ok (.astore_n 3, 1) := by decide +kernel
theorem dL_longestSigh_13 : decode cL_longestSigh 13 = .ok (.iconst 1, 1) := by decide +kernel
theorem dL_longestSigh_14 : decode cL_longestSigh 14 = .ok (.ireturn, 1) := by decide +kernel
theorem dL_longestSigh_15 : decode cL_longestSigh 15 = .ok (.astore_n 3, 1) := by decide +kernel
theorem dL_longestSigh_16 : decode cL_longestSigh 16 = .ok (.iconst 2, 1) := by decide +kernel
theorem dL_longestSigh_17 : decode cL_longestSigh 17 = .ok (.ireturn, 1) := by decide +kernel
theorem dL_longestSigh_18 : decode cL_longestSigh 18 = .ok (.iconst 0, 1) := by decide +kernel
theorem dL_longestSigh_19 : decode cL_longestSigh 19 = .ok (.ireturn, 1) := by decide +kernel
theorem dL_nextClause_0 : decode cL_nextClause 0 = .ok (.aload_n 2, 1) := by decide +kernel
theorem dL_nextClause_1 : decode cL_nextClause 1 = .ok (.iconst 0, 1) := by decide +kernel
theorem dL_nextClause_2 : decode cL_nextClause 2 = .ok (.aload_n 0, 1) := by decide +kernel
theorem dL_nextClause_3 : decode cL_nextClause 3 = .ok (.iload_n 1, 1) := by decide +kernel
theorem dL_nextClause_4 : decode cL_nextClause 4 = .ok (.invokevirtual 179, 3) := by decide +kernel
theorem dL_nextClause_7 : decode cL_nextClause 7 = .ok (.i2l, 1) := by decide +kernel
theorem dL_nextClause_8 : decode cL_nextClause 8 = .ok (.lastore, 1) := by decide +kernel
theorem dL_nextClause_9 : decode cL_nextClause 9 = .ok (.goto 9, 3) := by decide +kernel
theorem dL_nextClause_12 : decode cL_nextClause 12 = .ok (.astore_n 3, 1) := by decide +kernel
theorem dL_nextClause_13 : decode cL_nextClause 13 = .ok (.iconst 1, 1) := by decide +kernel
theorem dL_nextClause_14 : decode cL_nextClause 14 = .ok (.ireturn, 1) := by decide +kernel
theorem dL_nextClause_15 : decode cL_nextClause 15 = .ok (.astore_n 3, 1) := by decide +kernel
theorem dL_nextClause_16 : decode cL_nextClause 16 = .ok (.iconst 2, 1) := by decide +kernel
theorem dL_nextClause_17 : decode cL_nextClause 17 = .ok (.ireturn, 1) := by decide +kernel
theorem dL_nextClause_18 : decode cL_nextClause 18 = .ok (.iconst 0, 1) := by decide +kernel
theorem dL_nextClause_19 : decode cL_nextClause 19 = .ok (.ireturn, 1) := by decide +kernel
theorem dL_meanFit_0 : decode cL_meanFit 0 = .ok (.aload_n 2, 1) := by decide +kernel
theorem dL_meanFit_1 : decode cL_meanFit 1 = .ok (.iconst 0, 1) := by decide +kernel
theorem dL_meanFit_2 : decode cL_meanFit 2 = .ok (.aload_n 0, 1) := by decide +kernel
theorem dL_meanFit_3 : decode cL_meanFit 3 = .ok (.iload_n 1, 1) := by decide +kernel
theorem dL_meanFit_4 : decode cL_meanFit 4 = .ok (.invokevirtual 182, 3) := by decide +kernel
theorem dL_meanFit_7 : decode cL_meanFit 7 = .ok (.dastore, 1) := by decide +kernel
theorem dL_meanFit_8 : decode cL_meanFit 8 = .ok (.goto 6, 3) := by decide +kernel
theorem dL_meanFit_11 : decode cL_meanFit 11 = .ok (.astore_n 3, 1) := by decide +kernel
theorem dL_meanFit_12 : decode cL_meanFit 12 = .ok (.iconst 1, 1) := by decide +kernel
theorem dL_meanFit_13 : decode cL_meanFit 13 = .ok (.ireturn, 1) := by decide +kernel
theorem dL_meanFit_14 : decode cL_meanFit 14 = .ok (.iconst 0, 1) := by decide +kernel
theorem dL_meanFit_15 : decode cL_meanFit 15 = .ok (.ireturn, 1) := by decide +kernel
