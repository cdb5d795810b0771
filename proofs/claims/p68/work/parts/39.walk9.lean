/-! the walks of methods, as predicates -/
section XWK9
set_option maxRecDepth 20000 in
theorem aw_X4_chainClause_84 {G : GG} (hG : G.1.stackTraces = false)  {l0 : Nat} {l3 : Int32} {l4 : Int64} {l6 : Int32} {X : XH} {K : Int64 → XH → Prop}  (h : w_X4_chainClause_84  l0 l3 l4 l6 X K) : AW G M_X4_chainClause 84 [(0, .ref l0), (3, .int l3), (4, .long l4), (6, .int l6)] [] X 0 0 (KrL K) :=
  h (fun l0 l3 l4 l6 X => AW G M_X4_chainClause 84 [(0, .ref l0), (3, .int l3), (4, .long l4), (6, .int l6)] [] X 0 0 (KrL K)) (fun l0 l3 l4 l6 X h => by
    refine aw_iload 86 dX4_chainClause_84 3 rfl rfl ?_
    refine aw_iconst 87 (v := 3) dX4_chainClause_86 kI_3 rfl ?_
    refine aw_icmp_ge 107 90 dX4_chainClause_87 rfl rfl (fun c1 => ?_) (fun c1 => ?_)
    · replace h := h.1 c1
      refine aw_lload 109 dX4_chainClause_107 2 rfl rfl ?_
      exact aw_lreturn dX4_chainClause_109 rfl (leb rfl) (leb rfl) ⟨_, rfl, h⟩
    · replace h := h.2 c1
      refine aw_aload_n 91 dX4_chainClause_90 rfl 0 rfl rfl ?_
      refine aw_lload 93 dX4_chainClause_91 2 rfl rfl ?_
      refine aw_iload_n 94 dX4_chainClause_93 rfl 1 rfl rfl ?_
      refine aw_iload 96 dX4_chainClause_94 3 rfl rfl ?_
      obtain ⟨g4, h⟩ := h
      refine aw_callV (M' := M_X4_chainTranslation) 99 394 4 l0 [.long _, .int _, .int _] [] dX4_chainClause_96 lk_RX4_394 mv_X4_chainTranslation mp_X4_chainTranslation rfl ⟨leb rfl, leb rfl⟩ rfl (ltb rfl) g4 rfl (leb rfl) (leb rfl) (leb rfl) rfl (am_X4_chainTranslation hG h) (kkL fun v3 X2 h => ?_) (kxN KrL.no)
      refine aw_widen (cc' := 0) (ss' := 0) (leb rfl) (leb rfl) ?_
      refine aw_lstore 101 (lv' := [(4, _), (0, _), (3, _), (6, _)]) dX4_chainClause_99 (ltb rfl) rfl rfl ?_
      refine aw_iinc 104 (v := 1) (lv' := [(6, _), (4, _), (0, _), (3, _)]) dX4_chainClause_101 3 rfl kI_1 (ltb rfl) rfl rfl ?_
      refine aw_goto 84 dX4_chainClause_104 rfl ?_
      exact aw_pick [2, 3, 1, 0] rfl h)
set_option maxRecDepth 20000 in
theorem am_X4_chainClause {G : GG} (hG : G.1.stackTraces = false) {l0 : Nat} {l1 : Int64} {l3 : Int32} {X : XH} {K : Int64 → XH → Prop} (h : w_X4_chainClause l0 l1 l3 X K) : AM G M_X4_chainClause X [.ref l0, .long l1, .int l3] (KrL K) := AM_of (by decide +kernel) rfl (leb rfl) hG (by
  show AW G M_X4_chainClause 0 [(0, .ref l0), (1, .long l1), (3, .int l3)] [] X 0 0 _
  unfold w_X4_chainClause at h
  refine aw_lload_n 1 dX4_chainClause_0 rfl 1 rfl rfl ?_
  refine aw_aload_n 2 dX4_chainClause_1 rfl 0 rfl rfl ?_
  obtain ⟨g1, h⟩ := h
  obtain ⟨g2, h⟩ := h
  refine aw_getR 5 dX4_chainClause_2 fl_RX4_10 rfl g1 g2 rfl ?_
  refine aw_iload_n 6 dX4_chainClause_5 rfl 2 rfl rfl ?_
  obtain ⟨g5, h⟩ := h
  refine aw_callV (M' := M_X3_reelAt) 9 104 3 (hR X l0 0) [.int _] [.long _] dX4_chainClause_6 lk_RX4_104 mv_X3_reelAt mp_X3_reelAt rfl ⟨leb rfl, leb rfl⟩ rfl (ltb rfl) g5 rfl (leb rfl) (leb rfl) (leb rfl) rfl (am_X3_reelAt hG h) (kkI fun v4 X3 h => ?_) (kxN KrI.no)
  refine aw_widen (cc' := 0) (ss' := 0) (leb rfl) (leb rfl) ?_
  refine aw_i2l 10 dX4_chainClause_9 rfl ?_
  refine aw_callS (M' := M_X4_chain) 13 367 [.long _, .long _] [] dX4_chainClause_10 lk_RX4_367 ms_X4_chain mp_X4_chain rfl ⟨leb rfl, leb rfl⟩ rfl (leb rfl) (leb rfl) (leb rfl) rfl (am_X4_chain hG h) (kkL fun v7 X6 h => ?_) (kxN KrL.no)
  refine aw_widen (cc' := 0) (ss' := 0) (leb rfl) (leb rfl) ?_
  refine aw_lstore 15 (lv' := [(4, _), (0, _), (1, _), (3, _)]) dX4_chainClause_13 (ltb rfl) rfl rfl ?_
  refine aw_lload 17 dX4_chainClause_15 0 rfl rfl ?_
  refine aw_aload_n 18 dX4_chainClause_17 rfl 1 rfl rfl ?_
  obtain ⟨g8, h⟩ := h
  obtain ⟨g9, h⟩ := h
  refine aw_getR 21 dX4_chainClause_18 fl_RX4_10 rfl g8 g9 rfl ?_
  refine aw_iload_n 22 dX4_chainClause_21 rfl 3 rfl rfl ?_
  obtain ⟨g12, h⟩ := h
  refine aw_callV (M' := M_X3_speakerAt) 25 172 3 (hR X6 l0 0) [.int _] [.long _] dX4_chainClause_22 lk_RX4_172 mv_X3_speakerAt mp_X3_speakerAt rfl ⟨leb rfl, leb rfl⟩ rfl (ltb rfl) g12 rfl (leb rfl) (leb rfl) (leb rfl) rfl (am_X3_speakerAt hG h) (kkI fun v11 X10 h => ?_) (kxN KrI.no)
  refine aw_widen (cc' := 0) (ss' := 0) (leb rfl) (leb rfl) ?_
  refine aw_i2l 26 dX4_chainClause_25 rfl ?_
  refine aw_callS (M' := M_X4_chain) 29 367 [.long _, .long _] [] dX4_chainClause_26 lk_RX4_367 ms_X4_chain mp_X4_chain rfl ⟨leb rfl, leb rfl⟩ rfl (leb rfl) (leb rfl) (leb rfl) rfl (am_X4_chain hG h) (kkL fun v14 X13 h => ?_) (kxN KrL.no)
  refine aw_widen (cc' := 0) (ss' := 0) (leb rfl) (leb rfl) ?_
  refine aw_lstore 31 (lv' := [(4, _), (0, _), (1, _), (3, _)]) dX4_chainClause_29 (ltb rfl) rfl rfl ?_
  refine aw_lload 33 dX4_chainClause_31 0 rfl rfl ?_
  refine aw_aload_n 34 dX4_chainClause_33 rfl 1 rfl rfl ?_
  obtain ⟨g15, h⟩ := h
  obtain ⟨g16, h⟩ := h
  refine aw_getR 37 dX4_chainClause_34 fl_RX4_10 rfl g15 g16 rfl ?_
  refine aw_iload_n 38 dX4_chainClause_37 rfl 3 rfl rfl ?_
  obtain ⟨g19, h⟩ := h
  refine aw_callV (M' := M_X3_lipsAt) 41 88 3 (hR X13 l0 0) [.int _] [.long _] dX4_chainClause_38 lk_RX4_88 mv_X3_lipsAt mp_X3_lipsAt rfl ⟨leb rfl, leb rfl⟩ rfl (ltb rfl) g19 rfl (leb rfl) (leb rfl) (leb rfl) rfl (am_X3_lipsAt hG h) (kkI fun v18 X17 h => ?_) (kxN KrI.no)
  refine aw_widen (cc' := 0) (ss' := 0) (leb rfl) (leb rfl) ?_
  refine aw_i2l 42 dX4_chainClause_41 rfl ?_
  refine aw_callS (M' := M_X4_chain) 45 367 [.long _, .long _] [] dX4_chainClause_42 lk_RX4_367 ms_X4_chain mp_X4_chain rfl ⟨leb rfl, leb rfl⟩ rfl (leb rfl) (leb rfl) (leb rfl) rfl (am_X4_chain hG h) (kkL fun v21 X20 h => ?_) (kxN KrL.no)
  refine aw_widen (cc' := 0) (ss' := 0) (leb rfl) (leb rfl) ?_
  refine aw_lstore 47 (lv' := [(4, _), (0, _), (1, _), (3, _)]) dX4_chainClause_45 (ltb rfl) rfl rfl ?_
  refine aw_lload 49 dX4_chainClause_47 0 rfl rfl ?_
  refine aw_aload_n 50 dX4_chainClause_49 rfl 1 rfl rfl ?_
  obtain ⟨g22, h⟩ := h
  obtain ⟨g23, h⟩ := h
  refine aw_getR 53 dX4_chainClause_50 fl_RX4_10 rfl g22 g23 rfl ?_
  refine aw_iload_n 54 dX4_chainClause_53 rfl 3 rfl rfl ?_
  obtain ⟨g26, h⟩ := h
  refine aw_callV (M' := M_X3_sighAt) 57 82 3 (hR X20 l0 0) [.int _] [.long _] dX4_chainClause_54 lk_RX4_82 mv_X3_sighAt mp_X3_sighAt rfl ⟨leb rfl, leb rfl⟩ rfl (ltb rfl) g26 rfl (leb rfl) (leb rfl) (leb rfl) rfl (am_X3_sighAt hG h) (kkI fun v25 X24 h => ?_) (kxN KrI.no)
  refine aw_widen (cc' := 0) (ss' := 0) (leb rfl) (leb rfl) ?_
  refine aw_i2l 58 dX4_chainClause_57 rfl ?_
  refine aw_callS (M' := M_X4_chain) 61 367 [.long _, .long _] [] dX4_chainClause_58 lk_RX4_367 ms_X4_chain mp_X4_chain rfl ⟨leb rfl, leb rfl⟩ rfl (leb rfl) (leb rfl) (leb rfl) rfl (am_X4_chain hG h) (kkL fun v28 X27 h => ?_) (kxN KrL.no)
  refine aw_widen (cc' := 0) (ss' := 0) (leb rfl) (leb rfl) ?_
  refine aw_lstore 63 (lv' := [(4, _), (0, _), (1, _), (3, _)]) dX4_chainClause_61 (ltb rfl) rfl rfl ?_
  refine aw_lload 65 dX4_chainClause_63 0 rfl rfl ?_
  refine aw_aload_n 66 dX4_chainClause_65 rfl 1 rfl rfl ?_
  obtain ⟨g29, h⟩ := h
  obtain ⟨g30, h⟩ := h
  refine aw_getR 69 dX4_chainClause_66 fl_RX4_10 rfl g29 g30 rfl ?_
  refine aw_iload_n 70 dX4_chainClause_69 rfl 3 rfl rfl ?_
  obtain ⟨g33, h⟩ := h
  refine aw_callV (M' := M_X3_longestSighAt) 73 345 3 (hR X27 l0 0) [.int _] [.long _] dX4_chainClause_70 lk_RX4_345 mv_X3_longestSighAt mp_X3_longestSighAt rfl ⟨leb rfl, leb rfl⟩ rfl (ltb rfl) g33 rfl (leb rfl) (leb rfl) (leb rfl) rfl (am_X3_longestSighAt hG h) (kkI fun v32 X31 h => ?_) (kxN KrI.no)
  refine aw_widen (cc' := 0) (ss' := 0) (leb rfl) (leb rfl) ?_
  refine aw_iconst 74 (v := 1) dX4_chainClause_73 kI_1 rfl ?_
  refine aw_iadd 75 dX4_chainClause_74 rfl ?_
  refine aw_i2l 76 dX4_chainClause_75 rfl ?_
  refine aw_callS (M' := M_X4_chain) 79 367 [.long _, .long _] [] dX4_chainClause_76 lk_RX4_367 ms_X4_chain mp_X4_chain rfl ⟨leb rfl, leb rfl⟩ rfl (leb rfl) (leb rfl) (leb rfl) rfl (am_X4_chain hG h) (kkL fun v35 X34 h => ?_) (kxN KrL.no)
  refine aw_widen (cc' := 0) (ss' := 0) (leb rfl) (leb rfl) ?_
  refine aw_lstore 81 (lv' := [(4, _), (0, _), (1, _), (3, _)]) dX4_chainClause_79 (ltb rfl) rfl rfl ?_
  refine aw_iconst 82 (v := 0) dX4_chainClause_81 kI_0 rfl ?_
  refine aw_istore 84 (lv' := [(6, _), (4, _), (0, _), (1, _), (3, _)]) dX4_chainClause_82 (ltb rfl) rfl rfl ?_
  exact aw_pick [2, 4, 1, 0] rfl (aw_X4_chainClause_84 hG  h))
set_option maxRecDepth 20000 in
theorem am_X4_chainVoice {G : GG} (hG : G.1.stackTraces = false) {l0 : Nat} {l1 : Int64} {l3 : Int32} {l4 : Int32} {X : XH} {K : Int64 → XH → Prop} (h : w_X4_chainVoice l0 l1 l3 l4 X K) : AM G M_X4_chainVoice X [.ref l0, .long l1, .int l3, .int l4] (KrL K) := AM_of (by decide +kernel) rfl (leb rfl) hG (by
  show AW G M_X4_chainVoice 0 [(0, .ref l0), (1, .long l1), (3, .int l3), (4, .int l4)] [] X 0 0 _
  unfold w_X4_chainVoice at h
  refine aw_lload_n 1 dX4_chainVoice_0 rfl 1 rfl rfl ?_
  refine aw_aload_n 2 dX4_chainVoice_1 rfl 0 rfl rfl ?_
  obtain ⟨g1, h⟩ := h
  obtain ⟨g2, h⟩ := h
  refine aw_getR 5 dX4_chainVoice_2 fl_RX4_10 rfl g1 g2 rfl ?_
  refine aw_iload_n 6 dX4_chainVoice_5 rfl 2 rfl rfl ?_
  refine aw_iload 8 dX4_chainVoice_6 3 rfl rfl ?_
  obtain ⟨g5, h⟩ := h
  refine aw_callV (M' := M_X3_staminaAt) 11 158 3 (hR X l0 0) [.int _, .int _] [.long _] dX4_chainVoice_8 lk_RX4_158 mv_X3_staminaAt mp_X3_staminaAt rfl ⟨leb rfl, leb rfl⟩ rfl (ltb rfl) g5 rfl (leb rfl) (leb rfl) (leb rfl) rfl (am_X3_staminaAt hG h) (kkI fun v4 X3 h => ?_) (kxN KrI.no)
  refine aw_widen (cc' := 0) (ss' := 0) (leb rfl) (leb rfl) ?_
  refine aw_i2l 12 dX4_chainVoice_11 rfl ?_
  refine aw_callS (M' := M_X4_chain) 15 367 [.long _, .long _] [] dX4_chainVoice_12 lk_RX4_367 ms_X4_chain mp_X4_chain rfl ⟨leb rfl, leb rfl⟩ rfl (leb rfl) (leb rfl) (leb rfl) rfl (am_X4_chain hG h) (kkL fun v7 X6 h => ?_) (kxN KrL.no)
  refine aw_widen (cc' := 0) (ss' := 0) (leb rfl) (leb rfl) ?_
  refine aw_lstore 17 (lv' := [(5, _), (0, _), (1, _), (3, _), (4, _)]) dX4_chainVoice_15 (ltb rfl) rfl rfl ?_
  refine aw_lload 19 dX4_chainVoice_17 0 rfl rfl ?_
  refine aw_aload_n 20 dX4_chainVoice_19 rfl 1 rfl rfl ?_
  obtain ⟨g8, h⟩ := h
  obtain ⟨g9, h⟩ := h
  refine aw_getR 23 dX4_chainVoice_20 fl_RX4_10 rfl g8 g9 rfl ?_
  refine aw_iload_n 24 dX4_chainVoice_23 rfl 3 rfl rfl ?_
  refine aw_iload 26 dX4_chainVoice_24 4 rfl rfl ?_
  obtain ⟨g12, h⟩ := h
  refine aw_callV (M' := M_X3_strengthAt) 29 175 3 (hR X6 l0 0) [.int _, .int _] [.long _] dX4_chainVoice_26 lk_RX4_175 mv_X3_strengthAt mp_X3_strengthAt rfl ⟨leb rfl, leb rfl⟩ rfl (ltb rfl) g12 rfl (leb rfl) (leb rfl) (leb rfl) rfl (am_X3_strengthAt hG h) (kkI fun v11 X10 h => ?_) (kxN KrI.no)
  refine aw_widen (cc' := 0) (ss' := 0) (leb rfl) (leb rfl) ?_
  refine aw_i2l 30 dX4_chainVoice_29 rfl ?_
  refine aw_callS (M' := M_X4_chain) 33 367 [.long _, .long _] [] dX4_chainVoice_30 lk_RX4_367 ms_X4_chain mp_X4_chain rfl ⟨leb rfl, leb rfl⟩ rfl (leb rfl) (leb rfl) (leb rfl) rfl (am_X4_chain hG h) (kkL fun v14 X13 h => ?_) (kxN KrL.no)
  refine aw_widen (cc' := 0) (ss' := 0) (leb rfl) (leb rfl) ?_
  refine aw_lstore 35 (lv' := [(5, _), (0, _), (1, _), (3, _), (4, _)]) dX4_chainVoice_33 (ltb rfl) rfl rfl ?_
  refine aw_lload 37 dX4_chainVoice_35 0 rfl rfl ?_
  refine aw_aload_n 38 dX4_chainVoice_37 rfl 1 rfl rfl ?_
  obtain ⟨g15, h⟩ := h
  obtain ⟨g16, h⟩ := h
  refine aw_getR 41 dX4_chainVoice_38 fl_RX4_10 rfl g15 g16 rfl ?_
  refine aw_iload_n 42 dX4_chainVoice_41 rfl 3 rfl rfl ?_
  refine aw_iload 44 dX4_chainVoice_42 4 rfl rfl ?_
  obtain ⟨g19, h⟩ := h
  refine aw_callV (M' := M_X3_takenFramesOf) 47 295 3 (hR X13 l0 0) [.int _, .int _] [.long _] dX4_chainVoice_44 lk_RX4_295 mv_X3_takenFramesOf mp_X3_takenFramesOf rfl ⟨leb rfl, leb rfl⟩ rfl (ltb rfl) g19 rfl (leb rfl) (leb rfl) (leb rfl) rfl (am_X3_takenFramesOf hG h) (kkI fun v18 X17 h => ?_) (kxN KrI.no)
  refine aw_widen (cc' := 0) (ss' := 0) (leb rfl) (leb rfl) ?_
  refine aw_i2l 48 dX4_chainVoice_47 rfl ?_
  refine aw_callS (M' := M_X4_chain) 51 367 [.long _, .long _] [] dX4_chainVoice_48 lk_RX4_367 ms_X4_chain mp_X4_chain rfl ⟨leb rfl, leb rfl⟩ rfl (leb rfl) (leb rfl) (leb rfl) rfl (am_X4_chain hG h) (kkL fun v21 X20 h => ?_) (kxN KrL.no)
  refine aw_widen (cc' := 0) (ss' := 0) (leb rfl) (leb rfl) ?_
  refine aw_lstore 53 (lv' := [(5, _), (0, _), (1, _), (3, _), (4, _)]) dX4_chainVoice_51 (ltb rfl) rfl rfl ?_
  refine aw_aload_n 54 dX4_chainVoice_53 rfl 1 rfl rfl ?_
  obtain ⟨g22, h⟩ := h
  obtain ⟨g23, h⟩ := h
  refine aw_getR 57 dX4_chainVoice_54 fl_RX4_10 rfl g22 g23 rfl ?_
  refine aw_aload_n 58 dX4_chainVoice_57 rfl 1 rfl rfl ?_
  obtain ⟨g24, h⟩ := h
  refine aw_getR 61 dX4_chainVoice_58 fl_RX4_41 rfl g22 g24 rfl ?_
  refine aw_iload_n 62 dX4_chainVoice_61 rfl 3 rfl rfl ?_
  refine aw_iload 64 dX4_chainVoice_62 4 rfl rfl ?_
  obtain ⟨g26, h⟩ := h
  refine aw_callV (M' := M_X3_fillPlan) 67 401 3 (hR X20 l0 0) [.ref _, .int _, .int _] [] dX4_chainVoice_64 lk_RX4_401 mv_X3_fillPlan mp_X3_fillPlan rfl ⟨leb rfl, leb rfl⟩ rfl (ltb rfl) g26 rfl (leb rfl) (leb rfl) (leb rfl) rfl (am_X3_fillPlan hG h) (kkV fun X25 h => ?_) (kxN KrV.no)
  refine aw_widen (cc' := 0) (ss' := 0) (leb rfl) (leb rfl) ?_
  refine aw_aload_n 68 dX4_chainVoice_67 rfl 1 rfl rfl ?_
  obtain ⟨g27, h⟩ := h
  obtain ⟨g28, h⟩ := h
  refine aw_getR 71 dX4_chainVoice_68 fl_RX4_41 rfl g27 g28 rfl ?_
  obtain ⟨g31, h⟩ := h
  refine aw_callV (M' := M_X2_hasTooLong) 74 405 2 (hR X25 l0 5) [] [] dX4_chainVoice_71 lk_RX4_405 mv_X2_hasTooLong mp_X2_hasTooLong rfl ⟨leb rfl, leb rfl⟩ rfl (ltb rfl) g31 rfl (leb rfl) (leb rfl) (leb rfl) rfl (am_X2_hasTooLong hG h) (kkI fun v30 X29 h => ?_) (kxN KrI.no)
  refine aw_widen (cc' := 0) (ss' := 0) (leb rfl) (leb rfl) ?_
  refine aw_if_eq 88 77 dX4_chainVoice_74 rfl rfl (fun c32 => ?_) (fun c32 => ?_)
  · replace h := h.1 c32
    refine aw_lload 90 dX4_chainVoice_88 0 rfl rfl ?_
    refine aw_aload_n 91 dX4_chainVoice_90 rfl 1 rfl rfl ?_
    obtain ⟨g33, h⟩ := h
    obtain ⟨g34, h⟩ := h
    refine aw_getR 94 dX4_chainVoice_91 fl_RX4_41 rfl g33 g34 rfl ?_
    obtain ⟨g37, h⟩ := h
    refine aw_callV (M' := M_X2_goThrough) 97 301 2 (hR X29 l0 5) [] [.long _] dX4_chainVoice_94 lk_RX4_301 mv_X2_goThrough mp_X2_goThrough rfl ⟨leb rfl, leb rfl⟩ rfl (ltb rfl) g37 rfl (leb rfl) (leb rfl) (leb rfl) rfl (am_X2_goThrough hG h) (kkI fun v36 X35 h => ?_) (kxN KrI.no)
    refine aw_widen (cc' := 0) (ss' := 0) (leb rfl) (leb rfl) ?_
    refine aw_iconst 98 (v := 1) dX4_chainVoice_97 kI_1 rfl ?_
    refine aw_iadd 99 dX4_chainVoice_98 rfl ?_
    refine aw_i2l 100 dX4_chainVoice_99 rfl ?_
    refine aw_callS (M' := M_X4_chain) 103 367 [.long _, .long _] [] dX4_chainVoice_100 lk_RX4_367 ms_X4_chain mp_X4_chain rfl ⟨leb rfl, leb rfl⟩ rfl (leb rfl) (leb rfl) (leb rfl) rfl (am_X4_chain hG h) (kkL fun v39 X38 h => ?_) (kxN KrL.no)
    refine aw_widen (cc' := 0) (ss' := 0) (leb rfl) (leb rfl) ?_
    refine aw_aload_n 104 dX4_chainVoice_103 rfl 1 rfl rfl ?_
    obtain ⟨g40, h⟩ := h
    obtain ⟨g41, h⟩ := h
    refine aw_getR 107 dX4_chainVoice_104 fl_RX4_41 rfl g40 g41 rfl ?_
    obtain ⟨g44, h⟩ := h
    refine aw_callV (M' := M_X2_fillTable) 110 304 2 (hR X38 l0 5) [] [.long _] dX4_chainVoice_107 lk_RX4_304 mv_X2_fillTable mp_X2_fillTable rfl ⟨leb rfl, leb rfl⟩ rfl (ltb rfl) g44 rfl (leb rfl) (leb rfl) (leb rfl) rfl (am_X2_fillTable hG h) (kkI fun v43 X42 h => ?_) (kxN KrI.no)
    refine aw_widen (cc' := 0) (ss' := 0) (leb rfl) (leb rfl) ?_
    refine aw_iconst 111 (v := 1) dX4_chainVoice_110 kI_1 rfl ?_
    refine aw_iadd 112 dX4_chainVoice_111 rfl ?_
    refine aw_i2l 113 dX4_chainVoice_112 rfl ?_
    refine aw_callS (M' := M_X4_chain) 116 367 [.long _, .long _] [] dX4_chainVoice_113 lk_RX4_367 ms_X4_chain mp_X4_chain rfl ⟨leb rfl, leb rfl⟩ rfl (leb rfl) (leb rfl) (leb rfl) rfl (am_X4_chain hG h) (kkL fun v46 X45 h => ?_) (kxN KrL.no)
    refine aw_widen (cc' := 0) (ss' := 0) (leb rfl) (leb rfl) ?_
    exact aw_lreturn dX4_chainVoice_116 rfl (leb rfl) (leb rfl) ⟨_, rfl, h⟩
  · replace h := h.2 c32
    refine aw_lload 79 dX4_chainVoice_77 0 rfl rfl ?_
    refine aw_lconst 80 (v := 0) dX4_chainVoice_79 kL_0 rfl ?_
    refine aw_callS (M' := M_X4_chain) 83 367 [.long _, .long _] [] dX4_chainVoice_80 lk_RX4_367 ms_X4_chain mp_X4_chain rfl ⟨leb rfl, leb rfl⟩ rfl (leb rfl) (leb rfl) (leb rfl) rfl (am_X4_chain hG h) (kkL fun v48 X47 h => ?_) (kxN KrL.no)
    refine aw_widen (cc' := 0) (ss' := 0) (leb rfl) (leb rfl) ?_
    refine aw_lconst 84 (v := 0) dX4_chainVoice_83 kL_0 rfl ?_
    refine aw_callS (M' := M_X4_chain) 87 367 [.long _, .long _] [] dX4_chainVoice_84 lk_RX4_367 ms_X4_chain mp_X4_chain rfl ⟨leb rfl, leb rfl⟩ rfl (leb rfl) (leb rfl) (leb rfl) rfl (am_X4_chain hG h) (kkL fun v50 X49 h => ?_) (kxN KrL.no)
    refine aw_widen (cc' := 0) (ss' := 0) (leb rfl) (leb rfl) ?_
    exact aw_lreturn dX4_chainVoice_87 rfl (leb rfl) (leb rfl) ⟨_, rfl, h⟩)
set_option maxRecDepth 20000 in
theorem aw_X4_chainReel_34 {G : GG} (hG : G.1.stackTraces = false)  {l0 : Nat} {l3 : Int32} {l4 : Int64} {l6 : Int32} {X : XH} {K : Int64 → XH → Prop}  (h : w_X4_chainReel_34  l0 l3 l4 l6 X K) : AW G M_X4_chainReel 34 [(0, .ref l0), (3, .int l3), (4, .long l4), (6, .int l6)] [] X 0 0 (KrL K) :=
  h (fun l0 l3 l4 l6 X => AW G M_X4_chainReel 34 [(0, .ref l0), (3, .int l3), (4, .long l4), (6, .int l6)] [] X 0 0 (KrL K)) (fun l0 l3 l4 l6 X h => by
    refine aw_iload 36 dX4_chainReel_34 3 rfl rfl ?_
    refine aw_iconst 37 (v := 3) dX4_chainReel_36 kI_3 rfl ?_
    refine aw_icmp_ge 116 40 dX4_chainReel_37 rfl rfl (fun c1 => ?_) (fun c1 => ?_)
    · replace h := h.1 c1
      refine aw_lload 118 dX4_chainReel_116 2 rfl rfl ?_
      exact aw_lreturn dX4_chainReel_118 rfl (leb rfl) (leb rfl) ⟨_, rfl, h⟩
    · replace h := h.2 c1
      refine aw_lload 42 dX4_chainReel_40 2 rfl rfl ?_
      refine aw_aload_n 43 dX4_chainReel_42 rfl 0 rfl rfl ?_
      obtain ⟨g2, h⟩ := h
      obtain ⟨g3, h⟩ := h
      refine aw_getR 46 dX4_chainReel_43 fl_RX4_10 rfl g2 g3 rfl ?_
      refine aw_iload_n 47 dX4_chainReel_46 rfl 1 rfl rfl ?_
      refine aw_iload 49 dX4_chainReel_47 3 rfl rfl ?_
      obtain ⟨g6, h⟩ := h
      refine aw_callV (M' := M_X3_isWholeReel) 52 201 3 (hR X l0 0) [.int _, .int _] [.long _] dX4_chainReel_49 lk_RX4_201 mv_X3_isWholeReel mp_X3_isWholeReel rfl ⟨leb rfl, leb rfl⟩ rfl (ltb rfl) g6 rfl (leb rfl) (leb rfl) (leb rfl) rfl (am_X3_isWholeReel hG h) (kkI fun v5 X4 h => ?_) (kxN KrI.no)
      refine aw_widen (cc' := 0) (ss' := 0) (leb rfl) (leb rfl) ?_
      refine aw_callS (M' := M_X4_chainFlag) 55 397 [.long _, .int _] [] dX4_chainReel_52 lk_RX4_397 ms_X4_chainFlag mp_X4_chainFlag rfl ⟨leb rfl, leb rfl⟩ rfl (leb rfl) (leb rfl) (leb rfl) rfl (am_X4_chainFlag hG h) (kkL fun v8 X7 h => ?_) (kxN KrL.no)
      refine aw_widen (cc' := 0) (ss' := 0) (leb rfl) (leb rfl) ?_
      refine aw_lstore 57 (lv' := [(4, _), (0, _), (3, _), (6, _)]) dX4_chainReel_55 (ltb rfl) rfl rfl ?_
      refine aw_lload 59 dX4_chainReel_57 0 rfl rfl ?_
      refine aw_aload_n 60 dX4_chainReel_59 rfl 1 rfl rfl ?_
      obtain ⟨g9, h⟩ := h
      obtain ⟨g10, h⟩ := h
      refine aw_getR 63 dX4_chainReel_60 fl_RX4_10 rfl g9 g10 rfl ?_
      refine aw_iload_n 64 dX4_chainReel_63 rfl 2 rfl rfl ?_
      refine aw_iload 66 dX4_chainReel_64 3 rfl rfl ?_
      obtain ⟨g13, h⟩ := h
      refine aw_callV (M' := M_X3_hasMix) 69 198 3 (hR X7 l0 0) [.int _, .int _] [.long _] dX4_chainReel_66 lk_RX4_198 mv_X3_hasMix mp_X3_hasMix rfl ⟨leb rfl, leb rfl⟩ rfl (ltb rfl) g13 rfl (leb rfl) (leb rfl) (leb rfl) rfl (am_X3_hasMix hG h) (kkI fun v12 X11 h => ?_) (kxN KrI.no)
      refine aw_widen (cc' := 0) (ss' := 0) (leb rfl) (leb rfl) ?_
      refine aw_callS (M' := M_X4_chainFlag) 72 397 [.long _, .int _] [] dX4_chainReel_69 lk_RX4_397 ms_X4_chainFlag mp_X4_chainFlag rfl ⟨leb rfl, leb rfl⟩ rfl (leb rfl) (leb rfl) (leb rfl) rfl (am_X4_chainFlag hG h) (kkL fun v15 X14 h => ?_) (kxN KrL.no)
      refine aw_widen (cc' := 0) (ss' := 0) (leb rfl) (leb rfl) ?_
      refine aw_lstore 74 (lv' := [(4, _), (0, _), (3, _), (6, _)]) dX4_chainReel_72 (ltb rfl) rfl rfl ?_
      refine aw_lload 76 dX4_chainReel_74 0 rfl rfl ?_
      refine aw_aload_n 77 dX4_chainReel_76 rfl 1 rfl rfl ?_
      obtain ⟨g16, h⟩ := h
      obtain ⟨g17, h⟩ := h
      refine aw_getR 80 dX4_chainReel_77 fl_RX4_10 rfl g16 g17 rfl ?_
      refine aw_iload_n 81 dX4_chainReel_80 rfl 2 rfl rfl ?_
      refine aw_iload 83 dX4_chainReel_81 3 rfl rfl ?_
      obtain ⟨g20, h⟩ := h
      refine aw_callV (M' := M_X3_signaturesAt) 86 313 3 (hR X14 l0 0) [.int _, .int _] [.long _] dX4_chainReel_83 lk_RX4_313 mv_X3_signaturesAt mp_X3_signaturesAt rfl ⟨leb rfl, leb rfl⟩ rfl (ltb rfl) g20 rfl (leb rfl) (leb rfl) (leb rfl) rfl (am_X3_signaturesAt hG h) (kkI fun v19 X18 h => ?_) (kxN KrI.no)
      refine aw_widen (cc' := 0) (ss' := 0) (leb rfl) (leb rfl) ?_
      refine aw_i2l 87 dX4_chainReel_86 rfl ?_
      refine aw_callS (M' := M_X4_chain) 90 367 [.long _, .long _] [] dX4_chainReel_87 lk_RX4_367 ms_X4_chain mp_X4_chain rfl ⟨leb rfl, leb rfl⟩ rfl (leb rfl) (leb rfl) (leb rfl) rfl (am_X4_chain hG h) (kkL fun v22 X21 h => ?_) (kxN KrL.no)
      refine aw_widen (cc' := 0) (ss' := 0) (leb rfl) (leb rfl) ?_
      refine aw_lstore 92 (lv' := [(4, _), (0, _), (3, _), (6, _)]) dX4_chainReel_90 (ltb rfl) rfl rfl ?_
      refine aw_lload 94 dX4_chainReel_92 0 rfl rfl ?_
      refine aw_aload_n 95 dX4_chainReel_94 rfl 1 rfl rfl ?_
      obtain ⟨g23, h⟩ := h
      obtain ⟨g24, h⟩ := h
      refine aw_getR 98 dX4_chainReel_95 fl_RX4_10 rfl g23 g24 rfl ?_
      refine aw_iload_n 99 dX4_chainReel_98 rfl 2 rfl rfl ?_
      refine aw_iload 101 dX4_chainReel_99 3 rfl rfl ?_
      obtain ⟨g27, h⟩ := h
      refine aw_callV (M' := M_X3_signaturesMissing) 104 223 3 (hR X21 l0 0) [.int _, .int _] [.long _] dX4_chainReel_101 lk_RX4_223 mv_X3_signaturesMissing mp_X3_signaturesMissing rfl ⟨leb rfl, leb rfl⟩ rfl (ltb rfl) g27 rfl (leb rfl) (leb rfl) (leb rfl) rfl (am_X3_signaturesMissing hG h) (kkI fun v26 X25 h => ?_) (kxN KrI.no)
      refine aw_widen (cc' := 0) (ss' := 0) (leb rfl) (leb rfl) ?_
      refine aw_i2l 105 dX4_chainReel_104 rfl ?_
      refine aw_callS (M' := M_X4_chain) 108 367 [.long _, .long _] [] dX4_chainReel_105 lk_RX4_367 ms_X4_chain mp_X4_chain rfl ⟨leb rfl, leb rfl⟩ rfl (leb rfl) (leb rfl) (leb rfl) rfl (am_X4_chain hG h) (kkL fun v29 X28 h => ?_) (kxN KrL.no)
      refine aw_widen (cc' := 0) (ss' := 0) (leb rfl) (leb rfl) ?_
      refine aw_lstore 110 (lv' := [(4, _), (0, _), (3, _), (6, _)]) dX4_chainReel_108 (ltb rfl) rfl rfl ?_
      refine aw_iinc 113 (v := 1) (lv' := [(6, _), (4, _), (0, _), (3, _)]) dX4_chainReel_110 3 rfl kI_1 (ltb rfl) rfl rfl ?_
      refine aw_goto 34 dX4_chainReel_113 rfl ?_
      exact aw_pick [2, 3, 1, 0] rfl h)
set_option maxRecDepth 20000 in
theorem am_X4_chainReel {G : GG} (hG : G.1.stackTraces = false) {l0 : Nat} {l1 : Int64} {l3 : Int32} {X : XH} {K : Int64 → XH → Prop} (h : w_X4_chainReel l0 l1 l3 X K) : AM G M_X4_chainReel X [.ref l0, .long l1, .int l3] (KrL K) := AM_of (by decide +kernel) rfl (leb rfl) hG (by
  show AW G M_X4_chainReel 0 [(0, .ref l0), (1, .long l1), (3, .int l3)] [] X 0 0 _
  unfold w_X4_chainReel at h
  refine aw_lload_n 1 dX4_chainReel_0 rfl 1 rfl rfl ?_
  refine aw_aload_n 2 dX4_chainReel_1 rfl 0 rfl rfl ?_
  obtain ⟨g1, h⟩ := h
  obtain ⟨g2, h⟩ := h
  refine aw_getR 5 dX4_chainReel_2 fl_RX4_10 rfl g1 g2 rfl ?_
  refine aw_iload_n 6 dX4_chainReel_5 rfl 2 rfl rfl ?_
  obtain ⟨g5, h⟩ := h
  refine aw_callV (M' := M_X3_clausesOn) 9 307 3 (hR X l0 0) [.int _] [.long _] dX4_chainReel_6 lk_RX4_307 mv_X3_clausesOn mp_X3_clausesOn rfl ⟨leb rfl, leb rfl⟩ rfl (ltb rfl) g5 rfl (leb rfl) (leb rfl) (leb rfl) rfl (am_X3_clausesOn hG h) (kkI fun v4 X3 h => ?_) (kxN KrI.no)
  refine aw_widen (cc' := 0) (ss' := 0) (leb rfl) (leb rfl) ?_
  refine aw_i2l 10 dX4_chainReel_9 rfl ?_
  refine aw_callS (M' := M_X4_chain) 13 367 [.long _, .long _] [] dX4_chainReel_10 lk_RX4_367 ms_X4_chain mp_X4_chain rfl ⟨leb rfl, leb rfl⟩ rfl (leb rfl) (leb rfl) (leb rfl) rfl (am_X4_chain hG h) (kkL fun v7 X6 h => ?_) (kxN KrL.no)
  refine aw_widen (cc' := 0) (ss' := 0) (leb rfl) (leb rfl) ?_
  refine aw_lstore 15 (lv' := [(4, _), (0, _), (1, _), (3, _)]) dX4_chainReel_13 (ltb rfl) rfl rfl ?_
  refine aw_lload 17 dX4_chainReel_15 0 rfl rfl ?_
  refine aw_aload_n 18 dX4_chainReel_17 rfl 1 rfl rfl ?_
  obtain ⟨g8, h⟩ := h
  obtain ⟨g9, h⟩ := h
  refine aw_getR 21 dX4_chainReel_18 fl_RX4_10 rfl g8 g9 rfl ?_
  refine aw_iload_n 22 dX4_chainReel_21 rfl 3 rfl rfl ?_
  obtain ⟨g12, h⟩ := h
  refine aw_callV (M' := M_X3_lipsOn) 25 310 3 (hR X6 l0 0) [.int _] [.long _] dX4_chainReel_22 lk_RX4_310 mv_X3_lipsOn mp_X3_lipsOn rfl ⟨leb rfl, leb rfl⟩ rfl (ltb rfl) g12 rfl (leb rfl) (leb rfl) (leb rfl) rfl (am_X3_lipsOn hG h) (kkI fun v11 X10 h => ?_) (kxN KrI.no)
  refine aw_widen (cc' := 0) (ss' := 0) (leb rfl) (leb rfl) ?_
  refine aw_i2l 26 dX4_chainReel_25 rfl ?_
  refine aw_callS (M' := M_X4_chain) 29 367 [.long _, .long _] [] dX4_chainReel_26 lk_RX4_367 ms_X4_chain mp_X4_chain rfl ⟨leb rfl, leb rfl⟩ rfl (leb rfl) (leb rfl) (leb rfl) rfl (am_X4_chain hG h) (kkL fun v14 X13 h => ?_) (kxN KrL.no)
  refine aw_widen (cc' := 0) (ss' := 0) (leb rfl) (leb rfl) ?_
  refine aw_lstore 31 (lv' := [(4, _), (0, _), (1, _), (3, _)]) dX4_chainReel_29 (ltb rfl) rfl rfl ?_
  refine aw_iconst 32 (v := 0) dX4_chainReel_31 kI_0 rfl ?_
  refine aw_istore 34 (lv' := [(6, _), (4, _), (0, _), (1, _), (3, _)]) dX4_chainReel_32 (ltb rfl) rfl rfl ?_
  exact aw_pick [2, 4, 1, 0] rfl (aw_X4_chainReel_34 hG  h))
set_option maxRecDepth 20000 in
theorem aw_X4_bitsOf_45 {G : GG} (hG : G.1.stackTraces = false)  {l2 : UInt64} {l4 : Int64} {X : XH} {K : Int64 → XH → Prop}  (h : w_X4_bitsOf_45  l2 l4 X K) : AW G M_X4_bitsOf 45 [(2, .double l2), (4, .long l4)] [] X 0 0 (KrL K) := by
  unfold w_X4_bitsOf_45 at h
  refine aw_dload_n 46 dX4_bitsOf_45 rfl 0 rfl rfl ?_
  refine aw_dconst1 47 dX4_bitsOf_46 rfl ?_
  obtain ⟨g1, h⟩ := h
  refine aw_dsub 48 dX4_bitsOf_47 g1 rfl ?_
  refine aw_ldc2d 51 (v := 4841369599423283200) dX4_bitsOf_48 (tk3 (i := 5) (by decide +kernel) rfl) rfl ?_
  obtain ⟨g2, h⟩ := h
  refine aw_dmul 52 dX4_bitsOf_51 g2 rfl ?_
  refine aw_d2l 53 dX4_bitsOf_52 rfl ?_
  refine aw_lstore 55 (lv' := [(6, _), (2, _), (4, _)]) dX4_bitsOf_53 (ltb rfl) rfl rfl ?_
  refine aw_lload 57 dX4_bitsOf_55 2 rfl rfl ?_
  refine aw_ldc2 60 (v := 1023) dX4_bitsOf_57 (tk3 (i := 4) (by decide +kernel) rfl) rfl ?_
  refine aw_ladd 61 dX4_bitsOf_60 rfl ?_
  refine aw_bipush 63 (v := 52) dX4_bitsOf_61 kB_52 rfl ?_
  refine aw_lshl 64 dX4_bitsOf_63 rfl ?_
  refine aw_lload 66 dX4_bitsOf_64 0 rfl rfl ?_
  refine aw_lor 67 dX4_bitsOf_66 rfl ?_
  exact aw_lreturn dX4_bitsOf_67 rfl (leb rfl) (leb rfl) ⟨_, rfl, h⟩
set_option maxRecDepth 20000 in
theorem aw_X4_bitsOf_13 {G : GG} (hG : G.1.stackTraces = false)  {l2 : UInt64} {l4 : Int64} {X : XH} {K : Int64 → XH → Prop}  (h : w_X4_bitsOf_13  l2 l4 X K) : AW G M_X4_bitsOf 13 [(2, .double l2), (4, .long l4)] [] X 0 0 (KrL K) :=
  h (fun l2 l4 X => AW G M_X4_bitsOf 13 [(2, .double l2), (4, .long l4)] [] X 0 0 (KrL K)) (fun l2 l4 X h => by
    refine aw_dload_n 14 dX4_bitsOf_13 rfl 0 rfl rfl ?_
    refine aw_ldc2d 17 (v := 4611686018427387904) dX4_bitsOf_14 (tk3 (i := 3) (by decide +kernel) rfl) rfl ?_
    refine aw_dcmp 18 dX4_bitsOf_17 rfl ?_
    refine aw_if_lt 45 21 dX4_bitsOf_18 rfl rfl (fun c1 => ?_) (fun c1 => ?_)
    · replace h := h.1 c1
      exact aw_pick [0, 1] rfl (aw_X4_bitsOf_45 hG  h)
    · replace h := h.2 c1
      refine aw_lload 23 dX4_bitsOf_21 1 rfl rfl ?_
      refine aw_ldc2 26 (v := 1023) dX4_bitsOf_23 (tk3 (i := 4) (by decide +kernel) rfl) rfl ?_
      refine aw_lcmp 27 dX4_bitsOf_26 rfl ?_
      refine aw_if_ge 45 30 dX4_bitsOf_27 rfl rfl (fun c2 => ?_) (fun c2 => ?_)
      · replace h := h.1 c2
        exact aw_pick [0, 1] rfl (aw_X4_bitsOf_45 hG  h)
      · replace h := h.2 c2
        refine aw_dload_n 31 dX4_bitsOf_30 rfl 0 rfl rfl ?_
        refine aw_ldc2d 34 (v := 4611686018427387904) dX4_bitsOf_31 (tk3 (i := 3) (by decide +kernel) rfl) rfl ?_
        obtain ⟨g3, h⟩ := h
        refine aw_ddiv 35 dX4_bitsOf_34 g3 rfl ?_
        refine aw_dstore_n 36 (lv' := [(2, _), (4, _)]) dX4_bitsOf_35 rfl (ltb rfl) rfl rfl ?_
        refine aw_lload 38 dX4_bitsOf_36 1 rfl rfl ?_
        refine aw_lconst 39 (v := 1) dX4_bitsOf_38 kL_1 rfl ?_
        refine aw_ladd 40 dX4_bitsOf_39 rfl ?_
        refine aw_lstore 42 (lv' := [(4, _), (2, _)]) dX4_bitsOf_40 (ltb rfl) rfl rfl ?_
        refine aw_goto 13 dX4_bitsOf_42 rfl ?_
        exact aw_pick [1, 0] rfl h)
set_option maxRecDepth 20000 in
theorem am_X4_bitsOf {G : GG} (hG : G.1.stackTraces = false) {l0 : UInt64} {X : XH} {K : Int64 → XH → Prop} (h : w_X4_bitsOf l0 X K) : AM G M_X4_bitsOf X [.double l0] (KrL K) := AM_of (by decide +kernel) rfl (leb rfl) hG (by
  show AW G M_X4_bitsOf 0 [(0, .double l0)] [] X 0 0 _
  unfold w_X4_bitsOf at h
  refine aw_dload_n 1 dX4_bitsOf_0 rfl 0 rfl rfl ?_
  refine aw_dconst1 2 dX4_bitsOf_1 rfl ?_
  refine aw_dcmp 3 dX4_bitsOf_2 rfl ?_
  refine aw_if_ge 8 6 dX4_bitsOf_3 rfl rfl (fun c1 => ?_) (fun c1 => ?_)
  · replace h := h.1 c1
    refine aw_dload_n 9 dX4_bitsOf_8 rfl 0 rfl rfl ?_
    refine aw_dstore_n 10 (lv' := [(2, _), (0, _)]) dX4_bitsOf_9 rfl (ltb rfl) rfl rfl ?_
    refine aw_lconst 11 (v := 0) dX4_bitsOf_10 kL_0 rfl ?_
    refine aw_lstore 13 (lv' := [(4, _), (2, _), (0, _)]) dX4_bitsOf_11 (ltb rfl) rfl rfl ?_
    exact aw_pick [1, 0] rfl (aw_X4_bitsOf_13 hG  h)
  · replace h := h.2 c1
    refine aw_lconst 7 (v := 0) dX4_bitsOf_6 kL_0 rfl ?_
    exact aw_lreturn dX4_bitsOf_7 rfl (leb rfl) (leb rfl) ⟨_, rfl, h⟩)
set_option maxRecDepth 20000 in
theorem am_X4_chainTongue {G : GG} (hG : G.1.stackTraces = false) {l0 : Nat} {l1 : Int64} {l3 : Int32} {X : XH} {K : Int64 → XH → Prop} (h : w_X4_chainTongue l0 l1 l3 X K) : AM G M_X4_chainTongue X [.ref l0, .long l1, .int l3] (KrL K) := AM_of (by decide +kernel) rfl (leb rfl) hG (by
  show AW G M_X4_chainTongue 0 [(0, .ref l0), (1, .long l1), (3, .int l3)] [] X 0 0 _
  unfold w_X4_chainTongue at h
  refine aw_lload_n 1 dX4_chainTongue_0 rfl 1 rfl rfl ?_
  refine aw_aload_n 2 dX4_chainTongue_1 rfl 0 rfl rfl ?_
  obtain ⟨g1, h⟩ := h
  obtain ⟨g2, h⟩ := h
  refine aw_getR 5 dX4_chainTongue_2 fl_RX4_10 rfl g1 g2 rfl ?_
  refine aw_iload_n 6 dX4_chainTongue_5 rfl 2 rfl rfl ?_
  obtain ⟨g5, h⟩ := h
  refine aw_callV (M' := M_X3_annexTotal) 9 145 3 (hR X l0 0) [.int _] [.long _] dX4_chainTongue_6 lk_RX4_145 mv_X3_annexTotal mp_X3_annexTotal rfl ⟨leb rfl, leb rfl⟩ rfl (ltb rfl) g5 rfl (leb rfl) (leb rfl) (leb rfl) rfl (am_X3_annexTotal hG h) (kkI fun v4 X3 h => ?_) (kxN KrI.no)
  refine aw_widen (cc' := 0) (ss' := 0) (leb rfl) (leb rfl) ?_
  refine aw_i2l 10 dX4_chainTongue_9 rfl ?_
  refine aw_callS (M' := M_X4_chain) 13 367 [.long _, .long _] [] dX4_chainTongue_10 lk_RX4_367 ms_X4_chain mp_X4_chain rfl ⟨leb rfl, leb rfl⟩ rfl (leb rfl) (leb rfl) (leb rfl) rfl (am_X4_chain hG h) (kkL fun v7 X6 h => ?_) (kxN KrL.no)
  refine aw_widen (cc' := 0) (ss' := 0) (leb rfl) (leb rfl) ?_
  refine aw_lstore 15 (lv' := [(4, _), (0, _), (1, _), (3, _)]) dX4_chainTongue_13 (ltb rfl) rfl rfl ?_
  refine aw_lload 17 dX4_chainTongue_15 0 rfl rfl ?_
  refine aw_aload_n 18 dX4_chainTongue_17 rfl 1 rfl rfl ?_
  obtain ⟨g8, h⟩ := h
  obtain ⟨g9, h⟩ := h
  refine aw_getR 21 dX4_chainTongue_18 fl_RX4_10 rfl g8 g9 rfl ?_
  refine aw_iload_n 22 dX4_chainTongue_21 rfl 3 rfl rfl ?_
  obtain ⟨g12, h⟩ := h
  refine aw_callV (M' := M_X3_takenTotal) 25 316 3 (hR X6 l0 0) [.int _] [.long _] dX4_chainTongue_22 lk_RX4_316 mv_X3_takenTotal mp_X3_takenTotal rfl ⟨leb rfl, leb rfl⟩ rfl (ltb rfl) g12 rfl (leb rfl) (leb rfl) (leb rfl) rfl (am_X3_takenTotal hG h) (kkI fun v11 X10 h => ?_) (kxN KrI.no)
  refine aw_widen (cc' := 0) (ss' := 0) (leb rfl) (leb rfl) ?_
  refine aw_i2l 26 dX4_chainTongue_25 rfl ?_
  refine aw_callS (M' := M_X4_chain) 29 367 [.long _, .long _] [] dX4_chainTongue_26 lk_RX4_367 ms_X4_chain mp_X4_chain rfl ⟨leb rfl, leb rfl⟩ rfl (leb rfl) (leb rfl) (leb rfl) rfl (am_X4_chain hG h) (kkL fun v14 X13 h => ?_) (kxN KrL.no)
  refine aw_widen (cc' := 0) (ss' := 0) (leb rfl) (leb rfl) ?_
  refine aw_lstore 31 (lv' := [(4, _), (0, _), (1, _), (3, _)]) dX4_chainTongue_29 (ltb rfl) rfl rfl ?_
  refine aw_lload 33 dX4_chainTongue_31 0 rfl rfl ?_
  refine aw_aload_n 34 dX4_chainTongue_33 rfl 1 rfl rfl ?_
  obtain ⟨g15, h⟩ := h
  obtain ⟨g16, h⟩ := h
  refine aw_getR 37 dX4_chainTongue_34 fl_RX4_10 rfl g15 g16 rfl ?_
  refine aw_iload_n 38 dX4_chainTongue_37 rfl 3 rfl rfl ?_
  obtain ⟨g19, h⟩ := h
  refine aw_callV (M' := M_X3_readyTotal) 41 319 3 (hR X13 l0 0) [.int _] [.long _] dX4_chainTongue_38 lk_RX4_319 mv_X3_readyTotal mp_X3_readyTotal rfl ⟨leb rfl, leb rfl⟩ rfl (ltb rfl) g19 rfl (leb rfl) (leb rfl) (leb rfl) rfl (am_X3_readyTotal hG h) (kkI fun v18 X17 h => ?_) (kxN KrI.no)
  refine aw_widen (cc' := 0) (ss' := 0) (leb rfl) (leb rfl) ?_
  refine aw_i2l 42 dX4_chainTongue_41 rfl ?_
  refine aw_callS (M' := M_X4_chain) 45 367 [.long _, .long _] [] dX4_chainTongue_42 lk_RX4_367 ms_X4_chain mp_X4_chain rfl ⟨leb rfl, leb rfl⟩ rfl (leb rfl) (leb rfl) (leb rfl) rfl (am_X4_chain hG h) (kkL fun v21 X20 h => ?_) (kxN KrL.no)
  refine aw_widen (cc' := 0) (ss' := 0) (leb rfl) (leb rfl) ?_
  refine aw_lstore 47 (lv' := [(4, _), (0, _), (1, _), (3, _)]) dX4_chainTongue_45 (ltb rfl) rfl rfl ?_
  refine aw_lload 49 dX4_chainTongue_47 0 rfl rfl ?_
  refine aw_aload_n 50 dX4_chainTongue_49 rfl 1 rfl rfl ?_
  obtain ⟨g22, h⟩ := h
  obtain ⟨g23, h⟩ := h
  refine aw_getR 53 dX4_chainTongue_50 fl_RX4_10 rfl g22 g23 rfl ?_
  refine aw_iload_n 54 dX4_chainTongue_53 rfl 3 rfl rfl ?_
  obtain ⟨g26, h⟩ := h
  refine aw_callV (M' := M_X3_readyOfAllVoices) 57 322 3 (hR X20 l0 0) [.int _] [.long _] dX4_chainTongue_54 lk_RX4_322 mv_X3_readyOfAllVoices mp_X3_readyOfAllVoices rfl ⟨leb rfl, leb rfl⟩ rfl (ltb rfl) g26 rfl (leb rfl) (leb rfl) (leb rfl) rfl (am_X3_readyOfAllVoices hG h) (kkI fun v25 X24 h => ?_) (kxN KrI.no)
  refine aw_widen (cc' := 0) (ss' := 0) (leb rfl) (leb rfl) ?_
  refine aw_i2l 58 dX4_chainTongue_57 rfl ?_
  refine aw_callS (M' := M_X4_chain) 61 367 [.long _, .long _] [] dX4_chainTongue_58 lk_RX4_367 ms_X4_chain mp_X4_chain rfl ⟨leb rfl, leb rfl⟩ rfl (leb rfl) (leb rfl) (leb rfl) rfl (am_X4_chain hG h) (kkL fun v28 X27 h => ?_) (kxN KrL.no)
  refine aw_widen (cc' := 0) (ss' := 0) (leb rfl) (leb rfl) ?_
  refine aw_lstore 63 (lv' := [(4, _), (0, _), (1, _), (3, _)]) dX4_chainTongue_61 (ltb rfl) rfl rfl ?_
  refine aw_lload 65 dX4_chainTongue_63 0 rfl rfl ?_
  refine aw_aload_n 66 dX4_chainTongue_65 rfl 1 rfl rfl ?_
  obtain ⟨g29, h⟩ := h
  obtain ⟨g30, h⟩ := h
  refine aw_getR 69 dX4_chainTongue_66 fl_RX4_10 rfl g29 g30 rfl ?_
  refine aw_iload_n 70 dX4_chainTongue_69 rfl 3 rfl rfl ?_
  obtain ⟨g33, h⟩ := h
  refine aw_callV (M' := M_X3_hasRatification) 73 325 3 (hR X27 l0 0) [.int _] [.long _] dX4_chainTongue_70 lk_RX4_325 mv_X3_hasRatification mp_X3_hasRatification rfl ⟨leb rfl, leb rfl⟩ rfl (ltb rfl) g33 rfl (leb rfl) (leb rfl) (leb rfl) rfl (am_X3_hasRatification hG h) (kkI fun v32 X31 h => ?_) (kxN KrI.no)
  refine aw_widen (cc' := 0) (ss' := 0) (leb rfl) (leb rfl) ?_
  refine aw_callS (M' := M_X4_chainFlag) 76 397 [.long _, .int _] [] dX4_chainTongue_73 lk_RX4_397 ms_X4_chainFlag mp_X4_chainFlag rfl ⟨leb rfl, leb rfl⟩ rfl (leb rfl) (leb rfl) (leb rfl) rfl (am_X4_chainFlag hG h) (kkL fun v35 X34 h => ?_) (kxN KrL.no)
  refine aw_widen (cc' := 0) (ss' := 0) (leb rfl) (leb rfl) ?_
  refine aw_lstore 78 (lv' := [(4, _), (0, _), (1, _), (3, _)]) dX4_chainTongue_76 (ltb rfl) rfl rfl ?_
  refine aw_lload 80 dX4_chainTongue_78 0 rfl rfl ?_
  refine aw_aload_n 81 dX4_chainTongue_80 rfl 1 rfl rfl ?_
  obtain ⟨g36, h⟩ := h
  obtain ⟨g37, h⟩ := h
  refine aw_getR 84 dX4_chainTongue_81 fl_RX4_10 rfl g36 g37 rfl ?_
  refine aw_iload_n 85 dX4_chainTongue_84 rfl 3 rfl rfl ?_
  obtain ⟨g40, h⟩ := h
  refine aw_callV (M' := M_X3_misfitTotal) 88 328 3 (hR X34 l0 0) [.int _] [.long _] dX4_chainTongue_85 lk_RX4_328 mv_X3_misfitTotal mp_X3_misfitTotal rfl ⟨leb rfl, leb rfl⟩ rfl (ltb rfl) g40 rfl (leb rfl) (leb rfl) (leb rfl) rfl (am_X3_misfitTotal hG h) (kkI fun v39 X38 h => ?_) (kxN KrI.no)
  refine aw_widen (cc' := 0) (ss' := 0) (leb rfl) (leb rfl) ?_
  refine aw_i2l 89 dX4_chainTongue_88 rfl ?_
  refine aw_callS (M' := M_X4_chain) 92 367 [.long _, .long _] [] dX4_chainTongue_89 lk_RX4_367 ms_X4_chain mp_X4_chain rfl ⟨leb rfl, leb rfl⟩ rfl (leb rfl) (leb rfl) (leb rfl) rfl (am_X4_chain hG h) (kkL fun v42 X41 h => ?_) (kxN KrL.no)
  refine aw_widen (cc' := 0) (ss' := 0) (leb rfl) (leb rfl) ?_
  refine aw_lstore 94 (lv' := [(4, _), (0, _), (1, _), (3, _)]) dX4_chainTongue_92 (ltb rfl) rfl rfl ?_
  refine aw_lload 96 dX4_chainTongue_94 0 rfl rfl ?_
  refine aw_aload_n 97 dX4_chainTongue_96 rfl 1 rfl rfl ?_
  obtain ⟨g43, h⟩ := h
  obtain ⟨g44, h⟩ := h
  refine aw_getR 100 dX4_chainTongue_97 fl_RX4_10 rfl g43 g44 rfl ?_
  refine aw_iload_n 101 dX4_chainTongue_100 rfl 3 rfl rfl ?_
  obtain ⟨g47, h⟩ := h
  refine aw_callV (M' := M_X3_longestToTake) 104 350 3 (hR X41 l0 0) [.int _] [.long _] dX4_chainTongue_101 lk_RX4_350 mv_X3_longestToTake mp_X3_longestToTake rfl ⟨leb rfl, leb rfl⟩ rfl (ltb rfl) g47 rfl (leb rfl) (leb rfl) (leb rfl) rfl (am_X3_longestToTake hG h) (kkI fun v46 X45 h => ?_) (kxN KrI.no)
  refine aw_widen (cc' := 0) (ss' := 0) (leb rfl) (leb rfl) ?_
  refine aw_iconst 105 (v := 1) dX4_chainTongue_104 kI_1 rfl ?_
  refine aw_iadd 106 dX4_chainTongue_105 rfl ?_
  refine aw_i2l 107 dX4_chainTongue_106 rfl ?_
  refine aw_callS (M' := M_X4_chain) 110 367 [.long _, .long _] [] dX4_chainTongue_107 lk_RX4_367 ms_X4_chain mp_X4_chain rfl ⟨leb rfl, leb rfl⟩ rfl (leb rfl) (leb rfl) (leb rfl) rfl (am_X4_chain hG h) (kkL fun v49 X48 h => ?_) (kxN KrL.no)
  refine aw_widen (cc' := 0) (ss' := 0) (leb rfl) (leb rfl) ?_
  refine aw_lstore 112 (lv' := [(4, _), (0, _), (1, _), (3, _)]) dX4_chainTongue_110 (ltb rfl) rfl rfl ?_
  refine aw_lload 114 dX4_chainTongue_112 0 rfl rfl ?_
  refine aw_aload_n 115 dX4_chainTongue_114 rfl 1 rfl rfl ?_
  obtain ⟨g50, h⟩ := h
  obtain ⟨g51, h⟩ := h
  refine aw_getR 118 dX4_chainTongue_115 fl_RX4_10 rfl g50 g51 rfl ?_
  refine aw_iload_n 119 dX4_chainTongue_118 rfl 3 rfl rfl ?_
  obtain ⟨g54, h⟩ := h
  refine aw_callV (M' := M_X3_meanHundredths) 122 361 3 (hR X48 l0 0) [.int _] [.long _] dX4_chainTongue_119 lk_RX4_361 mv_X3_meanHundredths mp_X3_meanHundredths rfl ⟨leb rfl, leb rfl⟩ rfl (ltb rfl) g54 rfl (leb rfl) (leb rfl) (leb rfl) rfl (am_X3_meanHundredths hG h) (kkD fun v53 X52 h => ?_) (kxN KrD.no)
  refine aw_widen (cc' := 0) (ss' := 0) (leb rfl) (leb rfl) ?_
  refine aw_callS (M' := M_X4_bitsOf) 125 408 [.double _] [.long _] dX4_chainTongue_122 lk_RX4_408 ms_X4_bitsOf mp_X4_bitsOf rfl ⟨leb rfl, leb rfl⟩ rfl (leb rfl) (leb rfl) (leb rfl) rfl (am_X4_bitsOf hG h) (kkL fun v56 X55 h => ?_) (kxN KrL.no)
  refine aw_widen (cc' := 0) (ss' := 0) (leb rfl) (leb rfl) ?_
  refine aw_callS (M' := M_X4_chain) 128 367 [.long _, .long _] [] dX4_chainTongue_125 lk_RX4_367 ms_X4_chain mp_X4_chain rfl ⟨leb rfl, leb rfl⟩ rfl (leb rfl) (leb rfl) (leb rfl) rfl (am_X4_chain hG h) (kkL fun v58 X57 h => ?_) (kxN KrL.no)
  refine aw_widen (cc' := 0) (ss' := 0) (leb rfl) (leb rfl) ?_
  exact aw_lreturn dX4_chainTongue_128 rfl (leb rfl) (leb rfl) ⟨_, rfl, h⟩)
set_option maxRecDepth 20000 in
theorem aw_X4_chainAccounts_94 {G : GG} (hG : G.1.stackTraces = false)  {l0 : Nat} {l3 : Int64} {l5 : Int32} {X : XH} {K : Int64 → XH → Prop}  (h : w_X4_chainAccounts_94  l0 l3 l5 X K) : AW G M_X4_chainAccounts 94 [(0, .ref l0), (3, .long l3), (5, .int l5)] [] X 0 0 (KrL K) :=
  h (fun l0 l3 l5 X => AW G M_X4_chainAccounts 94 [(0, .ref l0), (3, .long l3), (5, .int l5)] [] X 0 0 (KrL K)) (fun l0 l3 l5 X h => by
    refine aw_iload 96 dX4_chainAccounts_94 2 rfl rfl ?_
    refine aw_iconst 97 (v := 2) dX4_chainAccounts_96 kI_2 rfl ?_
    refine aw_icmp_ge 117 100 dX4_chainAccounts_97 rfl rfl (fun c1 => ?_) (fun c1 => ?_)
    · replace h := h.1 c1
      refine aw_lload_n 118 dX4_chainAccounts_117 rfl 1 rfl rfl ?_
      exact aw_lreturn dX4_chainAccounts_118 rfl (leb rfl) (leb rfl) ⟨_, rfl, h⟩
    · replace h := h.2 c1
      refine aw_lload_n 101 dX4_chainAccounts_100 rfl 1 rfl rfl ?_
      refine aw_aload_n 102 dX4_chainAccounts_101 rfl 0 rfl rfl ?_
      refine aw_iload 104 dX4_chainAccounts_102 2 rfl rfl ?_
      obtain ⟨g4, h⟩ := h
      refine aw_callV (M' := M_X4_hasSnapshot) 107 272 4 l0 [.int _] [.long _] dX4_chainAccounts_104 lk_RX4_272 mv_X4_hasSnapshot mp_X4_hasSnapshot rfl ⟨leb rfl, leb rfl⟩ rfl (ltb rfl) g4 rfl (leb rfl) (leb rfl) (leb rfl) rfl (am_X4_hasSnapshot hG h) (kkI fun v3 X2 h => ?_) (kxN KrI.no)
      refine aw_widen (cc' := 0) (ss' := 0) (leb rfl) (leb rfl) ?_
      refine aw_callS (M' := M_X4_chainFlag) 110 397 [.long _, .int _] [] dX4_chainAccounts_107 lk_RX4_397 ms_X4_chainFlag mp_X4_chainFlag rfl ⟨leb rfl, leb rfl⟩ rfl (leb rfl) (leb rfl) (leb rfl) rfl (am_X4_chainFlag hG h) (kkL fun v6 X5 h => ?_) (kxN KrL.no)
      refine aw_widen (cc' := 0) (ss' := 0) (leb rfl) (leb rfl) ?_
      refine aw_lstore_n 111 (lv' := [(3, _), (0, _), (5, _)]) dX4_chainAccounts_110 rfl (ltb rfl) rfl rfl ?_
      refine aw_iinc 114 (v := 1) (lv' := [(5, _), (3, _), (0, _)]) dX4_chainAccounts_111 2 rfl kI_1 (ltb rfl) rfl rfl ?_
      refine aw_goto 94 dX4_chainAccounts_114 rfl ?_
      exact aw_pick [2, 1, 0] rfl h)
set_option maxRecDepth 20000 in
theorem am_X4_chainAccounts {G : GG} (hG : G.1.stackTraces = false) {l0 : Nat} {l1 : Int64} {X : XH} {K : Int64 → XH → Prop} (h : w_X4_chainAccounts l0 l1 X K) : AM G M_X4_chainAccounts X [.ref l0, .long l1] (KrL K) := AM_of (by decide +kernel) rfl (leb rfl) hG (by
  show AW G M_X4_chainAccounts 0 [(0, .ref l0), (1, .long l1)] [] X 0 0 _
  unfold w_X4_chainAccounts at h
  refine aw_lload_n 1 dX4_chainAccounts_0 rfl 1 rfl rfl ?_
  refine aw_aload_n 2 dX4_chainAccounts_1 rfl 0 rfl rfl ?_
  obtain ⟨g1, h⟩ := h
  obtain ⟨g2, h⟩ := h
  refine aw_getR 5 dX4_chainAccounts_2 fl_RX4_10 rfl g1 g2 rfl ?_
  obtain ⟨g3, h⟩ := h
  refine aw_getI 8 dX4_chainAccounts_5 fl_RX4_187 rfl g3 rfl ?_
  refine aw_i2l 9 dX4_chainAccounts_8 rfl ?_
  refine aw_callS (M' := M_X4_chain) 12 367 [.long _, .long _] [] dX4_chainAccounts_9 lk_RX4_367 ms_X4_chain mp_X4_chain rfl ⟨leb rfl, leb rfl⟩ rfl (leb rfl) (leb rfl) (leb rfl) rfl (am_X4_chain hG h) (kkL fun v5 X4 h => ?_) (kxN KrL.no)
  refine aw_widen (cc' := 0) (ss' := 0) (leb rfl) (leb rfl) ?_
  refine aw_lstore_n 13 (lv' := [(3, _), (0, _), (1, _)]) dX4_chainAccounts_12 rfl (ltb rfl) rfl rfl ?_
  refine aw_lload_n 14 dX4_chainAccounts_13 rfl 0 rfl rfl ?_
  refine aw_aload_n 15 dX4_chainAccounts_14 rfl 1 rfl rfl ?_
  obtain ⟨g6, h⟩ := h
  obtain ⟨g7, h⟩ := h
  refine aw_getR 18 dX4_chainAccounts_15 fl_RX4_10 rfl g6 g7 rfl ?_
  obtain ⟨g8, h⟩ := h
  refine aw_getI 21 dX4_chainAccounts_18 fl_RX4_331 rfl g8 rfl ?_
  refine aw_i2l 22 dX4_chainAccounts_21 rfl ?_
  refine aw_callS (M' := M_X4_chain) 25 367 [.long _, .long _] [] dX4_chainAccounts_22 lk_RX4_367 ms_X4_chain mp_X4_chain rfl ⟨leb rfl, leb rfl⟩ rfl (leb rfl) (leb rfl) (leb rfl) rfl (am_X4_chain hG h) (kkL fun v10 X9 h => ?_) (kxN KrL.no)
  refine aw_widen (cc' := 0) (ss' := 0) (leb rfl) (leb rfl) ?_
  refine aw_lstore_n 26 (lv' := [(3, _), (0, _), (1, _)]) dX4_chainAccounts_25 rfl (ltb rfl) rfl rfl ?_
  refine aw_lload_n 27 dX4_chainAccounts_26 rfl 0 rfl rfl ?_
  refine aw_aload_n 28 dX4_chainAccounts_27 rfl 1 rfl rfl ?_
  obtain ⟨g11, h⟩ := h
  obtain ⟨g12, h⟩ := h
  refine aw_getR 31 dX4_chainAccounts_28 fl_RX4_10 rfl g11 g12 rfl ?_
  obtain ⟨g13, h⟩ := h
  refine aw_getI 34 dX4_chainAccounts_31 fl_RX4_334 rfl g13 rfl ?_
  refine aw_i2l 35 dX4_chainAccounts_34 rfl ?_
  refine aw_callS (M' := M_X4_chain) 38 367 [.long _, .long _] [] dX4_chainAccounts_35 lk_RX4_367 ms_X4_chain mp_X4_chain rfl ⟨leb rfl, leb rfl⟩ rfl (leb rfl) (leb rfl) (leb rfl) rfl (am_X4_chain hG h) (kkL fun v15 X14 h => ?_) (kxN KrL.no)
  refine aw_widen (cc' := 0) (ss' := 0) (leb rfl) (leb rfl) ?_
  refine aw_lstore_n 39 (lv' := [(3, _), (0, _), (1, _)]) dX4_chainAccounts_38 rfl (ltb rfl) rfl rfl ?_
  refine aw_lload_n 40 dX4_chainAccounts_39 rfl 0 rfl rfl ?_
  refine aw_aload_n 41 dX4_chainAccounts_40 rfl 1 rfl rfl ?_
  obtain ⟨g16, h⟩ := h
  obtain ⟨g17, h⟩ := h
  refine aw_getR 44 dX4_chainAccounts_41 fl_RX4_10 rfl g16 g17 rfl ?_
  obtain ⟨g18, h⟩ := h
  refine aw_getI 47 dX4_chainAccounts_44 fl_RX4_337 rfl g18 rfl ?_
  refine aw_i2l 48 dX4_chainAccounts_47 rfl ?_
  refine aw_callS (M' := M_X4_chain) 51 367 [.long _, .long _] [] dX4_chainAccounts_48 lk_RX4_367 ms_X4_chain mp_X4_chain rfl ⟨leb rfl, leb rfl⟩ rfl (leb rfl) (leb rfl) (leb rfl) rfl (am_X4_chain hG h) (kkL fun v20 X19 h => ?_) (kxN KrL.no)
  refine aw_widen (cc' := 0) (ss' := 0) (leb rfl) (leb rfl) ?_
  refine aw_lstore_n 52 (lv' := [(3, _), (0, _), (1, _)]) dX4_chainAccounts_51 rfl (ltb rfl) rfl rfl ?_
  refine aw_lload_n 53 dX4_chainAccounts_52 rfl 0 rfl rfl ?_
  refine aw_aload_n 54 dX4_chainAccounts_53 rfl 1 rfl rfl ?_
  obtain ⟨g21, h⟩ := h
  obtain ⟨g22, h⟩ := h
  refine aw_getR 57 dX4_chainAccounts_54 fl_RX4_10 rfl g21 g22 rfl ?_
  obtain ⟨g25, h⟩ := h
  refine aw_callV (M' := M_X3_mostTakenTongue) 60 355 3 (hR X19 l0 0) [] [.long _] dX4_chainAccounts_57 lk_RX4_355 mv_X3_mostTakenTongue mp_X3_mostTakenTongue rfl ⟨leb rfl, leb rfl⟩ rfl (ltb rfl) g25 rfl (leb rfl) (leb rfl) (leb rfl) rfl (am_X3_mostTakenTongue hG h) (kkI fun v24 X23 h => ?_) (kxN KrI.no)
  refine aw_widen (cc' := 0) (ss' := 0) (leb rfl) (leb rfl) ?_
  refine aw_i2l 61 dX4_chainAccounts_60 rfl ?_
  refine aw_callS (M' := M_X4_chain) 64 367 [.long _, .long _] [] dX4_chainAccounts_61 lk_RX4_367 ms_X4_chain mp_X4_chain rfl ⟨leb rfl, leb rfl⟩ rfl (leb rfl) (leb rfl) (leb rfl) rfl (am_X4_chain hG h) (kkL fun v27 X26 h => ?_) (kxN KrL.no)
  refine aw_widen (cc' := 0) (ss' := 0) (leb rfl) (leb rfl) ?_
  refine aw_lstore_n 65 (lv' := [(3, _), (0, _), (1, _)]) dX4_chainAccounts_64 rfl (ltb rfl) rfl rfl ?_
  refine aw_lload_n 66 dX4_chainAccounts_65 rfl 0 rfl rfl ?_
  refine aw_aload_n 67 dX4_chainAccounts_66 rfl 1 rfl rfl ?_
  obtain ⟨g28, h⟩ := h
  obtain ⟨g29, h⟩ := h
  refine aw_getR 70 dX4_chainAccounts_67 fl_RX4_10 rfl g28 g29 rfl ?_
  obtain ⟨g32, h⟩ := h
  refine aw_callV (M' := M_X3_mostLipsState) 73 358 3 (hR X26 l0 0) [] [.long _] dX4_chainAccounts_70 lk_RX4_358 mv_X3_mostLipsState mp_X3_mostLipsState rfl ⟨leb rfl, leb rfl⟩ rfl (ltb rfl) g32 rfl (leb rfl) (leb rfl) (leb rfl) rfl (am_X3_mostLipsState hG h) (kkI fun v31 X30 h => ?_) (kxN KrI.no)
  refine aw_widen (cc' := 0) (ss' := 0) (leb rfl) (leb rfl) ?_
  refine aw_i2l 74 dX4_chainAccounts_73 rfl ?_
  refine aw_callS (M' := M_X4_chain) 77 367 [.long _, .long _] [] dX4_chainAccounts_74 lk_RX4_367 ms_X4_chain mp_X4_chain rfl ⟨leb rfl, leb rfl⟩ rfl (leb rfl) (leb rfl) (leb rfl) rfl (am_X4_chain hG h) (kkL fun v34 X33 h => ?_) (kxN KrL.no)
  refine aw_widen (cc' := 0) (ss' := 0) (leb rfl) (leb rfl) ?_
  refine aw_lstore_n 78 (lv' := [(3, _), (0, _), (1, _)]) dX4_chainAccounts_77 rfl (ltb rfl) rfl rfl ?_
  refine aw_lload_n 79 dX4_chainAccounts_78 rfl 0 rfl rfl ?_
  refine aw_aload_n 80 dX4_chainAccounts_79 rfl 1 rfl rfl ?_
  obtain ⟨g35, h⟩ := h
  obtain ⟨g36, h⟩ := h
  refine aw_getR 83 dX4_chainAccounts_80 fl_RX4_19 rfl g35 g36 rfl ?_
  obtain ⟨g37, h⟩ := h
  refine aw_getI 86 dX4_chainAccounts_83 fl_RX4_277 rfl g37 rfl ?_
  refine aw_i2l 87 dX4_chainAccounts_86 rfl ?_
  refine aw_callS (M' := M_X4_chain) 90 367 [.long _, .long _] [] dX4_chainAccounts_87 lk_RX4_367 ms_X4_chain mp_X4_chain rfl ⟨leb rfl, leb rfl⟩ rfl (leb rfl) (leb rfl) (leb rfl) rfl (am_X4_chain hG h) (kkL fun v39 X38 h => ?_) (kxN KrL.no)
  refine aw_widen (cc' := 0) (ss' := 0) (leb rfl) (leb rfl) ?_
  refine aw_lstore_n 91 (lv' := [(3, _), (0, _), (1, _)]) dX4_chainAccounts_90 rfl (ltb rfl) rfl rfl ?_
  refine aw_iconst 92 (v := 0) dX4_chainAccounts_91 kI_0 rfl ?_
  refine aw_istore 94 (lv' := [(5, _), (3, _), (0, _), (1, _)]) dX4_chainAccounts_92 (ltb rfl) rfl rfl ?_
  exact aw_pick [2, 1, 0] rfl (aw_X4_chainAccounts_94 hG  h))
set_option maxRecDepth 20000 in
theorem aw_X4_chainBuffer_16 {G : GG} (hG : G.1.stackTraces = false)  {l0 : Nat} {l3 : Int64} {l5 : Int32} {X : XH} {K : Int64 → XH → Prop}  (h : w_X4_chainBuffer_16  l0 l3 l5 X K) : AW G M_X4_chainBuffer 16 [(0, .ref l0), (3, .long l3), (5, .int l5)] [] X 0 0 (KrL K) :=
  h (fun l0 l3 l5 X => AW G M_X4_chainBuffer 16 [(0, .ref l0), (3, .long l3), (5, .int l5)] [] X 0 0 (KrL K)) (fun l0 l3 l5 X h => by
    refine aw_iload 18 dX4_chainBuffer_16 2 rfl rfl ?_
    refine aw_aload_n 19 dX4_chainBuffer_18 rfl 0 rfl rfl ?_
    obtain ⟨g1, h⟩ := h
    obtain ⟨g2, h⟩ := h
    refine aw_getR 22 dX4_chainBuffer_19 fl_RX4_34 rfl g1 g2 rfl ?_
    obtain ⟨g3, h⟩ := h
    refine aw_getI 25 dX4_chainBuffer_22 fl_RX4_226 rfl g3 rfl ?_
    refine aw_icmp_ge 52 28 dX4_chainBuffer_25 rfl rfl (fun c4 => ?_) (fun c4 => ?_)
    · replace h := h.1 c4
      refine aw_lload_n 53 dX4_chainBuffer_52 rfl 1 rfl rfl ?_
      exact aw_lreturn dX4_chainBuffer_53 rfl (leb rfl) (leb rfl) ⟨_, rfl, h⟩
    · replace h := h.2 c4
      refine aw_lload_n 29 dX4_chainBuffer_28 rfl 1 rfl rfl ?_
      refine aw_aload_n 30 dX4_chainBuffer_29 rfl 0 rfl rfl ?_
      refine aw_getR 33 dX4_chainBuffer_30 fl_RX4_34 rfl g1 g2 rfl ?_
      obtain ⟨g5, h⟩ := h
      refine aw_getR 36 dX4_chainBuffer_33 fl_RX4_412 rfl g3 g5 rfl ?_
      refine aw_iload 38 dX4_chainBuffer_36 2 rfl rfl ?_
      refine aw_callS (M' := M_X4_at) 41 256 [.ref _, .int _] [.long _] dX4_chainBuffer_38 lk_RX4_256 ms_X4_at mp_X4_at rfl ⟨leb rfl, leb rfl⟩ rfl (leb rfl) (leb rfl) (leb rfl) rfl (am_X4_at hG h) (kkI fun v7 X6 h => ?_) (kxN KrI.no)
      refine aw_widen (cc' := 0) (ss' := 0) (leb rfl) (leb rfl) ?_
      refine aw_i2l 42 dX4_chainBuffer_41 rfl ?_
      refine aw_callS (M' := M_X4_chain) 45 367 [.long _, .long _] [] dX4_chainBuffer_42 lk_RX4_367 ms_X4_chain mp_X4_chain rfl ⟨leb rfl, leb rfl⟩ rfl (leb rfl) (leb rfl) (leb rfl) rfl (am_X4_chain hG h) (kkL fun v9 X8 h => ?_) (kxN KrL.no)
      refine aw_widen (cc' := 0) (ss' := 0) (leb rfl) (leb rfl) ?_
      refine aw_lstore_n 46 (lv' := [(3, _), (0, _), (5, _)]) dX4_chainBuffer_45 rfl (ltb rfl) rfl rfl ?_
      refine aw_iinc 49 (v := 1) (lv' := [(5, _), (3, _), (0, _)]) dX4_chainBuffer_46 2 rfl kI_1 (ltb rfl) rfl rfl ?_
      refine aw_goto 16 dX4_chainBuffer_49 rfl ?_
      exact aw_pick [2, 1, 0] rfl h)
set_option maxRecDepth 20000 in
theorem am_X4_chainBuffer {G : GG} (hG : G.1.stackTraces = false) {l0 : Nat} {l1 : Int64} {X : XH} {K : Int64 → XH → Prop} (h : w_X4_chainBuffer l0 l1 X K) : AM G M_X4_chainBuffer X [.ref l0, .long l1] (KrL K) := AM_of (by decide +kernel) rfl (leb rfl) hG (by
  show AW G M_X4_chainBuffer 0 [(0, .ref l0), (1, .long l1)] [] X 0 0 _
  unfold w_X4_chainBuffer at h
  refine aw_lload_n 1 dX4_chainBuffer_0 rfl 1 rfl rfl ?_
  refine aw_aload_n 2 dX4_chainBuffer_1 rfl 0 rfl rfl ?_
  obtain ⟨g1, h⟩ := h
  obtain ⟨g2, h⟩ := h
  refine aw_getR 5 dX4_chainBuffer_2 fl_RX4_34 rfl g1 g2 rfl ?_
  obtain ⟨g3, h⟩ := h
  refine aw_getI 8 dX4_chainBuffer_5 fl_RX4_226 rfl g3 rfl ?_
  refine aw_i2l 9 dX4_chainBuffer_8 rfl ?_
  refine aw_callS (M' := M_X4_chain) 12 367 [.long _, .long _] [] dX4_chainBuffer_9 lk_RX4_367 ms_X4_chain mp_X4_chain rfl ⟨leb rfl, leb rfl⟩ rfl (leb rfl) (leb rfl) (leb rfl) rfl (am_X4_chain hG h) (kkL fun v5 X4 h => ?_) (kxN KrL.no)
  refine aw_widen (cc' := 0) (ss' := 0) (leb rfl) (leb rfl) ?_
  refine aw_lstore_n 13 (lv' := [(3, _), (0, _), (1, _)]) dX4_chainBuffer_12 rfl (ltb rfl) rfl rfl ?_
  refine aw_iconst 14 (v := 0) dX4_chainBuffer_13 kI_0 rfl ?_
  refine aw_istore 16 (lv' := [(5, _), (3, _), (0, _), (1, _)]) dX4_chainBuffer_14 (ltb rfl) rfl rfl ?_
  exact aw_pick [2, 1, 0] rfl (aw_X4_chainBuffer_16 hG  h))
set_option maxRecDepth 20000 in
theorem aw_X4_digest_51 {G : GG} (hG : G.1.stackTraces = false) {P43 : Nat → Int64 → Int32 → XH → Prop} {l0 : Nat} {l1 : Int64} {l3 : Int32} {l4 : Int32} {X : XH} {K : Int64 → XH → Prop} (hO43 : ∀ (l0 : Nat) (l1 : Int64) (l3 : Int32) (X : XH), P43 l0 l1 l3 X → AW G M_X4_digest 43 [(0, .ref l0), (1, .long l1), (3, .int l3)] [] X 0 0 (KrL K)) (h : w_X4_digest_51 P43 l0 l1 l3 l4 X K) : AW G M_X4_digest 51 [(0, .ref l0), (1, .long l1), (3, .int l3), (4, .int l4)] [] X 0 0 (KrL K) :=
  h (fun l0 l1 l3 l4 X => AW G M_X4_digest 51 [(0, .ref l0), (1, .long l1), (3, .int l3), (4, .int l4)] [] X 0 0 (KrL K)) (fun l0 l1 l3 l4 X h => by
    refine aw_iload 53 dX4_digest_51 3 rfl rfl ?_
    refine aw_iconst 54 (v := 3) dX4_digest_53 kI_3 rfl ?_
    refine aw_icmp_ge 72 57 dX4_digest_54 rfl rfl (fun c1 => ?_) (fun c1 => ?_)
    · replace h := h.1 c1
      refine aw_iinc 75 (v := 1) (lv' := [(3, _), (0, _), (1, _), (4, _)]) dX4_digest_72 2 rfl kI_1 (ltb rfl) rfl rfl ?_
      refine aw_goto 43 dX4_digest_75 rfl ?_
      exact aw_pick [1, 2, 0] rfl (hO43 _ _ _ _ h)
    · replace h := h.2 c1
      refine aw_aload_n 58 dX4_digest_57 rfl 0 rfl rfl ?_
      refine aw_lload_n 59 dX4_digest_58 rfl 1 rfl rfl ?_
      refine aw_iload_n 60 dX4_digest_59 rfl 2 rfl rfl ?_
      refine aw_iload 62 dX4_digest_60 3 rfl rfl ?_
      obtain ⟨g4, h⟩ := h
      refine aw_callV (M' := M_X4_chainVoice) 65 375 4 l0 [.long _, .int _, .int _] [] dX4_digest_62 lk_RX4_375 mv_X4_chainVoice mp_X4_chainVoice rfl ⟨leb rfl, leb rfl⟩ rfl (ltb rfl) g4 rfl (leb rfl) (leb rfl) (leb rfl) rfl (am_X4_chainVoice hG h) (kkL fun v3 X2 h => ?_) (kxN KrL.no)
      refine aw_widen (cc' := 0) (ss' := 0) (leb rfl) (leb rfl) ?_
      refine aw_lstore_n 66 (lv' := [(1, _), (0, _), (3, _), (4, _)]) dX4_digest_65 rfl (ltb rfl) rfl rfl ?_
      refine aw_iinc 69 (v := 1) (lv' := [(4, _), (1, _), (0, _), (3, _)]) dX4_digest_66 3 rfl kI_1 (ltb rfl) rfl rfl ?_
      refine aw_goto 51 dX4_digest_69 rfl ?_
      exact aw_pick [2, 1, 3, 0] rfl h)
set_option maxRecDepth 20000 in
theorem aw_X4_digest_100 {G : GG} (hG : G.1.stackTraces = false)  {l0 : Nat} {l1 : Int64} {l3 : Int32} {X : XH} {K : Int64 → XH → Prop}  (h : w_X4_digest_100  l0 l1 l3 X K) : AW G M_X4_digest 100 [(0, .ref l0), (1, .long l1), (3, .int l3)] [] X 0 0 (KrL K) :=
  h (fun l0 l1 l3 X => AW G M_X4_digest 100 [(0, .ref l0), (1, .long l1), (3, .int l3)] [] X 0 0 (KrL K)) (fun l0 l1 l3 X h => by
    refine aw_iload_n 101 dX4_digest_100 rfl 2 rfl rfl ?_
    refine aw_iconst 102 (v := 3) dX4_digest_101 kI_3 rfl ?_
    refine aw_icmp_ge 118 105 dX4_digest_102 rfl rfl (fun c1 => ?_) (fun c1 => ?_)
    · replace h := h.1 c1
      refine aw_aload_n 119 dX4_digest_118 rfl 0 rfl rfl ?_
      refine aw_aload_n 120 dX4_digest_119 rfl 0 rfl rfl ?_
      refine aw_lload_n 121 dX4_digest_120 rfl 1 rfl rfl ?_
      obtain ⟨g4, h⟩ := h
      refine aw_callV (M' := M_X4_chainAccounts) 124 385 4 l0 [.long _] [.ref _] dX4_digest_121 lk_RX4_385 mv_X4_chainAccounts mp_X4_chainAccounts rfl ⟨leb rfl, leb rfl⟩ rfl (ltb rfl) g4 rfl (leb rfl) (leb rfl) (leb rfl) rfl (am_X4_chainAccounts hG h) (kkL fun v3 X2 h => ?_) (kxN KrL.no)
      refine aw_widen (cc' := 0) (ss' := 0) (leb rfl) (leb rfl) ?_
      obtain ⟨g7, h⟩ := h
      refine aw_callV (M' := M_X4_chainBuffer) 127 389 4 l0 [.long _] [] dX4_digest_124 lk_RX4_389 mv_X4_chainBuffer mp_X4_chainBuffer rfl ⟨leb rfl, leb rfl⟩ rfl (ltb rfl) g7 rfl (leb rfl) (leb rfl) (leb rfl) rfl (am_X4_chainBuffer hG h) (kkL fun v6 X5 h => ?_) (kxN KrL.no)
      refine aw_widen (cc' := 0) (ss' := 0) (leb rfl) (leb rfl) ?_
      exact aw_lreturn dX4_digest_127 rfl (leb rfl) (leb rfl) ⟨_, rfl, h⟩
    · replace h := h.2 c1
      refine aw_aload_n 106 dX4_digest_105 rfl 0 rfl rfl ?_
      refine aw_lload_n 107 dX4_digest_106 rfl 1 rfl rfl ?_
      refine aw_iload_n 108 dX4_digest_107 rfl 2 rfl rfl ?_
      obtain ⟨g10, h⟩ := h
      refine aw_callV (M' := M_X4_chainTongue) 111 382 4 l0 [.long _, .int _] [] dX4_digest_108 lk_RX4_382 mv_X4_chainTongue mp_X4_chainTongue rfl ⟨leb rfl, leb rfl⟩ rfl (ltb rfl) g10 rfl (leb rfl) (leb rfl) (leb rfl) rfl (am_X4_chainTongue hG h) (kkL fun v9 X8 h => ?_) (kxN KrL.no)
      refine aw_widen (cc' := 0) (ss' := 0) (leb rfl) (leb rfl) ?_
      refine aw_lstore_n 112 (lv' := [(1, _), (0, _), (3, _)]) dX4_digest_111 rfl (ltb rfl) rfl rfl ?_
      refine aw_iinc 115 (v := 1) (lv' := [(3, _), (1, _), (0, _)]) dX4_digest_112 2 rfl kI_1 (ltb rfl) rfl rfl ?_
      refine aw_goto 100 dX4_digest_115 rfl ?_
      exact aw_pick [2, 1, 0] rfl h)
set_option maxRecDepth 20000 in
theorem aw_X4_digest_80 {G : GG} (hG : G.1.stackTraces = false)  {l0 : Nat} {l1 : Int64} {l3 : Int32} {X : XH} {K : Int64 → XH → Prop}  (h : w_X4_digest_80  l0 l1 l3 X K) : AW G M_X4_digest 80 [(0, .ref l0), (1, .long l1), (3, .int l3)] [] X 0 0 (KrL K) :=
  h (fun l0 l1 l3 X => AW G M_X4_digest 80 [(0, .ref l0), (1, .long l1), (3, .int l3)] [] X 0 0 (KrL K)) (fun l0 l1 l3 X h => by
    refine aw_iload_n 81 dX4_digest_80 rfl 2 rfl rfl ?_
    refine aw_iconst 82 (v := 4) dX4_digest_81 kI_4 rfl ?_
    refine aw_icmp_ge 98 85 dX4_digest_82 rfl rfl (fun c1 => ?_) (fun c1 => ?_)
    · replace h := h.1 c1
      refine aw_iconst 99 (v := 0) dX4_digest_98 kI_0 rfl ?_
      refine aw_istore_n 100 (lv' := [(3, _), (0, _), (1, _)]) dX4_digest_99 rfl (ltb rfl) rfl rfl ?_
      exact aw_pick [1, 2, 0] rfl (aw_X4_digest_100 hG  h)
    · replace h := h.2 c1
      refine aw_aload_n 86 dX4_digest_85 rfl 0 rfl rfl ?_
      refine aw_lload_n 87 dX4_digest_86 rfl 1 rfl rfl ?_
      refine aw_iload_n 88 dX4_digest_87 rfl 2 rfl rfl ?_
      obtain ⟨g4, h⟩ := h
      refine aw_callV (M' := M_X4_chainReel) 91 379 4 l0 [.long _, .int _] [] dX4_digest_88 lk_RX4_379 mv_X4_chainReel mp_X4_chainReel rfl ⟨leb rfl, leb rfl⟩ rfl (ltb rfl) g4 rfl (leb rfl) (leb rfl) (leb rfl) rfl (am_X4_chainReel hG h) (kkL fun v3 X2 h => ?_) (kxN KrL.no)
      refine aw_widen (cc' := 0) (ss' := 0) (leb rfl) (leb rfl) ?_
      refine aw_lstore_n 92 (lv' := [(1, _), (0, _), (3, _)]) dX4_digest_91 rfl (ltb rfl) rfl rfl ?_
      refine aw_iinc 95 (v := 1) (lv' := [(3, _), (1, _), (0, _)]) dX4_digest_92 2 rfl kI_1 (ltb rfl) rfl rfl ?_
      refine aw_goto 80 dX4_digest_95 rfl ?_
      exact aw_pick [2, 1, 0] rfl h)
set_option maxRecDepth 20000 in
theorem aw_X4_digest_43 {G : GG} (hG : G.1.stackTraces = false)  {l0 : Nat} {l1 : Int64} {l3 : Int32} {X : XH} {K : Int64 → XH → Prop}  (h : w_X4_digest_43  l0 l1 l3 X K) : AW G M_X4_digest 43 [(0, .ref l0), (1, .long l1), (3, .int l3)] [] X 0 0 (KrL K) :=
  h (fun l0 l1 l3 X => AW G M_X4_digest 43 [(0, .ref l0), (1, .long l1), (3, .int l3)] [] X 0 0 (KrL K)) (fun l0 l1 l3 X h => by
    refine aw_iload_n 44 dX4_digest_43 rfl 2 rfl rfl ?_
    refine aw_iconst 45 (v := 5) dX4_digest_44 kI_5 rfl ?_
    refine aw_icmp_ge 78 48 dX4_digest_45 rfl rfl (fun c1 => ?_) (fun c1 => ?_)
    · replace h := h.1 c1
      refine aw_iconst 79 (v := 0) dX4_digest_78 kI_0 rfl ?_
      refine aw_istore_n 80 (lv' := [(3, _), (0, _), (1, _)]) dX4_digest_79 rfl (ltb rfl) rfl rfl ?_
      exact aw_pick [1, 2, 0] rfl (aw_X4_digest_80 hG  h)
    · replace h := h.2 c1
      refine aw_iconst 49 (v := 0) dX4_digest_48 kI_0 rfl ?_
      refine aw_istore 51 (lv' := [(4, _), (0, _), (1, _), (3, _)]) dX4_digest_49 (ltb rfl) rfl rfl ?_
      exact aw_pick [1, 2, 3, 0] rfl (aw_X4_digest_51 hG (fun _ _ _ _ h => h) h))
set_option maxRecDepth 20000 in
theorem aw_X4_digest_17 {G : GG} (hG : G.1.stackTraces = false)  {l0 : Nat} {l1 : Int64} {l3 : Int32} {X : XH} {K : Int64 → XH → Prop}  (h : w_X4_digest_17  l0 l1 l3 X K) : AW G M_X4_digest 17 [(0, .ref l0), (1, .long l1), (3, .int l3)] [] X 0 0 (KrL K) :=
  h (fun l0 l1 l3 X => AW G M_X4_digest 17 [(0, .ref l0), (1, .long l1), (3, .int l3)] [] X 0 0 (KrL K)) (fun l0 l1 l3 X h => by
    refine aw_iload_n 18 dX4_digest_17 rfl 2 rfl rfl ?_
    refine aw_aload_n 19 dX4_digest_18 rfl 0 rfl rfl ?_
    obtain ⟨g1, h⟩ := h
    obtain ⟨g2, h⟩ := h
    refine aw_getR 22 dX4_digest_19 fl_RX4_10 rfl g1 g2 rfl ?_
    obtain ⟨g3, h⟩ := h
    refine aw_getI 25 dX4_digest_22 fl_RX4_56 rfl g3 rfl ?_
    refine aw_icmp_ge 41 28 dX4_digest_25 rfl rfl (fun c4 => ?_) (fun c4 => ?_)
    · replace h := h.1 c4
      refine aw_iconst 42 (v := 0) dX4_digest_41 kI_0 rfl ?_
      refine aw_istore_n 43 (lv' := [(3, _), (0, _), (1, _)]) dX4_digest_42 rfl (ltb rfl) rfl rfl ?_
      exact aw_pick [1, 2, 0] rfl (aw_X4_digest_43 hG  h)
    · replace h := h.2 c4
      refine aw_aload_n 29 dX4_digest_28 rfl 0 rfl rfl ?_
      refine aw_lload_n 30 dX4_digest_29 rfl 1 rfl rfl ?_
      refine aw_iload_n 31 dX4_digest_30 rfl 2 rfl rfl ?_
      refine aw_callV (M' := M_X4_chainClause) 34 371 4 l0 [.long _, .int _] [] dX4_digest_31 lk_RX4_371 mv_X4_chainClause mp_X4_chainClause rfl ⟨leb rfl, leb rfl⟩ rfl (ltb rfl) g1 rfl (leb rfl) (leb rfl) (leb rfl) rfl (am_X4_chainClause hG h) (kkL fun v6 X5 h => ?_) (kxN KrL.no)
      refine aw_widen (cc' := 0) (ss' := 0) (leb rfl) (leb rfl) ?_
      refine aw_lstore_n 35 (lv' := [(1, _), (0, _), (3, _)]) dX4_digest_34 rfl (ltb rfl) rfl rfl ?_
      refine aw_iinc 38 (v := 1) (lv' := [(3, _), (1, _), (0, _)]) dX4_digest_35 2 rfl kI_1 (ltb rfl) rfl rfl ?_
      refine aw_goto 17 dX4_digest_38 rfl ?_
      exact aw_pick [2, 1, 0] rfl h)
set_option maxRecDepth 20000 in
theorem am_X4_digest {G : GG} (hG : G.1.stackTraces = false) {l0 : Nat} {X : XH} {K : Int64 → XH → Prop} (h : w_X4_digest l0 X K) : AM G M_X4_digest X [.ref l0] (KrL K) := AM_of (by decide +kernel) rfl (leb rfl) hG (by
  show AW G M_X4_digest 0 [(0, .ref l0)] [] X 0 0 _
  unfold w_X4_digest at h
  refine aw_ldc2 3 (v := 4229) dX4_digest_0 (tk2 (i := 2) (by decide +kernel) rfl) rfl ?_
  refine aw_aload_n 4 dX4_digest_3 rfl 0 rfl rfl ?_
  obtain ⟨g1, h⟩ := h
  obtain ⟨g2, h⟩ := h
  refine aw_getR 7 dX4_digest_4 fl_RX4_10 rfl g1 g2 rfl ?_
  obtain ⟨g3, h⟩ := h
  refine aw_getI 10 dX4_digest_7 fl_RX4_56 rfl g3 rfl ?_
  refine aw_i2l 11 dX4_digest_10 rfl ?_
  refine aw_callS (M' := M_X4_chain) 14 367 [.long _, .long _] [] dX4_digest_11 lk_RX4_367 ms_X4_chain mp_X4_chain rfl ⟨leb rfl, leb rfl⟩ rfl (leb rfl) (leb rfl) (leb rfl) rfl (am_X4_chain hG h) (kkL fun v5 X4 h => ?_) (kxN KrL.no)
  refine aw_widen (cc' := 0) (ss' := 0) (leb rfl) (leb rfl) ?_
  refine aw_lstore_n 15 (lv' := [(1, _), (0, _)]) dX4_digest_14 rfl (ltb rfl) rfl rfl ?_
  refine aw_iconst 16 (v := 0) dX4_digest_15 kI_0 rfl ?_
  refine aw_istore_n 17 (lv' := [(3, _), (1, _), (0, _)]) dX4_digest_16 rfl (ltb rfl) rfl rfl ?_
  exact aw_pick [2, 1, 0] rfl (aw_X4_digest_17 hG  h))
end XWK9
