/-! the walks of methods, as predicates -/
section XWK4
set_option maxRecDepth 20000 in
theorem am_L_leastAnnex {G : GG} (hG : G.1.stackTraces = false) {l0 : Nat} {l1 : Int32} {l2 : Int32} {X : XH} {K : Int32 → XH → Prop} (h : w_L_leastAnnex l0 l1 l2 X K) : AM G M_L_leastAnnex X [.ref l0, .int l1, .int l2] (KrI K) := AM_ofH (by decide +kernel) (0, 6, 7, 15) [(0, 6, 11, 19)] rfl (leb rfl) hG (by
  show AW G M_L_leastAnnex 0 [(0, .ref l0), (1, .int l1), (2, .int l2)] [] X 0 0 _
  unfold w_L_leastAnnex at h
  refine aw_aload_n 1 dL_leastAnnex_0 rfl 0 rfl rfl ?_
  refine aw_iload_n 2 dL_leastAnnex_1 rfl 1 rfl rfl ?_
  refine aw_iload_n 3 dL_leastAnnex_2 rfl 2 rfl rfl ?_
  obtain ⟨g3, h⟩ := h
  refine aw_callV (M' := M_X4_leastAnnex) 6 160 4 l0 [.int _, .int _] [] dL_leastAnnex_3 lk_RL_160 mv_X4_leastAnnex mp_X4_leastAnnex rfl ⟨leb rfl, leb rfl⟩ rfl (ltb rfl) g3 rfl (leb rfl) (leb rfl) (leb rfl) rfl (am_X4_leastAnnex hG h) (kkT (kkI fun v2 X1 h => ?_)) (kxT KrI.no fun E X1 h => ?_)
  · refine aw_widen (cc' := 4) (ss' := 24) (leb rfl) (leb rfl) ?_
    exact aw_ireturn (ty := .int) dL_leastAnnex_6 rfl rfl (leb rfl) (leb rfl) ⟨_, rfl, h⟩
  · obtain ⟨hE, h⟩ := h
    rcases hE with rfl | rfl
    · refine aw_atc (lv' := [(0, .ref _), (1, .int _), (2, .int _)]) [] (0, 6, 7, 15) [(0, 6, 11, 19)] rfl (fun z hz => nomatch hz) (by decide) (by decide) (tk3 (i := 40) (by decide +kernel) rfl) (by decide) 3 1 8 (Or.inl ⟨3, rfl, dL_leastAnnex_7, rfl⟩) (ltb rfl) rfl ?_
      refine aw_widen (cc' := 4) (ss' := 24) (leb rfl) (leb rfl) ?_
      replace h := h.1 rfl
      refine aw_bipush 10 (v := -2) dL_leastAnnex_8 kB_m2 rfl ?_
      exact aw_ireturn (ty := .int) dL_leastAnnex_10 rfl rfl (leb rfl) (leb rfl) ⟨_, rfl, h⟩
    · refine aw_atc (lv' := [(0, .ref _), (1, .int _), (2, .int _)]) [(0, 6, 7, 15)] (0, 6, 11, 19) [] rfl (by intro z hz; simp only [List.mem_cons, List.not_mem_nil, or_false] at hz; rcases hz with rfl <;> first | exact ⟨by decide, xcI, tk3 (i := 40) (by decide +kernel) rfl, by decide⟩) (by decide) (by decide) (tk3 (i := 42) (by decide +kernel) rfl) (by decide) 3 1 12 (Or.inl ⟨3, rfl, dL_leastAnnex_11, rfl⟩) (ltb rfl) rfl ?_
      refine aw_widen (cc' := 4) (ss' := 24) (leb rfl) (leb rfl) ?_
      replace h := h.2 rfl
      refine aw_bipush 14 (v := -4) dL_leastAnnex_12 kB_m4 rfl ?_
      exact aw_ireturn (ty := .int) dL_leastAnnex_14 rfl rfl (leb rfl) (leb rfl) ⟨_, rfl, h⟩)
set_option maxRecDepth 20000 in
theorem am_X3_hundredthsAt {G : GG} (hG : G.1.stackTraces = false) {l0 : Nat} {l1 : Int32} {l2 : Int32} {X : XH} {K : Int32 → XH → Prop} (h : w_X3_hundredthsAt l0 l1 l2 X K) : AM G M_X3_hundredthsAt X [.ref l0, .int l1, .int l2] (KrI K) := AM_of (by decide +kernel) rfl (leb rfl) hG (by
  show AW G M_X3_hundredthsAt 0 [(0, .ref l0), (1, .int l1), (2, .int l2)] [] X 0 0 _
  unfold w_X3_hundredthsAt at h
  refine aw_aload_n 1 dX3_hundredthsAt_0 rfl 0 rfl rfl ?_
  refine aw_iload_n 2 dX3_hundredthsAt_1 rfl 1 rfl rfl ?_
  obtain ⟨g3, h⟩ := h
  refine aw_callV (M' := M_X3_lipsAt) 5 102 3 l0 [.int _] [] dX3_hundredthsAt_2 lk_RX3_102 mv_X3_lipsAt mp_X3_lipsAt rfl ⟨leb rfl, leb rfl⟩ rfl (ltb rfl) g3 rfl (leb rfl) (leb rfl) (leb rfl) rfl (am_X3_lipsAt hG h) (kkI fun v2 X1 h => ?_) (kxN KrI.no)
  refine aw_widen (cc' := 0) (ss' := 0) (leb rfl) (leb rfl) ?_
  refine aw_istore_n 6 (lv' := [(3, _), (0, _), (1, _), (2, _)]) dX3_hundredthsAt_5 rfl (ltb rfl) rfl rfl ?_
  refine aw_iload_n 7 dX3_hundredthsAt_6 rfl 0 rfl rfl ?_
  refine aw_if_le 24 10 dX3_hundredthsAt_7 rfl rfl (fun c4 => ?_) (fun c4 => ?_)
  · replace h := h.1 c4
    refine aw_iconst 25 (v := 0) dX3_hundredthsAt_24 kI_0 rfl ?_
    exact aw_ireturn (ty := .int) dX3_hundredthsAt_25 rfl rfl (leb rfl) (leb rfl) ⟨_, rfl, h⟩
  · replace h := h.2 c4
    refine aw_aload_n 11 dX3_hundredthsAt_10 rfl 1 rfl rfl ?_
    refine aw_iload_n 12 dX3_hundredthsAt_11 rfl 2 rfl rfl ?_
    refine aw_iload_n 13 dX3_hundredthsAt_12 rfl 3 rfl rfl ?_
    obtain ⟨g7, h⟩ := h
    refine aw_callV (M' := M_X3_spokenAt) 16 85 3 l0 [.int _, .int _] [] dX3_hundredthsAt_13 lk_RX3_85 mv_X3_spokenAt mp_X3_spokenAt rfl ⟨leb rfl, leb rfl⟩ rfl (ltb rfl) g7 rfl (leb rfl) (leb rfl) (leb rfl) rfl (am_X3_spokenAt hG h) (kkI fun v6 X5 h => ?_) (kxN KrI.no)
    refine aw_widen (cc' := 0) (ss' := 0) (leb rfl) (leb rfl) ?_
    refine aw_bipush 18 (v := 100) dX3_hundredthsAt_16 kB_100 rfl ?_
    refine aw_imul 19 dX3_hundredthsAt_18 rfl ?_
    refine aw_iload_n 20 dX3_hundredthsAt_19 rfl 0 rfl rfl ?_
    obtain ⟨g8, h⟩ := h
    refine aw_idiv 21 dX3_hundredthsAt_20 g8 rfl ?_
    refine aw_goto 25 dX3_hundredthsAt_21 rfl ?_
    exact aw_ireturn (ty := .int) dX3_hundredthsAt_25 rfl rfl (leb rfl) (leb rfl) ⟨_, rfl, h⟩)
set_option maxRecDepth 20000 in
theorem am_X4_hundredthsOf {G : GG} (hG : G.1.stackTraces = false) {l0 : Nat} {l1 : Int32} {l2 : Int32} {X : XH} {K : Int32 → XH → Prop} {KX : String → XH → Prop} (h : w_X4_hundredthsOf l0 l1 l2 X K KX) : AM G M_X4_hundredthsOf X [.ref l0, .int l1, .int l2] (KxT (KrI K) KX) := AM_of (by decide +kernel) rfl (leb rfl) hG (by
  show AW G M_X4_hundredthsOf 0 [(0, .ref l0), (1, .int l1), (2, .int l2)] [] X 0 0 _
  unfold w_X4_hundredthsOf at h
  refine aw_aload_n 1 dX4_hundredthsOf_0 rfl 0 rfl rfl ?_
  refine aw_iload_n 2 dX4_hundredthsOf_1 rfl 1 rfl rfl ?_
  refine aw_iload_n 3 dX4_hundredthsOf_2 rfl 2 rfl rfl ?_
  obtain ⟨g2, h⟩ := h
  refine aw_callV (M' := M_X4_checkTranslation) 6 115 4 l0 [.int _, .int _] [] dX4_hundredthsOf_3 lk_RX4_115 mv_X4_checkTranslation mp_X4_checkTranslation rfl ⟨leb rfl, leb rfl⟩ rfl (ltb rfl) g2 rfl (leb rfl) (leb rfl) (leb rfl) rfl (am_X4_checkTranslation hG h) (kkT (kkV fun X1 h => ?_)) (kxT KrV.no fun E X h => at_out rfl (leb rfl) (leb rfl) (Or.inr ⟨_, rfl, h⟩))
  refine aw_widen (cc' := 2) (ss' := 12) (leb rfl) (leb rfl) ?_
  refine aw_aload_n 7 dX4_hundredthsOf_6 rfl 0 rfl rfl ?_
  refine aw_iload_n 8 dX4_hundredthsOf_7 rfl 1 rfl rfl ?_
  refine aw_iload_n 9 dX4_hundredthsOf_8 rfl 2 rfl rfl ?_
  obtain ⟨g4, h⟩ := h
  refine aw_callV (M' := M_X4_checkTranslated) 12 286 4 l0 [.int _, .int _] [] dX4_hundredthsOf_9 lk_RX4_286 mv_X4_checkTranslated mp_X4_checkTranslated rfl ⟨leb rfl, leb rfl⟩ rfl (ltb rfl) g4 rfl (leb rfl) (leb rfl) (leb rfl) rfl (am_X4_checkTranslated hG h) (kkT (kkV fun X3 h => ?_)) (kxT KrV.no fun E X h => at_out rfl (leb rfl) (leb rfl) (Or.inr ⟨_, rfl, h⟩))
  refine aw_widen (cc' := 3) (ss' := 18) (leb rfl) (leb rfl) ?_
  refine aw_aload_n 13 dX4_hundredthsOf_12 rfl 0 rfl rfl ?_
  obtain ⟨g5, h⟩ := h
  obtain ⟨g6, h⟩ := h
  refine aw_getR 16 dX4_hundredthsOf_13 fl_RX4_10 rfl g5 g6 rfl ?_
  refine aw_iload_n 17 dX4_hundredthsOf_16 rfl 1 rfl rfl ?_
  refine aw_iload_n 18 dX4_hundredthsOf_17 rfl 2 rfl rfl ?_
  obtain ⟨g9, h⟩ := h
  refine aw_callV (M' := M_X3_hundredthsAt) 21 292 3 (hR X3 l0 0) [.int _, .int _] [] dX4_hundredthsOf_18 lk_RX4_292 mv_X3_hundredthsAt mp_X3_hundredthsAt rfl ⟨leb rfl, leb rfl⟩ rfl (ltb rfl) g9 rfl (leb rfl) (leb rfl) (leb rfl) rfl (am_X3_hundredthsAt hG h) (kkI fun v8 X7 h => ?_) (kxN KrI.no)
  refine aw_widen (cc' := 3) (ss' := 18) (leb rfl) (leb rfl) ?_
  exact aw_ireturn (ty := .int) dX4_hundredthsOf_21 rfl rfl (leb rfl) (leb rfl) (Or.inl ⟨_, rfl, h⟩))
set_option maxRecDepth 20000 in
theorem am_L_hundredthsOf {G : GG} (hG : G.1.stackTraces = false) {l0 : Nat} {l1 : Int32} {l2 : Int32} {X : XH} {K : Int32 → XH → Prop} (h : w_L_hundredthsOf l0 l1 l2 X K) : AM G M_L_hundredthsOf X [.ref l0, .int l1, .int l2] (KrI K) := AM_ofH (by decide +kernel) (0, 6, 7, 15) [(0, 6, 11, 19)] rfl (leb rfl) hG (by
  show AW G M_L_hundredthsOf 0 [(0, .ref l0), (1, .int l1), (2, .int l2)] [] X 0 0 _
  unfold w_L_hundredthsOf at h
  refine aw_aload_n 1 dL_hundredthsOf_0 rfl 0 rfl rfl ?_
  refine aw_iload_n 2 dL_hundredthsOf_1 rfl 1 rfl rfl ?_
  refine aw_iload_n 3 dL_hundredthsOf_2 rfl 2 rfl rfl ?_
  obtain ⟨g3, h⟩ := h
  refine aw_callV (M' := M_X4_hundredthsOf) 6 94 4 l0 [.int _, .int _] [] dL_hundredthsOf_3 lk_RL_94 mv_X4_hundredthsOf mp_X4_hundredthsOf rfl ⟨leb rfl, leb rfl⟩ rfl (ltb rfl) g3 rfl (leb rfl) (leb rfl) (leb rfl) rfl (am_X4_hundredthsOf hG h) (kkT (kkI fun v2 X1 h => ?_)) (kxT KrI.no fun E X1 h => ?_)
  · refine aw_widen (cc' := 3) (ss' := 18) (leb rfl) (leb rfl) ?_
    exact aw_ireturn (ty := .int) dL_hundredthsOf_6 rfl rfl (leb rfl) (leb rfl) ⟨_, rfl, h⟩
  · obtain ⟨hE, h⟩ := h
    rcases hE with rfl | rfl
    · refine aw_atc (lv' := [(0, .ref _), (1, .int _), (2, .int _)]) [] (0, 6, 7, 15) [(0, 6, 11, 19)] rfl (fun z hz => nomatch hz) (by decide) (by decide) (tk3 (i := 40) (by decide +kernel) rfl) (by decide) 3 1 8 (Or.inl ⟨3, rfl, dL_hundredthsOf_7, rfl⟩) (ltb rfl) rfl ?_
      refine aw_widen (cc' := 3) (ss' := 18) (leb rfl) (leb rfl) ?_
      replace h := h.1 rfl
      refine aw_bipush 10 (v := -2) dL_hundredthsOf_8 kB_m2 rfl ?_
      exact aw_ireturn (ty := .int) dL_hundredthsOf_10 rfl rfl (leb rfl) (leb rfl) ⟨_, rfl, h⟩
    · refine aw_atc (lv' := [(0, .ref _), (1, .int _), (2, .int _)]) [(0, 6, 7, 15)] (0, 6, 11, 19) [] rfl (by intro z hz; simp only [List.mem_cons, List.not_mem_nil, or_false] at hz; rcases hz with rfl <;> first | exact ⟨by decide, xcI, tk3 (i := 40) (by decide +kernel) rfl, by decide⟩) (by decide) (by decide) (tk3 (i := 42) (by decide +kernel) rfl) (by decide) 3 1 12 (Or.inl ⟨3, rfl, dL_hundredthsOf_11, rfl⟩) (ltb rfl) rfl ?_
      refine aw_widen (cc' := 3) (ss' := 18) (leb rfl) (leb rfl) ?_
      replace h := h.2 rfl
      refine aw_bipush 14 (v := -4) dL_hundredthsOf_12 kB_m4 rfl ?_
      exact aw_ireturn (ty := .int) dL_hundredthsOf_14 rfl rfl (leb rfl) (leb rfl) ⟨_, rfl, h⟩)
set_option maxRecDepth 20000 in
theorem am_X4_isTranslated {G : GG} (hG : G.1.stackTraces = false) {l0 : Nat} {l1 : Int32} {l2 : Int32} {X : XH} {K : Int32 → XH → Prop} {KX : String → XH → Prop} (h : w_X4_isTranslated l0 l1 l2 X K KX) : AM G M_X4_isTranslated X [.ref l0, .int l1, .int l2] (KxT (KrI K) KX) := AM_of (by decide +kernel) rfl (leb rfl) hG (by
  show AW G M_X4_isTranslated 0 [(0, .ref l0), (1, .int l1), (2, .int l2)] [] X 0 0 _
  unfold w_X4_isTranslated at h
  refine aw_aload_n 1 dX4_isTranslated_0 rfl 0 rfl rfl ?_
  refine aw_iload_n 2 dX4_isTranslated_1 rfl 1 rfl rfl ?_
  refine aw_iload_n 3 dX4_isTranslated_2 rfl 2 rfl rfl ?_
  obtain ⟨g2, h⟩ := h
  refine aw_callV (M' := M_X4_checkTranslation) 6 115 4 l0 [.int _, .int _] [] dX4_isTranslated_3 lk_RX4_115 mv_X4_checkTranslation mp_X4_checkTranslation rfl ⟨leb rfl, leb rfl⟩ rfl (ltb rfl) g2 rfl (leb rfl) (leb rfl) (leb rfl) rfl (am_X4_checkTranslation hG h) (kkT (kkV fun X1 h => ?_)) (kxT KrV.no fun E X h => at_out rfl (leb rfl) (leb rfl) (Or.inr ⟨_, rfl, h⟩))
  refine aw_widen (cc' := 2) (ss' := 12) (leb rfl) (leb rfl) ?_
  refine aw_aload_n 7 dX4_isTranslated_6 rfl 0 rfl rfl ?_
  obtain ⟨g3, h⟩ := h
  obtain ⟨g4, h⟩ := h
  refine aw_getR 10 dX4_isTranslated_7 fl_RX4_10 rfl g3 g4 rfl ?_
  refine aw_iload_n 11 dX4_isTranslated_10 rfl 1 rfl rfl ?_
  refine aw_iload_n 12 dX4_isTranslated_11 rfl 2 rfl rfl ?_
  obtain ⟨g7, h⟩ := h
  refine aw_callV (M' := M_X3_hasTranslation) 15 283 3 (hR X1 l0 0) [.int _, .int _] [] dX4_isTranslated_12 lk_RX4_283 mv_X3_hasTranslation mp_X3_hasTranslation rfl ⟨leb rfl, leb rfl⟩ rfl (ltb rfl) g7 rfl (leb rfl) (leb rfl) (leb rfl) rfl (am_X3_hasTranslation hG h) (kkI fun v6 X5 h => ?_) (kxN KrI.no)
  refine aw_widen (cc' := 2) (ss' := 12) (leb rfl) (leb rfl) ?_
  obtain ⟨g8, h⟩ := h
  exact aw_ireturn (ty := .boolean) dX4_isTranslated_15 rfl (narZ g8) (leb rfl) (leb rfl) (Or.inl ⟨_, rfl, h⟩))
set_option maxRecDepth 20000 in
theorem am_L_isTranslated {G : GG} (hG : G.1.stackTraces = false) {l0 : Nat} {l1 : Int32} {l2 : Int32} {X : XH} {K : Int32 → XH → Prop} (h : w_L_isTranslated l0 l1 l2 X K) : AM G M_L_isTranslated X [.ref l0, .int l1, .int l2] (KrI K) := AM_ofH (by decide +kernel) (0, 14, 15, 15) [] rfl (leb rfl) hG (by
  show AW G M_L_isTranslated 0 [(0, .ref l0), (1, .int l1), (2, .int l2)] [] X 0 0 _
  unfold w_L_isTranslated at h
  refine aw_aload_n 1 dL_isTranslated_0 rfl 0 rfl rfl ?_
  refine aw_iload_n 2 dL_isTranslated_1 rfl 1 rfl rfl ?_
  refine aw_iload_n 3 dL_isTranslated_2 rfl 2 rfl rfl ?_
  obtain ⟨g3, h⟩ := h
  refine aw_callV (M' := M_X4_isTranslated) 6 72 4 l0 [.int _, .int _] [] dL_isTranslated_3 lk_RL_72 mv_X4_isTranslated mp_X4_isTranslated rfl ⟨leb rfl, leb rfl⟩ rfl (ltb rfl) g3 rfl (leb rfl) (leb rfl) (leb rfl) rfl (am_X4_isTranslated hG h) (kkT (kkI fun v2 X1 h => ?_)) (kxT KrI.no fun E X1 h => ?_)
  · refine aw_widen (cc' := 2) (ss' := 12) (leb rfl) (leb rfl) ?_
    refine aw_if_eq 13 9 dL_isTranslated_6 rfl rfl (fun c4 => ?_) (fun c4 => ?_)
    · replace h := h.1 c4
      refine aw_iconst 14 (v := 0) dL_isTranslated_13 kI_0 rfl ?_
      exact aw_ireturn (ty := .int) dL_isTranslated_14 rfl rfl (leb rfl) (leb rfl) ⟨_, rfl, h⟩
    · replace h := h.2 c4
      refine aw_iconst 10 (v := 1) dL_isTranslated_9 kI_1 rfl ?_
      refine aw_goto 14 dL_isTranslated_10 rfl ?_
      exact aw_ireturn (ty := .int) dL_isTranslated_14 rfl rfl (leb rfl) (leb rfl) ⟨_, rfl, h⟩
  · obtain ⟨hE, h⟩ := h
    rcases hE with rfl
    refine aw_atc (lv' := [(0, .ref _), (1, .int _), (2, .int _)]) [] (0, 14, 15, 15) [] rfl (fun z hz => nomatch hz) (by decide) (by decide) (tk3 (i := 40) (by decide +kernel) rfl) (by decide) 3 1 16 (Or.inl ⟨3, rfl, dL_isTranslated_15, rfl⟩) (ltb rfl) rfl ?_
    refine aw_widen (cc' := 2) (ss' := 12) (leb rfl) (leb rfl) ?_
    replace h := h rfl
    refine aw_bipush 18 (v := -2) dL_isTranslated_16 kB_m2 rfl ?_
    exact aw_ireturn (ty := .int) dL_isTranslated_18 rfl rfl (leb rfl) (leb rfl) ⟨_, rfl, h⟩)
set_option maxRecDepth 20000 in
theorem am_X4_isRecorded {G : GG} (hG : G.1.stackTraces = false) {l0 : Nat} {l1 : Int32} {l2 : Int32} {X : XH} {K : Int32 → XH → Prop} {KX : String → XH → Prop} (h : w_X4_isRecorded l0 l1 l2 X K KX) : AM G M_X4_isRecorded X [.ref l0, .int l1, .int l2] (KxT (KrI K) KX) := AM_of (by decide +kernel) rfl (leb rfl) hG (by
  show AW G M_X4_isRecorded 0 [(0, .ref l0), (1, .int l1), (2, .int l2)] [] X 0 0 _
  unfold w_X4_isRecorded at h
  refine aw_aload_n 1 dX4_isRecorded_0 rfl 0 rfl rfl ?_
  refine aw_iload_n 2 dX4_isRecorded_1 rfl 1 rfl rfl ?_
  refine aw_iload_n 3 dX4_isRecorded_2 rfl 2 rfl rfl ?_
  obtain ⟨g2, h⟩ := h
  refine aw_callV (M' := M_X4_checkTranslation) 6 115 4 l0 [.int _, .int _] [] dX4_isRecorded_3 lk_RX4_115 mv_X4_checkTranslation mp_X4_checkTranslation rfl ⟨leb rfl, leb rfl⟩ rfl (ltb rfl) g2 rfl (leb rfl) (leb rfl) (leb rfl) rfl (am_X4_checkTranslation hG h) (kkT (kkV fun X1 h => ?_)) (kxT KrV.no fun E X h => at_out rfl (leb rfl) (leb rfl) (Or.inr ⟨_, rfl, h⟩))
  refine aw_widen (cc' := 2) (ss' := 12) (leb rfl) (leb rfl) ?_
  refine aw_aload_n 7 dX4_isRecorded_6 rfl 0 rfl rfl ?_
  obtain ⟨g3, h⟩ := h
  obtain ⟨g4, h⟩ := h
  refine aw_getR 10 dX4_isRecorded_7 fl_RX4_10 rfl g3 g4 rfl ?_
  refine aw_iload_n 11 dX4_isRecorded_10 rfl 1 rfl rfl ?_
  refine aw_iload_n 12 dX4_isRecorded_11 rfl 2 rfl rfl ?_
  obtain ⟨g7, h⟩ := h
  refine aw_callV (M' := M_X3_isTaken) 15 119 3 (hR X1 l0 0) [.int _, .int _] [] dX4_isRecorded_12 lk_RX4_119 mv_X3_isTaken mp_X3_isTaken rfl ⟨leb rfl, leb rfl⟩ rfl (ltb rfl) g7 rfl (leb rfl) (leb rfl) (leb rfl) rfl (am_X3_isTaken hG h) (kkI fun v6 X5 h => ?_) (kxN KrI.no)
  refine aw_widen (cc' := 2) (ss' := 12) (leb rfl) (leb rfl) ?_
  obtain ⟨g8, h⟩ := h
  exact aw_ireturn (ty := .boolean) dX4_isRecorded_15 rfl (narZ g8) (leb rfl) (leb rfl) (Or.inl ⟨_, rfl, h⟩))
set_option maxRecDepth 20000 in
theorem am_L_isRecorded {G : GG} (hG : G.1.stackTraces = false) {l0 : Nat} {l1 : Int32} {l2 : Int32} {X : XH} {K : Int32 → XH → Prop} (h : w_L_isRecorded l0 l1 l2 X K) : AM G M_L_isRecorded X [.ref l0, .int l1, .int l2] (KrI K) := AM_ofH (by decide +kernel) (0, 14, 15, 15) [] rfl (leb rfl) hG (by
  show AW G M_L_isRecorded 0 [(0, .ref l0), (1, .int l1), (2, .int l2)] [] X 0 0 _
  unfold w_L_isRecorded at h
  refine aw_aload_n 1 dL_isRecorded_0 rfl 0 rfl rfl ?_
  refine aw_iload_n 2 dL_isRecorded_1 rfl 1 rfl rfl ?_
  refine aw_iload_n 3 dL_isRecorded_2 rfl 2 rfl rfl ?_
  obtain ⟨g3, h⟩ := h
  refine aw_callV (M' := M_X4_isRecorded) 6 82 4 l0 [.int _, .int _] [] dL_isRecorded_3 lk_RL_82 mv_X4_isRecorded mp_X4_isRecorded rfl ⟨leb rfl, leb rfl⟩ rfl (ltb rfl) g3 rfl (leb rfl) (leb rfl) (leb rfl) rfl (am_X4_isRecorded hG h) (kkT (kkI fun v2 X1 h => ?_)) (kxT KrI.no fun E X1 h => ?_)
  · refine aw_widen (cc' := 2) (ss' := 12) (leb rfl) (leb rfl) ?_
    refine aw_if_eq 13 9 dL_isRecorded_6 rfl rfl (fun c4 => ?_) (fun c4 => ?_)
    · replace h := h.1 c4
      refine aw_iconst 14 (v := 0) dL_isRecorded_13 kI_0 rfl ?_
      exact aw_ireturn (ty := .int) dL_isRecorded_14 rfl rfl (leb rfl) (leb rfl) ⟨_, rfl, h⟩
    · replace h := h.2 c4
      refine aw_iconst 10 (v := 1) dL_isRecorded_9 kI_1 rfl ?_
      refine aw_goto 14 dL_isRecorded_10 rfl ?_
      exact aw_ireturn (ty := .int) dL_isRecorded_14 rfl rfl (leb rfl) (leb rfl) ⟨_, rfl, h⟩
  · obtain ⟨hE, h⟩ := h
    rcases hE with rfl
    refine aw_atc (lv' := [(0, .ref _), (1, .int _), (2, .int _)]) [] (0, 14, 15, 15) [] rfl (fun z hz => nomatch hz) (by decide) (by decide) (tk3 (i := 40) (by decide +kernel) rfl) (by decide) 3 1 16 (Or.inl ⟨3, rfl, dL_isRecorded_15, rfl⟩) (ltb rfl) rfl ?_
    refine aw_widen (cc' := 2) (ss' := 12) (leb rfl) (leb rfl) ?_
    replace h := h rfl
    refine aw_bipush 18 (v := -2) dL_isRecorded_16 kB_m2 rfl ?_
    exact aw_ireturn (ty := .int) dL_isRecorded_18 rfl rfl (leb rfl) (leb rfl) ⟨_, rfl, h⟩)
set_option maxRecDepth 20000 in
theorem am_X2_start {G : GG} (hG : G.1.stackTraces = false) {l0 : Nat} {l1 : Int32} {l2 : Int32} {X : XH} {K : XH → Prop} (h : w_X2_start l0 l1 l2 X K) : AM G M_X2_start X [.ref l0, .int l1, .int l2] (KrV K) := AM_of (by decide +kernel) rfl (leb rfl) hG (by
  show AW G M_X2_start 0 [(0, .ref l0), (1, .int l1), (2, .int l2)] [] X 0 0 _
  unfold w_X2_start at h
  refine aw_aload_n 1 dX2_start_0 rfl 0 rfl rfl ?_
  refine aw_iconst 2 (v := 0) dX2_start_1 kI_0 rfl ?_
  obtain ⟨g1, h⟩ := h
  refine aw_putI 5 dX2_start_2 fl_RX2_18 rfl rfl rfl rfl g1 rfl ?_
  refine aw_aload_n 6 dX2_start_5 rfl 0 rfl rfl ?_
  refine aw_iload_n 7 dX2_start_6 rfl 1 rfl rfl ?_
  refine aw_putI 10 dX2_start_7 fl_RX2_22 rfl rfl rfl rfl g1 rfl ?_
  refine aw_aload_n 11 dX2_start_10 rfl 0 rfl rfl ?_
  refine aw_iload_n 12 dX2_start_11 rfl 2 rfl rfl ?_
  refine aw_putI 15 dX2_start_12 fl_RX2_25 rfl rfl rfl rfl g1 rfl ?_
  exact aw_return dX2_start_15 rfl (leb rfl) (leb rfl) ⟨rfl, h⟩)
set_option maxRecDepth 20000 in
theorem am_X3_isReady {G : GG} (hG : G.1.stackTraces = false) {l0 : Nat} {l1 : Int32} {l2 : Int32} {X : XH} {K : Int32 → XH → Prop} (h : w_X3_isReady l0 l1 l2 X K) : AM G M_X3_isReady X [.ref l0, .int l1, .int l2] (KrI K) := AM_of (by decide +kernel) rfl (leb rfl) hG (by
  show AW G M_X3_isReady 0 [(0, .ref l0), (1, .int l1), (2, .int l2)] [] X 0 0 _
  unfold w_X3_isReady at h
  refine aw_aload_n 1 dX3_isReady_0 rfl 0 rfl rfl ?_
  refine aw_iload_n 2 dX3_isReady_1 rfl 1 rfl rfl ?_
  refine aw_iload_n 3 dX3_isReady_2 rfl 2 rfl rfl ?_
  obtain ⟨g3, h⟩ := h
  refine aw_callV (M' := M_X3_hasFit) 6 105 3 l0 [.int _, .int _] [] dX3_isReady_3 lk_RX3_105 mv_X3_hasFit mp_X3_hasFit rfl ⟨leb rfl, leb rfl⟩ rfl (ltb rfl) g3 rfl (leb rfl) (leb rfl) (leb rfl) rfl (am_X3_hasFit hG h) (kkI fun v2 X1 h => ?_) (kxN KrI.no)
  refine aw_widen (cc' := 0) (ss' := 0) (leb rfl) (leb rfl) ?_
  refine aw_if_eq 22 9 dX3_isReady_6 rfl rfl (fun c4 => ?_) (fun c4 => ?_)
  · replace h := h.1 c4
    refine aw_iconst 23 (v := 0) dX3_isReady_22 kI_0 rfl ?_
    exact aw_ireturn (ty := .boolean) dX3_isReady_23 rfl rfl (leb rfl) (leb rfl) ⟨_, rfl, h⟩
  · replace h := h.2 c4
    refine aw_aload_n 10 dX3_isReady_9 rfl 0 rfl rfl ?_
    refine aw_iload_n 11 dX3_isReady_10 rfl 1 rfl rfl ?_
    refine aw_iload_n 12 dX3_isReady_11 rfl 2 rfl rfl ?_
    obtain ⟨g7, h⟩ := h
    refine aw_callV (M' := M_X3_isTaken) 15 98 3 l0 [.int _, .int _] [] dX3_isReady_12 lk_RX3_98 mv_X3_isTaken mp_X3_isTaken rfl ⟨leb rfl, leb rfl⟩ rfl (ltb rfl) g7 rfl (leb rfl) (leb rfl) (leb rfl) rfl (am_X3_isTaken hG h) (kkI fun v6 X5 h => ?_) (kxN KrI.no)
    refine aw_widen (cc' := 0) (ss' := 0) (leb rfl) (leb rfl) ?_
    refine aw_if_ne 22 18 dX3_isReady_15 rfl rfl (fun c8 => ?_) (fun c8 => ?_)
    · replace h := h.1 c8
      refine aw_iconst 23 (v := 0) dX3_isReady_22 kI_0 rfl ?_
      exact aw_ireturn (ty := .boolean) dX3_isReady_23 rfl rfl (leb rfl) (leb rfl) ⟨_, rfl, h⟩
    · replace h := h.2 c8
      refine aw_iconst 19 (v := 1) dX3_isReady_18 kI_1 rfl ?_
      refine aw_goto 23 dX3_isReady_19 rfl ?_
      exact aw_ireturn (ty := .boolean) dX3_isReady_23 rfl rfl (leb rfl) (leb rfl) ⟨_, rfl, h⟩)
set_option maxRecDepth 20000 in
theorem am_X2_add {G : GG} (hG : G.1.stackTraces = false) {l0 : Nat} {l1 : Int32} {X : XH} {K : XH → Prop} (h : w_X2_add l0 l1 X K) : AM G M_X2_add X [.ref l0, .int l1] (KrV K) := AM_of (by decide +kernel) rfl (leb rfl) hG (by
  show AW G M_X2_add 0 [(0, .ref l0), (1, .int l1)] [] X 0 0 _
  unfold w_X2_add at h
  refine aw_aload_n 1 dX2_add_0 rfl 0 rfl rfl ?_
  obtain ⟨g1, h⟩ := h
  refine aw_getI 4 dX2_add_1 fl_RX2_18 rfl g1 rfl ?_
  refine aw_aload_n 5 dX2_add_4 rfl 0 rfl rfl ?_
  obtain ⟨g2, h⟩ := h
  refine aw_getR 8 dX2_add_5 fl_RX2_9 rfl g1 g2 rfl ?_
  obtain ⟨g3, h⟩ := h
  refine aw_alen 9 dX2_add_8 g3 rfl ?_
  refine aw_icmp_ge 34 12 dX2_add_9 rfl rfl (fun c4 => ?_) (fun c4 => ?_)
  · replace h := h.1 c4
    exact aw_return dX2_add_34 rfl (leb rfl) (leb rfl) ⟨rfl, h⟩
  · replace h := h.2 c4
    refine aw_aload_n 13 dX2_add_12 rfl 0 rfl rfl ?_
    refine aw_getR 16 dX2_add_13 fl_RX2_9 rfl g1 g2 rfl ?_
    refine aw_aload_n 17 dX2_add_16 rfl 0 rfl rfl ?_
    refine aw_getI 20 dX2_add_17 fl_RX2_18 rfl g1 rfl ?_
    refine aw_iload_n 21 dX2_add_20 rfl 1 rfl rfl ?_
    refine aw_callSN (M' := M_X4_put) 24 28 [.ref _, .int _, .int _] [] dX2_add_21 (by decide) ms_X4_put mp_X4_put rfl ⟨leb rfl, leb rfl⟩ rfl (leb rfl) (leb rfl) (leb rfl) rfl (am_X4_put hG h) (kkV fun X5 h => ?_) KrV.no
    refine aw_widen (cc' := 0) (ss' := 0) (leb rfl) (leb rfl) ?_
    refine aw_aload_n 25 dX2_add_24 rfl 0 rfl rfl ?_
    refine aw_dup 26 dX2_add_25 rfl rfl ?_
    obtain ⟨g6, h⟩ := h
    refine aw_getI 29 dX2_add_26 fl_RX2_18 rfl g6 rfl ?_
    refine aw_iconst 30 (v := 1) dX2_add_29 kI_1 rfl ?_
    refine aw_iadd 31 dX2_add_30 rfl ?_
    refine aw_putI 34 dX2_add_31 fl_RX2_18 rfl rfl rfl rfl g6 rfl ?_
    exact aw_return dX2_add_34 rfl (leb rfl) (leb rfl) ⟨rfl, h⟩)
set_option maxRecDepth 20000 in
theorem aw_X3_fillPlan_24 {G : GG} (hG : G.1.stackTraces = false)  {l0 : Nat} {l1 : Nat} {l2 : Int32} {l3 : Int32} {l4 : Int32} {X : XH} {K : XH → Prop}  (h : w_X3_fillPlan_24  l0 l1 l2 l3 l4 X K) : AW G M_X3_fillPlan 24 [(0, .ref l0), (1, .ref l1), (2, .int l2), (3, .int l3), (4, .int l4)] [] X 0 0 (KrV K) :=
  h (fun l0 l1 l2 l3 l4 X => AW G M_X3_fillPlan 24 [(0, .ref l0), (1, .ref l1), (2, .int l2), (3, .int l3), (4, .int l4)] [] X 0 0 (KrV K)) (fun l0 l1 l2 l3 l4 X h => by
    refine aw_iload 26 dX3_fillPlan_24 4 rfl rfl ?_
    refine aw_aload_n 27 dX3_fillPlan_26 rfl 0 rfl rfl ?_
    obtain ⟨g1, h⟩ := h
    refine aw_getI 30 dX3_fillPlan_27 fl_RX3_45 rfl g1 rfl ?_
    refine aw_icmp_ge 70 33 dX3_fillPlan_30 rfl rfl (fun c2 => ?_) (fun c2 => ?_)
    · replace h := h.1 c2
      exact aw_return dX3_fillPlan_70 rfl (leb rfl) (leb rfl) ⟨rfl, h⟩
    · replace h := h.2 c2
      refine aw_aload_n 34 dX3_fillPlan_33 rfl 0 rfl rfl ?_
      refine aw_iload 36 dX3_fillPlan_34 4 rfl rfl ?_
      refine aw_callV (M' := M_X3_speakerAt) 39 77 3 l0 [.int _] [] dX3_fillPlan_36 lk_RX3_77 mv_X3_speakerAt mp_X3_speakerAt rfl ⟨leb rfl, leb rfl⟩ rfl (ltb rfl) g1 rfl (leb rfl) (leb rfl) (leb rfl) rfl (am_X3_speakerAt hG h) (kkI fun v4 X3 h => ?_) (kxN KrI.no)
      refine aw_widen (cc' := 0) (ss' := 0) (leb rfl) (leb rfl) ?_
      refine aw_iload_n 40 dX3_fillPlan_39 rfl 2 rfl rfl ?_
      refine aw_icmp_ne 64 43 dX3_fillPlan_40 rfl rfl (fun c5 => ?_) (fun c5 => ?_)
      · replace h := h.1 c5
        refine aw_iinc 67 (v := 1) (lv' := [(4, _), (0, _), (1, _), (2, _), (3, _)]) dX3_fillPlan_64 4 rfl kI_1 (ltb rfl) rfl rfl ?_
        refine aw_goto 24 dX3_fillPlan_67 rfl ?_
        exact aw_pick [1, 2, 3, 4, 0] rfl h
      · replace h := h.2 c5
        refine aw_aload_n 44 dX3_fillPlan_43 rfl 0 rfl rfl ?_
        refine aw_iload 46 dX3_fillPlan_44 4 rfl rfl ?_
        refine aw_iload_n 47 dX3_fillPlan_46 rfl 3 rfl rfl ?_
        obtain ⟨g8, h⟩ := h
        refine aw_callV (M' := M_X3_isReady) 50 134 3 l0 [.int _, .int _] [] dX3_fillPlan_47 lk_RX3_134 mv_X3_isReady mp_X3_isReady rfl ⟨leb rfl, leb rfl⟩ rfl (ltb rfl) g8 rfl (leb rfl) (leb rfl) (leb rfl) rfl (am_X3_isReady hG h) (kkI fun v7 X6 h => ?_) (kxN KrI.no)
        refine aw_widen (cc' := 0) (ss' := 0) (leb rfl) (leb rfl) ?_
        refine aw_if_eq 64 53 dX3_fillPlan_50 rfl rfl (fun c9 => ?_) (fun c9 => ?_)
        · replace h := h.1 c9
          refine aw_iinc 67 (v := 1) (lv' := [(4, _), (0, _), (1, _), (2, _), (3, _)]) dX3_fillPlan_64 4 rfl kI_1 (ltb rfl) rfl rfl ?_
          refine aw_goto 24 dX3_fillPlan_67 rfl ?_
          exact aw_pick [1, 2, 3, 4, 0] rfl h
        · replace h := h.2 c9
          refine aw_aload_n 54 dX3_fillPlan_53 rfl 1 rfl rfl ?_
          refine aw_aload_n 55 dX3_fillPlan_54 rfl 0 rfl rfl ?_
          refine aw_iload 57 dX3_fillPlan_55 4 rfl rfl ?_
          refine aw_iload_n 58 dX3_fillPlan_57 rfl 3 rfl rfl ?_
          obtain ⟨g12, h⟩ := h
          refine aw_callV (M' := M_X3_spokenAt) 61 85 3 l0 [.int _, .int _] [.ref _] dX3_fillPlan_58 lk_RX3_85 mv_X3_spokenAt mp_X3_spokenAt rfl ⟨leb rfl, leb rfl⟩ rfl (ltb rfl) g12 rfl (leb rfl) (leb rfl) (leb rfl) rfl (am_X3_spokenAt hG h) (kkI fun v11 X10 h => ?_) (kxN KrI.no)
          refine aw_widen (cc' := 0) (ss' := 0) (leb rfl) (leb rfl) ?_
          obtain ⟨g14, h⟩ := h
          refine aw_callV (M' := M_X2_add) 64 142 2 l1 [.int _] [] dX3_fillPlan_61 lk_RX3_142 mv_X2_add mp_X2_add rfl ⟨leb rfl, leb rfl⟩ rfl (ltb rfl) g14 rfl (leb rfl) (leb rfl) (leb rfl) rfl (am_X2_add hG h) (kkV fun X13 h => ?_) (kxN KrV.no)
          refine aw_widen (cc' := 0) (ss' := 0) (leb rfl) (leb rfl) ?_
          refine aw_iinc 67 (v := 1) (lv' := [(4, _), (0, _), (1, _), (2, _), (3, _)]) dX3_fillPlan_64 4 rfl kI_1 (ltb rfl) rfl rfl ?_
          refine aw_goto 24 dX3_fillPlan_67 rfl ?_
          exact aw_pick [1, 2, 3, 4, 0] rfl h)
set_option maxRecDepth 20000 in
theorem am_X3_fillPlan {G : GG} (hG : G.1.stackTraces = false) {l0 : Nat} {l1 : Nat} {l2 : Int32} {l3 : Int32} {X : XH} {K : XH → Prop} (h : w_X3_fillPlan l0 l1 l2 l3 X K) : AM G M_X3_fillPlan X [.ref l0, .ref l1, .int l2, .int l3] (KrV K) := AM_of (by decide +kernel) rfl (leb rfl) hG (by
  show AW G M_X3_fillPlan 0 [(0, .ref l0), (1, .ref l1), (2, .int l2), (3, .int l3)] [] X 0 0 _
  unfold w_X3_fillPlan at h
  refine aw_aload_n 1 dX3_fillPlan_0 rfl 1 rfl rfl ?_
  refine aw_ifnonnull 5 dX3_fillPlan_1 rfl ?_
  refine aw_aload_n 6 dX3_fillPlan_5 rfl 1 rfl rfl ?_
  refine aw_aload_n 7 dX3_fillPlan_6 rfl 0 rfl rfl ?_
  refine aw_iload_n 8 dX3_fillPlan_7 rfl 2 rfl rfl ?_
  refine aw_iload_n 9 dX3_fillPlan_8 rfl 3 rfl rfl ?_
  obtain ⟨g3, h⟩ := h
  refine aw_callV (M' := M_X3_strengthAt) 12 111 3 l0 [.int _, .int _] [.ref _] dX3_fillPlan_9 lk_RX3_111 mv_X3_strengthAt mp_X3_strengthAt rfl ⟨leb rfl, leb rfl⟩ rfl (ltb rfl) g3 rfl (leb rfl) (leb rfl) (leb rfl) rfl (am_X3_strengthAt hG h) (kkI fun v2 X1 h => ?_) (kxN KrI.no)
  refine aw_widen (cc' := 0) (ss' := 0) (leb rfl) (leb rfl) ?_
  refine aw_aload_n 13 dX3_fillPlan_12 rfl 0 rfl rfl ?_
  refine aw_iload_n 14 dX3_fillPlan_13 rfl 2 rfl rfl ?_
  refine aw_iload_n 15 dX3_fillPlan_14 rfl 3 rfl rfl ?_
  obtain ⟨g6, h⟩ := h
  refine aw_callV (M' := M_X3_staminaAt) 18 128 3 l0 [.int _, .int _] [.int _, .ref _] dX3_fillPlan_15 lk_RX3_128 mv_X3_staminaAt mp_X3_staminaAt rfl ⟨leb rfl, leb rfl⟩ rfl (ltb rfl) g6 rfl (leb rfl) (leb rfl) (leb rfl) rfl (am_X3_staminaAt hG h) (kkI fun v5 X4 h => ?_) (kxN KrI.no)
  refine aw_widen (cc' := 0) (ss' := 0) (leb rfl) (leb rfl) ?_
  obtain ⟨g8, h⟩ := h
  refine aw_callV (M' := M_X2_start) 21 137 2 l1 [.int _, .int _] [] dX3_fillPlan_18 lk_RX3_137 mv_X2_start mp_X2_start rfl ⟨leb rfl, leb rfl⟩ rfl (ltb rfl) g8 rfl (leb rfl) (leb rfl) (leb rfl) rfl (am_X2_start hG h) (kkV fun X7 h => ?_) (kxN KrV.no)
  refine aw_widen (cc' := 0) (ss' := 0) (leb rfl) (leb rfl) ?_
  refine aw_iconst 22 (v := 0) dX3_fillPlan_21 kI_0 rfl ?_
  refine aw_istore 24 (lv' := [(4, _), (0, _), (1, _), (2, _), (3, _)]) dX3_fillPlan_22 (ltb rfl) rfl rfl ?_
  exact aw_pick [1, 2, 3, 4, 0] rfl (aw_X3_fillPlan_24 hG  h))
set_option maxRecDepth 20000 in
theorem aw_X2_hasTooLong_2 {G : GG} (hG : G.1.stackTraces = false)  {l0 : Nat} {l1 : Int32} {X : XH} {K : Int32 → XH → Prop}  (h : w_X2_hasTooLong_2  l0 l1 X K) : AW G M_X2_hasTooLong 2 [(0, .ref l0), (1, .int l1)] [] X 0 0 (KrI K) :=
  h (fun l0 l1 X => AW G M_X2_hasTooLong 2 [(0, .ref l0), (1, .int l1)] [] X 0 0 (KrI K)) (fun l0 l1 X h => by
    refine aw_iload_n 3 dX2_hasTooLong_2 rfl 1 rfl rfl ?_
    refine aw_aload_n 4 dX2_hasTooLong_3 rfl 0 rfl rfl ?_
    obtain ⟨g1, h⟩ := h
    refine aw_getI 7 dX2_hasTooLong_4 fl_RX2_18 rfl g1 rfl ?_
    refine aw_icmp_ge 33 10 dX2_hasTooLong_7 rfl rfl (fun c2 => ?_) (fun c2 => ?_)
    · replace h := h.1 c2
      refine aw_iconst 34 (v := 0) dX2_hasTooLong_33 kI_0 rfl ?_
      exact aw_ireturn (ty := .boolean) dX2_hasTooLong_34 rfl rfl (leb rfl) (leb rfl) ⟨_, rfl, h⟩
    · replace h := h.2 c2
      refine aw_aload_n 11 dX2_hasTooLong_10 rfl 0 rfl rfl ?_
      obtain ⟨g3, h⟩ := h
      refine aw_getR 14 dX2_hasTooLong_11 fl_RX2_9 rfl g1 g3 rfl ?_
      refine aw_iload_n 15 dX2_hasTooLong_14 rfl 1 rfl rfl ?_
      refine aw_callSN (M' := M_X4_at) 18 32 [.ref _, .int _] [] dX2_hasTooLong_15 (by decide) ms_X4_at mp_X4_at rfl ⟨leb rfl, leb rfl⟩ rfl (leb rfl) (leb rfl) (leb rfl) rfl (am_X4_at hG h) (kkI fun v5 X4 h => ?_) KrI.no
      refine aw_widen (cc' := 0) (ss' := 0) (leb rfl) (leb rfl) ?_
      refine aw_aload_n 19 dX2_hasTooLong_18 rfl 0 rfl rfl ?_
      obtain ⟨g6, h⟩ := h
      refine aw_getI 22 dX2_hasTooLong_19 fl_RX2_25 rfl g6 rfl ?_
      refine aw_icmp_le 27 25 dX2_hasTooLong_22 rfl rfl (fun c7 => ?_) (fun c7 => ?_)
      · replace h := h.1 c7
        refine aw_iinc 30 (v := 1) (lv' := [(1, _), (0, _)]) dX2_hasTooLong_27 1 rfl kI_1 (ltb rfl) rfl rfl ?_
        refine aw_goto 2 dX2_hasTooLong_30 rfl ?_
        exact aw_pick [1, 0] rfl h
      · replace h := h.2 c7
        refine aw_iconst 26 (v := 1) dX2_hasTooLong_25 kI_1 rfl ?_
        exact aw_ireturn (ty := .boolean) dX2_hasTooLong_26 rfl rfl (leb rfl) (leb rfl) ⟨_, rfl, h⟩)
set_option maxRecDepth 20000 in
theorem am_X2_hasTooLong {G : GG} (hG : G.1.stackTraces = false) {l0 : Nat} {X : XH} {K : Int32 → XH → Prop} (h : w_X2_hasTooLong l0 X K) : AM G M_X2_hasTooLong X [.ref l0] (KrI K) := AM_of (by decide +kernel) rfl (leb rfl) hG (by
  show AW G M_X2_hasTooLong 0 [(0, .ref l0)] [] X 0 0 _
  unfold w_X2_hasTooLong at h
  refine aw_iconst 1 (v := 0) dX2_hasTooLong_0 kI_0 rfl ?_
  refine aw_istore_n 2 (lv' := [(1, _), (0, _)]) dX2_hasTooLong_1 rfl (ltb rfl) rfl rfl ?_
  exact aw_pick [1, 0] rfl (aw_X2_hasTooLong_2 hG  h))
set_option maxRecDepth 20000 in
theorem am_X4_checkPlan {G : GG} (hG : G.1.stackTraces = false) {l0 : Nat} {l1 : Int32} {l2 : Int32} {X : XH} {K : XH → Prop} {KX : String → XH → Prop} (h : w_X4_checkPlan l0 l1 l2 X K KX) : AM G M_X4_checkPlan X [.ref l0, .int l1, .int l2] (KxT (KrV K) KX) := AM_of (by decide +kernel) rfl (leb rfl) hG (by
  show AW G M_X4_checkPlan 0 [(0, .ref l0), (1, .int l1), (2, .int l2)] [] X 0 0 _
  unfold w_X4_checkPlan at h
  refine aw_aload_n 1 dX4_checkPlan_0 rfl 0 rfl rfl ?_
  obtain ⟨g1, h⟩ := h
  obtain ⟨g2, h⟩ := h
  refine aw_getR 4 dX4_checkPlan_1 fl_RX4_10 rfl g1 g2 rfl ?_
  refine aw_aload_n 5 dX4_checkPlan_4 rfl 0 rfl rfl ?_
  obtain ⟨g3, h⟩ := h
  refine aw_getR 8 dX4_checkPlan_5 fl_RX4_41 rfl g1 g3 rfl ?_
  refine aw_iload_n 9 dX4_checkPlan_8 rfl 1 rfl rfl ?_
  refine aw_iload_n 10 dX4_checkPlan_9 rfl 2 rfl rfl ?_
  obtain ⟨g5, h⟩ := h
  refine aw_callV (M' := M_X3_fillPlan) 13 401 3 (hR X l0 0) [.ref _, .int _, .int _] [] dX4_checkPlan_10 lk_RX4_401 mv_X3_fillPlan mp_X3_fillPlan rfl ⟨leb rfl, leb rfl⟩ rfl (ltb rfl) g5 rfl (leb rfl) (leb rfl) (leb rfl) rfl (am_X3_fillPlan hG h) (kkV fun X4 h => ?_) (kxN KrV.no)
  refine aw_widen (cc' := 0) (ss' := 0) (leb rfl) (leb rfl) ?_
  refine aw_aload_n 14 dX4_checkPlan_13 rfl 0 rfl rfl ?_
  obtain ⟨g6, h⟩ := h
  obtain ⟨g7, h⟩ := h
  refine aw_getR 17 dX4_checkPlan_14 fl_RX4_41 rfl g6 g7 rfl ?_
  obtain ⟨g10, h⟩ := h
  refine aw_callV (M' := M_X2_hasTooLong) 20 405 2 (hR X4 l0 5) [] [] dX4_checkPlan_17 lk_RX4_405 mv_X2_hasTooLong mp_X2_hasTooLong rfl ⟨leb rfl, leb rfl⟩ rfl (ltb rfl) g10 rfl (leb rfl) (leb rfl) (leb rfl) rfl (am_X2_hasTooLong hG h) (kkI fun v9 X8 h => ?_) (kxN KrI.no)
  refine aw_widen (cc' := 0) (ss' := 0) (leb rfl) (leb rfl) ?_
  refine aw_if_eq 34 23 dX4_checkPlan_20 rfl rfl (fun c11 => ?_) (fun c11 => ?_)
  · replace h := h.1 c11
    exact aw_return dX4_checkPlan_34 rfl (leb rfl) (leb rfl) (Or.inl ⟨rfl, h⟩)
  · replace h := h.2 c11
    exact aw_throw xcS 60 438 64 rfl th_xcS (by decide) (Or.inr ⟨dX4_checkPlan_23, dX4_checkPlan_26, dX4_checkPlan_27, dX4_checkPlan_30, dX4_checkPlan_33⟩) rfl (ltb rfl) (leb rfl) (leb rfl) (leb rfl) (Or.inr ⟨_, rfl, h⟩))
set_option maxRecDepth 20000 in
theorem aw_X2_goThrough_18 {G : GG} (hG : G.1.stackTraces = false)  {l0 : Nat} {l1 : Int32} {l2 : Int32} {l3 : Int32} {X : XH} {K : Int32 → XH → Prop}  (h : w_X2_goThrough_18  l0 l1 l2 l3 X K) : AW G M_X2_goThrough 18 [(0, .ref l0), (1, .int l1), (2, .int l2), (3, .int l3)] [] X 0 0 (KrI K) :=
  h (fun l0 l1 l2 l3 X => AW G M_X2_goThrough 18 [(0, .ref l0), (1, .int l1), (2, .int l2), (3, .int l3)] [] X 0 0 (KrI K)) (fun l0 l1 l2 l3 X h => by
    refine aw_iload_n 19 dX2_goThrough_18 rfl 3 rfl rfl ?_
    refine aw_aload_n 20 dX2_goThrough_19 rfl 0 rfl rfl ?_
    obtain ⟨g1, h⟩ := h
    refine aw_getI 23 dX2_goThrough_20 fl_RX2_18 rfl g1 rfl ?_
    refine aw_icmp_ge 61 26 dX2_goThrough_23 rfl rfl (fun c2 => ?_) (fun c2 => ?_)
    · replace h := h.1 c2
      refine aw_iload_n 62 dX2_goThrough_61 rfl 1 rfl rfl ?_
      exact aw_ireturn (ty := .int) dX2_goThrough_62 rfl rfl (leb rfl) (leb rfl) ⟨_, rfl, h⟩
    · replace h := h.2 c2
      refine aw_aload_n 27 dX2_goThrough_26 rfl 0 rfl rfl ?_
      obtain ⟨g3, h⟩ := h
      refine aw_getR 30 dX2_goThrough_27 fl_RX2_9 rfl g1 g3 rfl ?_
      refine aw_iload_n 31 dX2_goThrough_30 rfl 3 rfl rfl ?_
      refine aw_callSN (M' := M_X4_at) 34 32 [.ref _, .int _] [] dX2_goThrough_31 (by decide) ms_X4_at mp_X4_at rfl ⟨leb rfl, leb rfl⟩ rfl (leb rfl) (leb rfl) (leb rfl) rfl (am_X4_at hG h) (kkI fun v5 X4 h => ?_) KrI.no
      refine aw_widen (cc' := 0) (ss' := 0) (leb rfl) (leb rfl) ?_
      refine aw_istore 36 (lv' := [(4, _), (0, _), (1, _), (2, _), (3, _)]) dX2_goThrough_34 (ltb rfl) rfl rfl ?_
      refine aw_iload 38 dX2_goThrough_36 0 rfl rfl ?_
      refine aw_iload_n 39 dX2_goThrough_38 rfl 3 rfl rfl ?_
      refine aw_icmp_le 50 42 dX2_goThrough_39 rfl rfl (fun c6 => ?_) (fun c6 => ?_)
      · replace h := h.1 c6
        refine aw_iload_n 51 dX2_goThrough_50 rfl 3 rfl rfl ?_
        refine aw_iload 53 dX2_goThrough_51 0 rfl rfl ?_
        refine aw_isub 54 dX2_goThrough_53 rfl ?_
        refine aw_istore_n 55 (lv' := [(2, _), (4, _), (0, _), (1, _), (3, _)]) dX2_goThrough_54 rfl (ltb rfl) rfl rfl ?_
        refine aw_iinc 58 (v := 1) (lv' := [(3, _), (2, _), (4, _), (0, _), (1, _)]) dX2_goThrough_55 4 rfl kI_1 (ltb rfl) rfl rfl ?_
        refine aw_goto 18 dX2_goThrough_58 rfl ?_
        exact aw_pick [3, 4, 1, 0] rfl h
      · replace h := h.2 c6
        refine aw_iinc 45 (v := 1) (lv' := [(1, _), (4, _), (0, _), (2, _), (3, _)]) dX2_goThrough_42 2 rfl kI_1 (ltb rfl) rfl rfl ?_
        refine aw_aload_n 46 dX2_goThrough_45 rfl 2 rfl rfl ?_
        obtain ⟨g7, h⟩ := h
        refine aw_getI 49 dX2_goThrough_46 fl_RX2_25 rfl g7 rfl ?_
        refine aw_istore_n 50 (lv' := [(2, _), (1, _), (4, _), (0, _), (3, _)]) dX2_goThrough_49 rfl (ltb rfl) rfl rfl ?_
        refine aw_iload_n 51 dX2_goThrough_50 rfl 0 rfl rfl ?_
        refine aw_iload 53 dX2_goThrough_51 2 rfl rfl ?_
        refine aw_isub 54 dX2_goThrough_53 rfl ?_
        refine aw_istore_n 55 (lv' := [(2, _), (1, _), (4, _), (0, _), (3, _)]) dX2_goThrough_54 rfl (ltb rfl) rfl rfl ?_
        refine aw_iinc 58 (v := 1) (lv' := [(3, _), (2, _), (1, _), (4, _), (0, _)]) dX2_goThrough_55 4 rfl kI_1 (ltb rfl) rfl rfl ?_
        refine aw_goto 18 dX2_goThrough_58 rfl ?_
        exact aw_pick [4, 2, 1, 0] rfl h)
set_option maxRecDepth 20000 in
theorem am_X2_goThrough {G : GG} (hG : G.1.stackTraces = false) {l0 : Nat} {X : XH} {K : Int32 → XH → Prop} (h : w_X2_goThrough l0 X K) : AM G M_X2_goThrough X [.ref l0] (KrI K) := AM_of (by decide +kernel) rfl (leb rfl) hG (by
  show AW G M_X2_goThrough 0 [(0, .ref l0)] [] X 0 0 _
  unfold w_X2_goThrough at h
  refine aw_aload_n 1 dX2_goThrough_0 rfl 0 rfl rfl ?_
  obtain ⟨g1, h⟩ := h
  refine aw_getI 4 dX2_goThrough_1 fl_RX2_18 rfl g1 rfl ?_
  refine aw_if_ne 9 7 dX2_goThrough_4 rfl rfl (fun c2 => ?_) (fun c2 => ?_)
  · replace h := h.1 c2
    refine aw_iconst 10 (v := 1) dX2_goThrough_9 kI_1 rfl ?_
    refine aw_istore_n 11 (lv' := [(1, _), (0, _)]) dX2_goThrough_10 rfl (ltb rfl) rfl rfl ?_
    refine aw_aload_n 12 dX2_goThrough_11 rfl 1 rfl rfl ?_
    refine aw_getI 15 dX2_goThrough_12 fl_RX2_22 rfl g1 rfl ?_
    refine aw_istore_n 16 (lv' := [(2, _), (1, _), (0, _)]) dX2_goThrough_15 rfl (ltb rfl) rfl rfl ?_
    refine aw_iconst 17 (v := 0) dX2_goThrough_16 kI_0 rfl ?_
    refine aw_istore_n 18 (lv' := [(3, _), (2, _), (1, _), (0, _)]) dX2_goThrough_17 rfl (ltb rfl) rfl rfl ?_
    exact aw_pick [3, 2, 1, 0] rfl (aw_X2_goThrough_18 hG  h)
  · replace h := h.2 c2
    refine aw_iconst 8 (v := 0) dX2_goThrough_7 kI_0 rfl ?_
    exact aw_ireturn (ty := .int) dX2_goThrough_8 rfl rfl (leb rfl) (leb rfl) ⟨_, rfl, h⟩)
set_option maxRecDepth 20000 in
theorem am_X4_sessionsByGoing {G : GG} (hG : G.1.stackTraces = false) {l0 : Nat} {l1 : Int32} {l2 : Int32} {X : XH} {K : Int32 → XH → Prop} {KX : String → XH → Prop} (h : w_X4_sessionsByGoing l0 l1 l2 X K KX) : AM G M_X4_sessionsByGoing X [.ref l0, .int l1, .int l2] (KxT (KrI K) KX) := AM_of (by decide +kernel) rfl (leb rfl) hG (by
  show AW G M_X4_sessionsByGoing 0 [(0, .ref l0), (1, .int l1), (2, .int l2)] [] X 0 0 _
  unfold w_X4_sessionsByGoing at h
  refine aw_iload_n 1 dX4_sessionsByGoing_0 rfl 1 rfl rfl ?_
  refine aw_iload_n 2 dX4_sessionsByGoing_1 rfl 2 rfl rfl ?_
  refine aw_callS (M' := M_X4_checkVoice) 5 150 [.int _, .int _] [] dX4_sessionsByGoing_2 lk_RX4_150 ms_X4_checkVoice mp_X4_checkVoice rfl ⟨leb rfl, leb rfl⟩ rfl (leb rfl) (leb rfl) (leb rfl) rfl (am_X4_checkVoice hG h) (kkT (kkV fun X1 h => ?_)) (kxT KrV.no fun E X h => at_out rfl (leb rfl) (leb rfl) (Or.inr ⟨_, rfl, h⟩))
  refine aw_widen (cc' := 2) (ss' := 12) (leb rfl) (leb rfl) ?_
  refine aw_aload_n 6 dX4_sessionsByGoing_5 rfl 0 rfl rfl ?_
  refine aw_iload_n 7 dX4_sessionsByGoing_6 rfl 1 rfl rfl ?_
  refine aw_iload_n 8 dX4_sessionsByGoing_7 rfl 2 rfl rfl ?_
  obtain ⟨g3, h⟩ := h
  refine aw_callV (M' := M_X4_checkPlan) 11 298 4 l0 [.int _, .int _] [] dX4_sessionsByGoing_8 lk_RX4_298 mv_X4_checkPlan mp_X4_checkPlan rfl ⟨leb rfl, leb rfl⟩ rfl (ltb rfl) g3 rfl (leb rfl) (leb rfl) (leb rfl) rfl (am_X4_checkPlan hG h) (kkT (kkV fun X2 h => ?_)) (kxT KrV.no fun E X h => at_out rfl (leb rfl) (leb rfl) (Or.inr ⟨_, rfl, h⟩))
  refine aw_widen (cc' := 3) (ss' := 18) (leb rfl) (leb rfl) ?_
  refine aw_aload_n 12 dX4_sessionsByGoing_11 rfl 0 rfl rfl ?_
  obtain ⟨g4, h⟩ := h
  obtain ⟨g5, h⟩ := h
  refine aw_getR 15 dX4_sessionsByGoing_12 fl_RX4_41 rfl g4 g5 rfl ?_
  obtain ⟨g8, h⟩ := h
  refine aw_callV (M' := M_X2_goThrough) 18 301 2 (hR X2 l0 5) [] [] dX4_sessionsByGoing_15 lk_RX4_301 mv_X2_goThrough mp_X2_goThrough rfl ⟨leb rfl, leb rfl⟩ rfl (ltb rfl) g8 rfl (leb rfl) (leb rfl) (leb rfl) rfl (am_X2_goThrough hG h) (kkI fun v7 X6 h => ?_) (kxN KrI.no)
  refine aw_widen (cc' := 3) (ss' := 18) (leb rfl) (leb rfl) ?_
  exact aw_ireturn (ty := .int) dX4_sessionsByGoing_18 rfl rfl (leb rfl) (leb rfl) (Or.inl ⟨_, rfl, h⟩))
set_option maxRecDepth 20000 in
theorem am_L_sessionsByGoing {G : GG} (hG : G.1.stackTraces = false) {l0 : Nat} {l1 : Int32} {l2 : Int32} {X : XH} {K : Int32 → XH → Prop} (h : w_L_sessionsByGoing l0 l1 l2 X K) : AM G M_L_sessionsByGoing X [.ref l0, .int l1, .int l2] (KrI K) := AM_ofH (by decide +kernel) (0, 6, 7, 15) [(0, 6, 11, 19)] rfl (leb rfl) hG (by
  show AW G M_L_sessionsByGoing 0 [(0, .ref l0), (1, .int l1), (2, .int l2)] [] X 0 0 _
  unfold w_L_sessionsByGoing at h
  refine aw_aload_n 1 dL_sessionsByGoing_0 rfl 0 rfl rfl ?_
  refine aw_iload_n 2 dL_sessionsByGoing_1 rfl 1 rfl rfl ?_
  refine aw_iload_n 3 dL_sessionsByGoing_2 rfl 2 rfl rfl ?_
  obtain ⟨g3, h⟩ := h
  refine aw_callV (M' := M_X4_sessionsByGoing) 6 109 4 l0 [.int _, .int _] [] dL_sessionsByGoing_3 lk_RL_109 mv_X4_sessionsByGoing mp_X4_sessionsByGoing rfl ⟨leb rfl, leb rfl⟩ rfl (ltb rfl) g3 rfl (leb rfl) (leb rfl) (leb rfl) rfl (am_X4_sessionsByGoing hG h) (kkT (kkI fun v2 X1 h => ?_)) (kxT KrI.no fun E X1 h => ?_)
  · refine aw_widen (cc' := 3) (ss' := 18) (leb rfl) (leb rfl) ?_
    exact aw_ireturn (ty := .int) dL_sessionsByGoing_6 rfl rfl (leb rfl) (leb rfl) ⟨_, rfl, h⟩
  · obtain ⟨hE, h⟩ := h
    rcases hE with rfl | rfl
    · refine aw_atc (lv' := [(0, .ref _), (1, .int _), (2, .int _)]) [] (0, 6, 7, 15) [(0, 6, 11, 19)] rfl (fun z hz => nomatch hz) (by decide) (by decide) (tk3 (i := 40) (by decide +kernel) rfl) (by decide) 3 1 8 (Or.inl ⟨3, rfl, dL_sessionsByGoing_7, rfl⟩) (ltb rfl) rfl ?_
      refine aw_widen (cc' := 3) (ss' := 18) (leb rfl) (leb rfl) ?_
      replace h := h.1 rfl
      refine aw_bipush 10 (v := -2) dL_sessionsByGoing_8 kB_m2 rfl ?_
      exact aw_ireturn (ty := .int) dL_sessionsByGoing_10 rfl rfl (leb rfl) (leb rfl) ⟨_, rfl, h⟩
    · refine aw_atc (lv' := [(0, .ref _), (1, .int _), (2, .int _)]) [(0, 6, 7, 15)] (0, 6, 11, 19) [] rfl (by intro z hz; simp only [List.mem_cons, List.not_mem_nil, or_false] at hz; rcases hz with rfl <;> first | exact ⟨by decide, xcI, tk3 (i := 40) (by decide +kernel) rfl, by decide⟩) (by decide) (by decide) (tk3 (i := 42) (by decide +kernel) rfl) (by decide) 3 1 12 (Or.inl ⟨3, rfl, dL_sessionsByGoing_11, rfl⟩) (ltb rfl) rfl ?_
      refine aw_widen (cc' := 3) (ss' := 18) (leb rfl) (leb rfl) ?_
      replace h := h.2 rfl
      refine aw_bipush 14 (v := -4) dL_sessionsByGoing_12 kB_m4 rfl ?_
      exact aw_ireturn (ty := .int) dL_sessionsByGoing_14 rfl rfl (leb rfl) (leb rfl) ⟨_, rfl, h⟩)
set_option maxRecDepth 20000 in
theorem am_X4_staminaOf {G : GG} (hG : G.1.stackTraces = false) {l0 : Nat} {l1 : Int32} {l2 : Int32} {X : XH} {K : Int32 → XH → Prop} {KX : String → XH → Prop} (h : w_X4_staminaOf l0 l1 l2 X K KX) : AM G M_X4_staminaOf X [.ref l0, .int l1, .int l2] (KxT (KrI K) KX) := AM_of (by decide +kernel) rfl (leb rfl) hG (by
  show AW G M_X4_staminaOf 0 [(0, .ref l0), (1, .int l1), (2, .int l2)] [] X 0 0 _
  unfold w_X4_staminaOf at h
  refine aw_iload_n 1 dX4_staminaOf_0 rfl 1 rfl rfl ?_
  refine aw_iload_n 2 dX4_staminaOf_1 rfl 2 rfl rfl ?_
  refine aw_callS (M' := M_X4_checkVoice) 5 150 [.int _, .int _] [] dX4_staminaOf_2 lk_RX4_150 ms_X4_checkVoice mp_X4_checkVoice rfl ⟨leb rfl, leb rfl⟩ rfl (leb rfl) (leb rfl) (leb rfl) rfl (am_X4_checkVoice hG h) (kkT (kkV fun X1 h => ?_)) (kxT KrV.no fun E X h => at_out rfl (leb rfl) (leb rfl) (Or.inr ⟨_, rfl, h⟩))
  refine aw_widen (cc' := 2) (ss' := 12) (leb rfl) (leb rfl) ?_
  refine aw_aload_n 6 dX4_staminaOf_5 rfl 0 rfl rfl ?_
  obtain ⟨g2, h⟩ := h
  obtain ⟨g3, h⟩ := h
  refine aw_getR 9 dX4_staminaOf_6 fl_RX4_10 rfl g2 g3 rfl ?_
  refine aw_iload_n 10 dX4_staminaOf_9 rfl 1 rfl rfl ?_
  refine aw_iload_n 11 dX4_staminaOf_10 rfl 2 rfl rfl ?_
  obtain ⟨g6, h⟩ := h
  refine aw_callV (M' := M_X3_staminaAt) 14 158 3 (hR X1 l0 0) [.int _, .int _] [] dX4_staminaOf_11 lk_RX4_158 mv_X3_staminaAt mp_X3_staminaAt rfl ⟨leb rfl, leb rfl⟩ rfl (ltb rfl) g6 rfl (leb rfl) (leb rfl) (leb rfl) rfl (am_X3_staminaAt hG h) (kkI fun v5 X4 h => ?_) (kxN KrI.no)
  refine aw_widen (cc' := 2) (ss' := 12) (leb rfl) (leb rfl) ?_
  exact aw_ireturn (ty := .int) dX4_staminaOf_14 rfl rfl (leb rfl) (leb rfl) (Or.inl ⟨_, rfl, h⟩))
set_option maxRecDepth 20000 in
theorem am_L_staminaOf {G : GG} (hG : G.1.stackTraces = false) {l0 : Nat} {l1 : Int32} {l2 : Int32} {X : XH} {K : Int32 → XH → Prop} (h : w_L_staminaOf l0 l1 l2 X K) : AM G M_L_staminaOf X [.ref l0, .int l1, .int l2] (KrI K) := AM_ofH (by decide +kernel) (0, 6, 7, 15) [] rfl (leb rfl) hG (by
  show AW G M_L_staminaOf 0 [(0, .ref l0), (1, .int l1), (2, .int l2)] [] X 0 0 _
  unfold w_L_staminaOf at h
  refine aw_aload_n 1 dL_staminaOf_0 rfl 0 rfl rfl ?_
  refine aw_iload_n 2 dL_staminaOf_1 rfl 1 rfl rfl ?_
  refine aw_iload_n 3 dL_staminaOf_2 rfl 2 rfl rfl ?_
  obtain ⟨g3, h⟩ := h
  refine aw_callV (M' := M_X4_staminaOf) 6 100 4 l0 [.int _, .int _] [] dL_staminaOf_3 lk_RL_100 mv_X4_staminaOf mp_X4_staminaOf rfl ⟨leb rfl, leb rfl⟩ rfl (ltb rfl) g3 rfl (leb rfl) (leb rfl) (leb rfl) rfl (am_X4_staminaOf hG h) (kkT (kkI fun v2 X1 h => ?_)) (kxT KrI.no fun E X1 h => ?_)
  · refine aw_widen (cc' := 2) (ss' := 12) (leb rfl) (leb rfl) ?_
    exact aw_ireturn (ty := .int) dL_staminaOf_6 rfl rfl (leb rfl) (leb rfl) ⟨_, rfl, h⟩
  · obtain ⟨hE, h⟩ := h
    rcases hE with rfl
    refine aw_atc (lv' := [(0, .ref _), (1, .int _), (2, .int _)]) [] (0, 6, 7, 15) [] rfl (fun z hz => nomatch hz) (by decide) (by decide) (tk3 (i := 40) (by decide +kernel) rfl) (by decide) 3 1 8 (Or.inl ⟨3, rfl, dL_staminaOf_7, rfl⟩) (ltb rfl) rfl ?_
    refine aw_widen (cc' := 2) (ss' := 12) (leb rfl) (leb rfl) ?_
    replace h := h rfl
    refine aw_bipush 10 (v := -2) dL_staminaOf_8 kB_m2 rfl ?_
    exact aw_ireturn (ty := .int) dL_staminaOf_10 rfl rfl (leb rfl) (leb rfl) ⟨_, rfl, h⟩)
set_option maxRecDepth 20000 in
theorem am_X4_strengthLeft {G : GG} (hG : G.1.stackTraces = false) {l0 : Nat} {l1 : Int32} {l2 : Int32} {X : XH} {K : Int32 → XH → Prop} {KX : String → XH → Prop} (h : w_X4_strengthLeft l0 l1 l2 X K KX) : AM G M_X4_strengthLeft X [.ref l0, .int l1, .int l2] (KxT (KrI K) KX) := AM_of (by decide +kernel) rfl (leb rfl) hG (by
  show AW G M_X4_strengthLeft 0 [(0, .ref l0), (1, .int l1), (2, .int l2)] [] X 0 0 _
  unfold w_X4_strengthLeft at h
  refine aw_iload_n 1 dX4_strengthLeft_0 rfl 1 rfl rfl ?_
  refine aw_iload_n 2 dX4_strengthLeft_1 rfl 2 rfl rfl ?_
  refine aw_callS (M' := M_X4_checkVoice) 5 150 [.int _, .int _] [] dX4_strengthLeft_2 lk_RX4_150 ms_X4_checkVoice mp_X4_checkVoice rfl ⟨leb rfl, leb rfl⟩ rfl (leb rfl) (leb rfl) (leb rfl) rfl (am_X4_checkVoice hG h) (kkT (kkV fun X1 h => ?_)) (kxT KrV.no fun E X h => at_out rfl (leb rfl) (leb rfl) (Or.inr ⟨_, rfl, h⟩))
  refine aw_widen (cc' := 2) (ss' := 12) (leb rfl) (leb rfl) ?_
  refine aw_aload_n 6 dX4_strengthLeft_5 rfl 0 rfl rfl ?_
  obtain ⟨g2, h⟩ := h
  obtain ⟨g3, h⟩ := h
  refine aw_getR 9 dX4_strengthLeft_6 fl_RX4_10 rfl g2 g3 rfl ?_
  refine aw_iload_n 10 dX4_strengthLeft_9 rfl 1 rfl rfl ?_
  refine aw_iload_n 11 dX4_strengthLeft_10 rfl 2 rfl rfl ?_
  obtain ⟨g6, h⟩ := h
  refine aw_callV (M' := M_X3_strengthAt) 14 175 3 (hR X1 l0 0) [.int _, .int _] [] dX4_strengthLeft_11 lk_RX4_175 mv_X3_strengthAt mp_X3_strengthAt rfl ⟨leb rfl, leb rfl⟩ rfl (ltb rfl) g6 rfl (leb rfl) (leb rfl) (leb rfl) rfl (am_X3_strengthAt hG h) (kkI fun v5 X4 h => ?_) (kxN KrI.no)
  refine aw_widen (cc' := 2) (ss' := 12) (leb rfl) (leb rfl) ?_
  exact aw_ireturn (ty := .int) dX4_strengthLeft_14 rfl rfl (leb rfl) (leb rfl) (Or.inl ⟨_, rfl, h⟩))
set_option maxRecDepth 20000 in
theorem am_L_strengthLeft {G : GG} (hG : G.1.stackTraces = false) {l0 : Nat} {l1 : Int32} {l2 : Int32} {X : XH} {K : Int32 → XH → Prop} (h : w_L_strengthLeft l0 l1 l2 X K) : AM G M_L_strengthLeft X [.ref l0, .int l1, .int l2] (KrI K) := AM_ofH (by decide +kernel) (0, 6, 7, 15) [] rfl (leb rfl) hG (by
  show AW G M_L_strengthLeft 0 [(0, .ref l0), (1, .int l1), (2, .int l2)] [] X 0 0 _
  unfold w_L_strengthLeft at h
  refine aw_aload_n 1 dL_strengthLeft_0 rfl 0 rfl rfl ?_
  refine aw_iload_n 2 dL_strengthLeft_1 rfl 1 rfl rfl ?_
  refine aw_iload_n 3 dL_strengthLeft_2 rfl 2 rfl rfl ?_
  obtain ⟨g3, h⟩ := h
  refine aw_callV (M' := M_X4_strengthLeft) 6 103 4 l0 [.int _, .int _] [] dL_strengthLeft_3 lk_RL_103 mv_X4_strengthLeft mp_X4_strengthLeft rfl ⟨leb rfl, leb rfl⟩ rfl (ltb rfl) g3 rfl (leb rfl) (leb rfl) (leb rfl) rfl (am_X4_strengthLeft hG h) (kkT (kkI fun v2 X1 h => ?_)) (kxT KrI.no fun E X1 h => ?_)
  · refine aw_widen (cc' := 2) (ss' := 12) (leb rfl) (leb rfl) ?_
    exact aw_ireturn (ty := .int) dL_strengthLeft_6 rfl rfl (leb rfl) (leb rfl) ⟨_, rfl, h⟩
  · obtain ⟨hE, h⟩ := h
    rcases hE with rfl
    refine aw_atc (lv' := [(0, .ref _), (1, .int _), (2, .int _)]) [] (0, 6, 7, 15) [] rfl (fun z hz => nomatch hz) (by decide) (by decide) (tk3 (i := 40) (by decide +kernel) rfl) (by decide) 3 1 8 (Or.inl ⟨3, rfl, dL_strengthLeft_7, rfl⟩) (ltb rfl) rfl ?_
    refine aw_widen (cc' := 2) (ss' := 12) (leb rfl) (leb rfl) ?_
    replace h := h rfl
    refine aw_bipush 10 (v := -2) dL_strengthLeft_8 kB_m2 rfl ?_
    exact aw_ireturn (ty := .int) dL_strengthLeft_10 rfl rfl (leb rfl) (leb rfl) ⟨_, rfl, h⟩)
set_option maxRecDepth 20000 in
theorem aw_X2_fewestFor_11 {G : GG} (hG : G.1.stackTraces = false)  {l0 : Nat} {l2 : Int32} {l3 : Int32} {l4 : Int32} {X : XH} {K : Int32 → XH → Prop}  (h : w_X2_fewestFor_11  l0 l2 l3 l4 X K) : AW G M_X2_fewestFor 11 [(0, .ref l0), (2, .int l2), (3, .int l3), (4, .int l4)] [] X 0 0 (KrI K) :=
  h (fun l0 l2 l3 l4 X => AW G M_X2_fewestFor 11 [(0, .ref l0), (2, .int l2), (3, .int l3), (4, .int l4)] [] X 0 0 (KrI K)) (fun l0 l2 l3 l4 X h => by
    refine aw_iload 13 dX2_fewestFor_11 3 rfl rfl ?_
    refine aw_if_lt 58 16 dX2_fewestFor_13 rfl rfl (fun c1 => ?_) (fun c1 => ?_)
    · replace h := h.1 c1
      refine aw_iload_n 59 dX2_fewestFor_58 rfl 2 rfl rfl ?_
      refine aw_aload_n 60 dX2_fewestFor_59 rfl 0 rfl rfl ?_
      obtain ⟨g2, h⟩ := h
      refine aw_getI 63 dX2_fewestFor_60 fl_RX2_22 rfl g2 rfl ?_
      refine aw_icmp_gt 70 66 dX2_fewestFor_63 rfl rfl (fun c3 => ?_) (fun c3 => ?_)
      · replace h := h.1 c3
        refine aw_iload_n 71 dX2_fewestFor_70 rfl 1 rfl rfl ?_
        exact aw_ireturn (ty := .int) dX2_fewestFor_71 rfl rfl (leb rfl) (leb rfl) ⟨_, rfl, h⟩
      · replace h := h.2 c3
        refine aw_iconst 67 (v := 1) dX2_fewestFor_66 kI_1 rfl ?_
        refine aw_goto 71 dX2_fewestFor_67 rfl ?_
        exact aw_ireturn (ty := .int) dX2_fewestFor_71 rfl rfl (leb rfl) (leb rfl) ⟨_, rfl, h⟩
    · replace h := h.2 c1
      refine aw_iload_n 17 dX2_fewestFor_16 rfl 2 rfl rfl ?_
      refine aw_aload_n 18 dX2_fewestFor_17 rfl 0 rfl rfl ?_
      obtain ⟨g4, h⟩ := h
      obtain ⟨g5, h⟩ := h
      refine aw_getR 21 dX2_fewestFor_18 fl_RX2_9 rfl g4 g5 rfl ?_
      refine aw_iload 23 dX2_fewestFor_21 3 rfl rfl ?_
      refine aw_callSN (M' := M_X4_at) 26 32 [.ref _, .int _] [.int _] dX2_fewestFor_23 (by decide) ms_X4_at mp_X4_at rfl ⟨leb rfl, leb rfl⟩ rfl (leb rfl) (leb rfl) (leb rfl) rfl (am_X4_at hG h) (kkI fun v7 X6 h => ?_) KrI.no
      refine aw_widen (cc' := 0) (ss' := 0) (leb rfl) (leb rfl) ?_
      refine aw_iadd 27 dX2_fewestFor_26 rfl ?_
      refine aw_istore_n 28 (lv' := [(3, _), (0, _), (2, _), (4, _)]) dX2_fewestFor_27 rfl (ltb rfl) rfl rfl ?_
      refine aw_iload_n 29 dX2_fewestFor_28 rfl 0 rfl rfl ?_
      refine aw_aload_n 30 dX2_fewestFor_29 rfl 1 rfl rfl ?_
      obtain ⟨g8, h⟩ := h
      refine aw_getI 33 dX2_fewestFor_30 fl_RX2_25 rfl g8 rfl ?_
      refine aw_icmp_gt 52 36 dX2_fewestFor_33 rfl rfl (fun c9 => ?_) (fun c9 => ?_)
      · replace h := h.1 c9
        refine aw_iinc 55 (v := -1) (lv' := [(4, _), (3, _), (0, _), (2, _)]) dX2_fewestFor_52 3 rfl kI_m1 (ltb rfl) rfl rfl ?_
        refine aw_goto 11 dX2_fewestFor_55 rfl ?_
        exact aw_pick [2, 3, 1, 0] rfl h
      · replace h := h.2 c9
        refine aw_iload_n 37 dX2_fewestFor_36 rfl 2 rfl rfl ?_
        refine aw_aload_n 38 dX2_fewestFor_37 rfl 1 rfl rfl ?_
        obtain ⟨g10, h⟩ := h
        refine aw_getR 41 dX2_fewestFor_38 fl_RX2_15 rfl g8 g10 rfl ?_
        refine aw_iload 43 dX2_fewestFor_41 3 rfl rfl ?_
        refine aw_callSN (M' := M_X4_at) 46 32 [.ref _, .int _] [.int _] dX2_fewestFor_43 (by decide) ms_X4_at mp_X4_at rfl ⟨leb rfl, leb rfl⟩ rfl (leb rfl) (leb rfl) (leb rfl) rfl (am_X4_at hG h) (kkI fun v12 X11 h => ?_) KrI.no
        refine aw_widen (cc' := 0) (ss' := 0) (leb rfl) (leb rfl) ?_
        refine aw_iconst 47 (v := 1) dX2_fewestFor_46 kI_1 rfl ?_
        refine aw_iadd 48 dX2_fewestFor_47 rfl ?_
        refine aw_mmin 51 dX2_fewestFor_48 mx_RX2_40 (leb rfl) (leb rfl) (leb rfl) (leb rfl) rfl ?_
        refine aw_istore_n 52 (lv' := [(2, _), (3, _), (0, _), (4, _)]) dX2_fewestFor_51 rfl (ltb rfl) rfl rfl ?_
        refine aw_iinc 55 (v := -1) (lv' := [(4, _), (2, _), (3, _), (0, _)]) dX2_fewestFor_52 3 rfl kI_m1 (ltb rfl) rfl rfl ?_
        refine aw_goto 11 dX2_fewestFor_55 rfl ?_
        exact aw_pick [3, 1, 2, 0] rfl h)
set_option maxRecDepth 20000 in
theorem am_X2_fewestFor {G : GG} (hG : G.1.stackTraces = false) {l0 : Nat} {l1 : Int32} {X : XH} {K : Int32 → XH → Prop} (h : w_X2_fewestFor l0 l1 X K) : AM G M_X2_fewestFor X [.ref l0, .int l1] (KrI K) := AM_of (by decide +kernel) rfl (leb rfl) hG (by
  show AW G M_X2_fewestFor 0 [(0, .ref l0), (1, .int l1)] [] X 0 0 _
  unfold w_X2_fewestFor at h
  refine aw_iload_n 1 dX2_fewestFor_0 rfl 1 rfl rfl ?_
  refine aw_iconst 2 (v := 1) dX2_fewestFor_1 kI_1 rfl ?_
  refine aw_iadd 3 dX2_fewestFor_2 rfl ?_
  refine aw_istore_n 4 (lv' := [(2, _), (0, _), (1, _)]) dX2_fewestFor_3 rfl (ltb rfl) rfl rfl ?_
  refine aw_iconst 5 (v := 0) dX2_fewestFor_4 kI_0 rfl ?_
  refine aw_istore_n 6 (lv' := [(3, _), (2, _), (0, _), (1, _)]) dX2_fewestFor_5 rfl (ltb rfl) rfl rfl ?_
  refine aw_iload_n 7 dX2_fewestFor_6 rfl 3 rfl rfl ?_
  refine aw_iconst 8 (v := 1) dX2_fewestFor_7 kI_1 rfl ?_
  refine aw_isub 9 dX2_fewestFor_8 rfl ?_
  refine aw_istore 11 (lv' := [(4, _), (3, _), (2, _), (0, _), (1, _)]) dX2_fewestFor_9 (ltb rfl) rfl rfl ?_
  exact aw_pick [3, 2, 1, 0] rfl (aw_X2_fewestFor_11 hG  h))
set_option maxRecDepth 20000 in
theorem aw_X2_fillTable_20 {G : GG} (hG : G.1.stackTraces = false)  {l0 : Nat} {l1 : Int32} {X : XH} {K : Int32 → XH → Prop}  (h : w_X2_fillTable_20  l0 l1 X K) : AW G M_X2_fillTable 20 [(0, .ref l0), (1, .int l1)] [] X 0 0 (KrI K) :=
  h (fun l0 l1 X => AW G M_X2_fillTable 20 [(0, .ref l0), (1, .int l1)] [] X 0 0 (KrI K)) (fun l0 l1 X h => by
    refine aw_iload_n 21 dX2_fillTable_20 rfl 1 rfl rfl ?_
    refine aw_aload_n 22 dX2_fillTable_21 rfl 0 rfl rfl ?_
    obtain ⟨g1, h⟩ := h
    refine aw_getI 25 dX2_fillTable_22 fl_RX2_18 rfl g1 rfl ?_
    refine aw_icmp_gt 47 28 dX2_fillTable_25 rfl rfl (fun c2 => ?_) (fun c2 => ?_)
    · replace h := h.1 c2
      refine aw_aload_n 48 dX2_fillTable_47 rfl 0 rfl rfl ?_
      obtain ⟨g3, h⟩ := h
      refine aw_getR 51 dX2_fillTable_48 fl_RX2_15 rfl g1 g3 rfl ?_
      refine aw_aload_n 52 dX2_fillTable_51 rfl 0 rfl rfl ?_
      refine aw_getI 55 dX2_fillTable_52 fl_RX2_18 rfl g1 rfl ?_
      refine aw_callSN (M' := M_X4_at) 58 32 [.ref _, .int _] [] dX2_fillTable_55 (by decide) ms_X4_at mp_X4_at rfl ⟨leb rfl, leb rfl⟩ rfl (leb rfl) (leb rfl) (leb rfl) rfl (am_X4_at hG h) (kkI fun v5 X4 h => ?_) KrI.no
      refine aw_widen (cc' := 0) (ss' := 0) (leb rfl) (leb rfl) ?_
      exact aw_ireturn (ty := .int) dX2_fillTable_58 rfl rfl (leb rfl) (leb rfl) ⟨_, rfl, h⟩
    · replace h := h.2 c2
      refine aw_aload_n 29 dX2_fillTable_28 rfl 0 rfl rfl ?_
      obtain ⟨g6, h⟩ := h
      refine aw_getR 32 dX2_fillTable_29 fl_RX2_15 rfl g1 g6 rfl ?_
      refine aw_iload_n 33 dX2_fillTable_32 rfl 1 rfl rfl ?_
      refine aw_aload_n 34 dX2_fillTable_33 rfl 0 rfl rfl ?_
      refine aw_iload_n 35 dX2_fillTable_34 rfl 1 rfl rfl ?_
      refine aw_callV (M' := M_X2_fewestFor) 38 36 2 l0 [.int _] [.int _, .ref _] dX2_fillTable_35 lk_RX2_36 mv_X2_fewestFor mp_X2_fewestFor rfl ⟨leb rfl, leb rfl⟩ rfl (ltb rfl) g1 rfl (leb rfl) (leb rfl) (leb rfl) rfl (am_X2_fewestFor hG h) (kkI fun v8 X7 h => ?_) (kxN KrI.no)
      refine aw_widen (cc' := 0) (ss' := 0) (leb rfl) (leb rfl) ?_
      refine aw_callSN (M' := M_X4_put) 41 28 [.ref _, .int _, .int _] [] dX2_fillTable_38 (by decide) ms_X4_put mp_X4_put rfl ⟨leb rfl, leb rfl⟩ rfl (leb rfl) (leb rfl) (leb rfl) rfl (am_X4_put hG h) (kkV fun X9 h => ?_) KrV.no
      refine aw_widen (cc' := 0) (ss' := 0) (leb rfl) (leb rfl) ?_
      refine aw_iinc 44 (v := 1) (lv' := [(1, _), (0, _)]) dX2_fillTable_41 1 rfl kI_1 (ltb rfl) rfl rfl ?_
      refine aw_goto 20 dX2_fillTable_44 rfl ?_
      exact aw_pick [1, 0] rfl h)
set_option maxRecDepth 20000 in
theorem am_X2_fillTable {G : GG} (hG : G.1.stackTraces = false) {l0 : Nat} {X : XH} {K : Int32 → XH → Prop} (h : w_X2_fillTable l0 X K) : AM G M_X2_fillTable X [.ref l0] (KrI K) := AM_of (by decide +kernel) rfl (leb rfl) hG (by
  show AW G M_X2_fillTable 0 [(0, .ref l0)] [] X 0 0 _
  unfold w_X2_fillTable at h
  refine aw_aload_n 1 dX2_fillTable_0 rfl 0 rfl rfl ?_
  obtain ⟨g1, h⟩ := h
  refine aw_getI 4 dX2_fillTable_1 fl_RX2_18 rfl g1 rfl ?_
  refine aw_if_ne 9 7 dX2_fillTable_4 rfl rfl (fun c2 => ?_) (fun c2 => ?_)
  · replace h := h.1 c2
    refine aw_aload_n 10 dX2_fillTable_9 rfl 0 rfl rfl ?_
    obtain ⟨g3, h⟩ := h
    refine aw_getR 13 dX2_fillTable_10 fl_RX2_15 rfl g1 g3 rfl ?_
    refine aw_iconst 14 (v := 0) dX2_fillTable_13 kI_0 rfl ?_
    refine aw_iconst 15 (v := 1) dX2_fillTable_14 kI_1 rfl ?_
    refine aw_callSN (M' := M_X4_put) 18 28 [.ref _, .int _, .int _] [] dX2_fillTable_15 (by decide) ms_X4_put mp_X4_put rfl ⟨leb rfl, leb rfl⟩ rfl (leb rfl) (leb rfl) (leb rfl) rfl (am_X4_put hG h) (kkV fun X4 h => ?_) KrV.no
    refine aw_widen (cc' := 0) (ss' := 0) (leb rfl) (leb rfl) ?_
    refine aw_iconst 19 (v := 1) dX2_fillTable_18 kI_1 rfl ?_
    refine aw_istore_n 20 (lv' := [(1, _), (0, _)]) dX2_fillTable_19 rfl (ltb rfl) rfl rfl ?_
    exact aw_pick [1, 0] rfl (aw_X2_fillTable_20 hG  h)
  · replace h := h.2 c2
    refine aw_iconst 8 (v := 0) dX2_fillTable_7 kI_0 rfl ?_
    exact aw_ireturn (ty := .int) dX2_fillTable_8 rfl rfl (leb rfl) (leb rfl) ⟨_, rfl, h⟩)
set_option maxRecDepth 20000 in
theorem am_X4_sessionsByTable {G : GG} (hG : G.1.stackTraces = false) {l0 : Nat} {l1 : Int32} {l2 : Int32} {X : XH} {K : Int32 → XH → Prop} {KX : String → XH → Prop} (h : w_X4_sessionsByTable l0 l1 l2 X K KX) : AM G M_X4_sessionsByTable X [.ref l0, .int l1, .int l2] (KxT (KrI K) KX) := AM_of (by decide +kernel) rfl (leb rfl) hG (by
  show AW G M_X4_sessionsByTable 0 [(0, .ref l0), (1, .int l1), (2, .int l2)] [] X 0 0 _
  unfold w_X4_sessionsByTable at h
  refine aw_iload_n 1 dX4_sessionsByTable_0 rfl 1 rfl rfl ?_
  refine aw_iload_n 2 dX4_sessionsByTable_1 rfl 2 rfl rfl ?_
  refine aw_callS (M' := M_X4_checkVoice) 5 150 [.int _, .int _] [] dX4_sessionsByTable_2 lk_RX4_150 ms_X4_checkVoice mp_X4_checkVoice rfl ⟨leb rfl, leb rfl⟩ rfl (leb rfl) (leb rfl) (leb rfl) rfl (am_X4_checkVoice hG h) (kkT (kkV fun X1 h => ?_)) (kxT KrV.no fun E X h => at_out rfl (leb rfl) (leb rfl) (Or.inr ⟨_, rfl, h⟩))
  refine aw_widen (cc' := 2) (ss' := 12) (leb rfl) (leb rfl) ?_
  refine aw_aload_n 6 dX4_sessionsByTable_5 rfl 0 rfl rfl ?_
  refine aw_iload_n 7 dX4_sessionsByTable_6 rfl 1 rfl rfl ?_
  refine aw_iload_n 8 dX4_sessionsByTable_7 rfl 2 rfl rfl ?_
  obtain ⟨g3, h⟩ := h
  refine aw_callV (M' := M_X4_checkPlan) 11 298 4 l0 [.int _, .int _] [] dX4_sessionsByTable_8 lk_RX4_298 mv_X4_checkPlan mp_X4_checkPlan rfl ⟨leb rfl, leb rfl⟩ rfl (ltb rfl) g3 rfl (leb rfl) (leb rfl) (leb rfl) rfl (am_X4_checkPlan hG h) (kkT (kkV fun X2 h => ?_)) (kxT KrV.no fun E X h => at_out rfl (leb rfl) (leb rfl) (Or.inr ⟨_, rfl, h⟩))
  refine aw_widen (cc' := 3) (ss' := 18) (leb rfl) (leb rfl) ?_
  refine aw_aload_n 12 dX4_sessionsByTable_11 rfl 0 rfl rfl ?_
  obtain ⟨g4, h⟩ := h
  obtain ⟨g5, h⟩ := h
  refine aw_getR 15 dX4_sessionsByTable_12 fl_RX4_41 rfl g4 g5 rfl ?_
  obtain ⟨g8, h⟩ := h
  refine aw_callV (M' := M_X2_fillTable) 18 304 2 (hR X2 l0 5) [] [] dX4_sessionsByTable_15 lk_RX4_304 mv_X2_fillTable mp_X2_fillTable rfl ⟨leb rfl, leb rfl⟩ rfl (ltb rfl) g8 rfl (leb rfl) (leb rfl) (leb rfl) rfl (am_X2_fillTable hG h) (kkI fun v7 X6 h => ?_) (kxN KrI.no)
  refine aw_widen (cc' := 3) (ss' := 18) (leb rfl) (leb rfl) ?_
  exact aw_ireturn (ty := .int) dX4_sessionsByTable_18 rfl rfl (leb rfl) (leb rfl) (Or.inl ⟨_, rfl, h⟩))
set_option maxRecDepth 20000 in
theorem am_L_sessionsByTable {G : GG} (hG : G.1.stackTraces = false) {l0 : Nat} {l1 : Int32} {l2 : Int32} {X : XH} {K : Int32 → XH → Prop} (h : w_L_sessionsByTable l0 l1 l2 X K) : AM G M_L_sessionsByTable X [.ref l0, .int l1, .int l2] (KrI K) := AM_ofH (by decide +kernel) (0, 6, 7, 15) [(0, 6, 11, 19)] rfl (leb rfl) hG (by
  show AW G M_L_sessionsByTable 0 [(0, .ref l0), (1, .int l1), (2, .int l2)] [] X 0 0 _
  unfold w_L_sessionsByTable at h
  refine aw_aload_n 1 dL_sessionsByTable_0 rfl 0 rfl rfl ?_
  refine aw_iload_n 2 dL_sessionsByTable_1 rfl 1 rfl rfl ?_
  refine aw_iload_n 3 dL_sessionsByTable_2 rfl 2 rfl rfl ?_
  obtain ⟨g3, h⟩ := h
  refine aw_callV (M' := M_X4_sessionsByTable) 6 112 4 l0 [.int _, .int _] [] dL_sessionsByTable_3 lk_RL_112 mv_X4_sessionsByTable mp_X4_sessionsByTable rfl ⟨leb rfl, leb rfl⟩ rfl (ltb rfl) g3 rfl (leb rfl) (leb rfl) (leb rfl) rfl (am_X4_sessionsByTable hG h) (kkT (kkI fun v2 X1 h => ?_)) (kxT KrI.no fun E X1 h => ?_)
  · refine aw_widen (cc' := 3) (ss' := 18) (leb rfl) (leb rfl) ?_
    exact aw_ireturn (ty := .int) dL_sessionsByTable_6 rfl rfl (leb rfl) (leb rfl) ⟨_, rfl, h⟩
  · obtain ⟨hE, h⟩ := h
    rcases hE with rfl | rfl
    · refine aw_atc (lv' := [(0, .ref _), (1, .int _), (2, .int _)]) [] (0, 6, 7, 15) [(0, 6, 11, 19)] rfl (fun z hz => nomatch hz) (by decide) (by decide) (tk3 (i := 40) (by decide +kernel) rfl) (by decide) 3 1 8 (Or.inl ⟨3, rfl, dL_sessionsByTable_7, rfl⟩) (ltb rfl) rfl ?_
      refine aw_widen (cc' := 3) (ss' := 18) (leb rfl) (leb rfl) ?_
      replace h := h.1 rfl
      refine aw_bipush 10 (v := -2) dL_sessionsByTable_8 kB_m2 rfl ?_
      exact aw_ireturn (ty := .int) dL_sessionsByTable_10 rfl rfl (leb rfl) (leb rfl) ⟨_, rfl, h⟩
    · refine aw_atc (lv' := [(0, .ref _), (1, .int _), (2, .int _)]) [(0, 6, 7, 15)] (0, 6, 11, 19) [] rfl (by intro z hz; simp only [List.mem_cons, List.not_mem_nil, or_false] at hz; rcases hz with rfl <;> first | exact ⟨by decide, xcI, tk3 (i := 40) (by decide +kernel) rfl, by decide⟩) (by decide) (by decide) (tk3 (i := 42) (by decide +kernel) rfl) (by decide) 3 1 12 (Or.inl ⟨3, rfl, dL_sessionsByTable_11, rfl⟩) (ltb rfl) rfl ?_
      refine aw_widen (cc' := 3) (ss' := 18) (leb rfl) (leb rfl) ?_
      replace h := h.2 rfl
      refine aw_bipush 14 (v := -4) dL_sessionsByTable_12 kB_m4 rfl ?_
      exact aw_ireturn (ty := .int) dL_sessionsByTable_14 rfl rfl (leb rfl) (leb rfl) ⟨_, rfl, h⟩)
set_option maxRecDepth 20000 in
theorem am_X4_isComplete {G : GG} (hG : G.1.stackTraces = false) {l0 : Nat} {l1 : Int32} {l2 : Int32} {X : XH} {K : Int32 → XH → Prop} {KX : String → XH → Prop} (h : w_X4_isComplete l0 l1 l2 X K KX) : AM G M_X4_isComplete X [.ref l0, .int l1, .int l2] (KxT (KrI K) KX) := AM_of (by decide +kernel) rfl (leb rfl) hG (by
  show AW G M_X4_isComplete 0 [(0, .ref l0), (1, .int l1), (2, .int l2)] [] X 0 0 _
  unfold w_X4_isComplete at h
  refine aw_iload_n 1 dX4_isComplete_0 rfl 1 rfl rfl ?_
  refine aw_callS (M' := M_X4_checkReel) 4 45 [.int _] [] dX4_isComplete_1 lk_RX4_45 ms_X4_checkReel mp_X4_checkReel rfl ⟨leb rfl, leb rfl⟩ rfl (leb rfl) (leb rfl) (leb rfl) rfl (am_X4_checkReel hG h) (kkT (kkV fun X1 h => ?_)) (kxT KrV.no fun E X h => at_out rfl (leb rfl) (leb rfl) (Or.inr ⟨_, rfl, h⟩))
  refine aw_widen (cc' := 1) (ss' := 6) (leb rfl) (leb rfl) ?_
  refine aw_iload_n 5 dX4_isComplete_4 rfl 2 rfl rfl ?_
  refine aw_callS (M' := M_X4_checkTongue) 8 195 [.int _] [] dX4_isComplete_5 lk_RX4_195 ms_X4_checkTongue mp_X4_checkTongue rfl ⟨leb rfl, leb rfl⟩ rfl (leb rfl) (leb rfl) (leb rfl) rfl (am_X4_checkTongue hG h) (kkT (kkV fun X2 h => ?_)) (kxT KrV.no fun E X h => at_out rfl (leb rfl) (leb rfl) (Or.inr ⟨_, rfl, h⟩))
  refine aw_widen (cc' := 2) (ss' := 12) (leb rfl) (leb rfl) ?_
  refine aw_aload_n 9 dX4_isComplete_8 rfl 0 rfl rfl ?_
  obtain ⟨g3, h⟩ := h
  obtain ⟨g4, h⟩ := h
  refine aw_getR 12 dX4_isComplete_9 fl_RX4_10 rfl g3 g4 rfl ?_
  refine aw_iload_n 13 dX4_isComplete_12 rfl 1 rfl rfl ?_
  refine aw_iload_n 14 dX4_isComplete_13 rfl 2 rfl rfl ?_
  obtain ⟨g7, h⟩ := h
  refine aw_callV (M' := M_X3_isWholeReel) 17 201 3 (hR X2 l0 0) [.int _, .int _] [] dX4_isComplete_14 lk_RX4_201 mv_X3_isWholeReel mp_X3_isWholeReel rfl ⟨leb rfl, leb rfl⟩ rfl (ltb rfl) g7 rfl (leb rfl) (leb rfl) (leb rfl) rfl (am_X3_isWholeReel hG h) (kkI fun v6 X5 h => ?_) (kxN KrI.no)
  refine aw_widen (cc' := 2) (ss' := 12) (leb rfl) (leb rfl) ?_
  obtain ⟨g8, h⟩ := h
  exact aw_ireturn (ty := .boolean) dX4_isComplete_17 rfl (narZ g8) (leb rfl) (leb rfl) (Or.inl ⟨_, rfl, h⟩))
set_option maxRecDepth 20000 in
theorem am_X4_isMixed {G : GG} (hG : G.1.stackTraces = false) {l0 : Nat} {l1 : Int32} {l2 : Int32} {X : XH} {K : Int32 → XH → Prop} {KX : String → XH → Prop} (h : w_X4_isMixed l0 l1 l2 X K KX) : AM G M_X4_isMixed X [.ref l0, .int l1, .int l2] (KxT (KrI K) KX) := AM_of (by decide +kernel) rfl (leb rfl) hG (by
  show AW G M_X4_isMixed 0 [(0, .ref l0), (1, .int l1), (2, .int l2)] [] X 0 0 _
  unfold w_X4_isMixed at h
  refine aw_iload_n 1 dX4_isMixed_0 rfl 1 rfl rfl ?_
  refine aw_callS (M' := M_X4_checkReel) 4 45 [.int _] [] dX4_isMixed_1 lk_RX4_45 ms_X4_checkReel mp_X4_checkReel rfl ⟨leb rfl, leb rfl⟩ rfl (leb rfl) (leb rfl) (leb rfl) rfl (am_X4_checkReel hG h) (kkT (kkV fun X1 h => ?_)) (kxT KrV.no fun E X h => at_out rfl (leb rfl) (leb rfl) (Or.inr ⟨_, rfl, h⟩))
  refine aw_widen (cc' := 1) (ss' := 6) (leb rfl) (leb rfl) ?_
  refine aw_iload_n 5 dX4_isMixed_4 rfl 2 rfl rfl ?_
  refine aw_callS (M' := M_X4_checkTongue) 8 195 [.int _] [] dX4_isMixed_5 lk_RX4_195 ms_X4_checkTongue mp_X4_checkTongue rfl ⟨leb rfl, leb rfl⟩ rfl (leb rfl) (leb rfl) (leb rfl) rfl (am_X4_checkTongue hG h) (kkT (kkV fun X2 h => ?_)) (kxT KrV.no fun E X h => at_out rfl (leb rfl) (leb rfl) (Or.inr ⟨_, rfl, h⟩))
  refine aw_widen (cc' := 2) (ss' := 12) (leb rfl) (leb rfl) ?_
  refine aw_aload_n 9 dX4_isMixed_8 rfl 0 rfl rfl ?_
  obtain ⟨g3, h⟩ := h
  obtain ⟨g4, h⟩ := h
  refine aw_getR 12 dX4_isMixed_9 fl_RX4_10 rfl g3 g4 rfl ?_
  refine aw_iload_n 13 dX4_isMixed_12 rfl 1 rfl rfl ?_
  refine aw_iload_n 14 dX4_isMixed_13 rfl 2 rfl rfl ?_
  obtain ⟨g7, h⟩ := h
  refine aw_callV (M' := M_X3_hasMix) 17 198 3 (hR X2 l0 0) [.int _, .int _] [] dX4_isMixed_14 lk_RX4_198 mv_X3_hasMix mp_X3_hasMix rfl ⟨leb rfl, leb rfl⟩ rfl (ltb rfl) g7 rfl (leb rfl) (leb rfl) (leb rfl) rfl (am_X3_hasMix hG h) (kkI fun v6 X5 h => ?_) (kxN KrI.no)
  refine aw_widen (cc' := 2) (ss' := 12) (leb rfl) (leb rfl) ?_
  obtain ⟨g8, h⟩ := h
  exact aw_ireturn (ty := .boolean) dX4_isMixed_17 rfl (narZ g8) (leb rfl) (leb rfl) (Or.inl ⟨_, rfl, h⟩))
set_option maxRecDepth 20000 in
theorem am_X3_signaturesAt {G : GG} (hG : G.1.stackTraces = false) {l0 : Nat} {l1 : Int32} {l2 : Int32} {X : XH} {K : Int32 → XH → Prop} (h : w_X3_signaturesAt l0 l1 l2 X K) : AM G M_X3_signaturesAt X [.ref l0, .int l1, .int l2] (KrI K) := AM_of (by decide +kernel) rfl (leb rfl) hG (by
  show AW G M_X3_signaturesAt 0 [(0, .ref l0), (1, .int l1), (2, .int l2)] [] X 0 0 _
  unfold w_X3_signaturesAt at h
  refine aw_aload_n 1 dX3_signaturesAt_0 rfl 0 rfl rfl ?_
  obtain ⟨g1, h⟩ := h
  obtain ⟨g2, h⟩ := h
  refine aw_getR 4 dX3_signaturesAt_1 fl_RX3_42 rfl g1 g2 rfl ?_
  refine aw_iload_n 5 dX3_signaturesAt_4 rfl 1 rfl rfl ?_
  refine aw_iload_n 6 dX3_signaturesAt_5 rfl 2 rfl rfl ?_
  refine aw_callS (M' := M_X3_place) 9 73 [.int _, .int _] [.ref _] dX3_signaturesAt_6 lk_RX3_73 ms_X3_place mp_X3_place rfl ⟨leb rfl, leb rfl⟩ rfl (leb rfl) (leb rfl) (leb rfl) rfl (am_X3_place hG h) (kkI fun v4 X3 h => ?_) (kxN KrI.no)
  refine aw_widen (cc' := 0) (ss' := 0) (leb rfl) (leb rfl) ?_
  refine aw_callSN (M' := M_X4_at) 12 81 [.ref _, .int _] [] dX3_signaturesAt_9 (by decide) ms_X4_at mp_X4_at rfl ⟨leb rfl, leb rfl⟩ rfl (leb rfl) (leb rfl) (leb rfl) rfl (am_X4_at hG h) (kkI fun v6 X5 h => ?_) KrI.no
  refine aw_widen (cc' := 0) (ss' := 0) (leb rfl) (leb rfl) ?_
  refine aw_callS (M' := M_J6_bitCount_0f7a4) 15 151 [.int _] [] dX3_signaturesAt_12 lk_RX3_151 ms_J6_bitCount_0f7a4 mp_J6_bitCount_0f7a4 rfl ⟨leb rfl, leb rfl⟩ rfl (leb rfl) (leb rfl) (leb rfl) rfl (am_J6_bitCount_0f7a4 hG h) (kkI fun v8 X7 h => ?_) (kxN KrI.no)
  refine aw_widen (cc' := 0) (ss' := 0) (leb rfl) (leb rfl) ?_
  exact aw_ireturn (ty := .int) dX3_signaturesAt_15 rfl rfl (leb rfl) (leb rfl) ⟨_, rfl, h⟩)
set_option maxRecDepth 20000 in
theorem am_X4_signaturesOn {G : GG} (hG : G.1.stackTraces = false) {l0 : Nat} {l1 : Int32} {l2 : Int32} {X : XH} {K : Int32 → XH → Prop} {KX : String → XH → Prop} (h : w_X4_signaturesOn l0 l1 l2 X K KX) : AM G M_X4_signaturesOn X [.ref l0, .int l1, .int l2] (KxT (KrI K) KX) := AM_of (by decide +kernel) rfl (leb rfl) hG (by
  show AW G M_X4_signaturesOn 0 [(0, .ref l0), (1, .int l1), (2, .int l2)] [] X 0 0 _
  unfold w_X4_signaturesOn at h
  refine aw_iload_n 1 dX4_signaturesOn_0 rfl 1 rfl rfl ?_
  refine aw_callS (M' := M_X4_checkReel) 4 45 [.int _] [] dX4_signaturesOn_1 lk_RX4_45 ms_X4_checkReel mp_X4_checkReel rfl ⟨leb rfl, leb rfl⟩ rfl (leb rfl) (leb rfl) (leb rfl) rfl (am_X4_checkReel hG h) (kkT (kkV fun X1 h => ?_)) (kxT KrV.no fun E X h => at_out rfl (leb rfl) (leb rfl) (Or.inr ⟨_, rfl, h⟩))
  refine aw_widen (cc' := 1) (ss' := 6) (leb rfl) (leb rfl) ?_
  refine aw_iload_n 5 dX4_signaturesOn_4 rfl 2 rfl rfl ?_
  refine aw_callS (M' := M_X4_checkTongue) 8 195 [.int _] [] dX4_signaturesOn_5 lk_RX4_195 ms_X4_checkTongue mp_X4_checkTongue rfl ⟨leb rfl, leb rfl⟩ rfl (leb rfl) (leb rfl) (leb rfl) rfl (am_X4_checkTongue hG h) (kkT (kkV fun X2 h => ?_)) (kxT KrV.no fun E X h => at_out rfl (leb rfl) (leb rfl) (Or.inr ⟨_, rfl, h⟩))
  refine aw_widen (cc' := 2) (ss' := 12) (leb rfl) (leb rfl) ?_
  refine aw_aload_n 9 dX4_signaturesOn_8 rfl 0 rfl rfl ?_
  obtain ⟨g3, h⟩ := h
  obtain ⟨g4, h⟩ := h
  refine aw_getR 12 dX4_signaturesOn_9 fl_RX4_10 rfl g3 g4 rfl ?_
  refine aw_iload_n 13 dX4_signaturesOn_12 rfl 1 rfl rfl ?_
  refine aw_iload_n 14 dX4_signaturesOn_13 rfl 2 rfl rfl ?_
  obtain ⟨g7, h⟩ := h
  refine aw_callV (M' := M_X3_signaturesAt) 17 313 3 (hR X2 l0 0) [.int _, .int _] [] dX4_signaturesOn_14 lk_RX4_313 mv_X3_signaturesAt mp_X3_signaturesAt rfl ⟨leb rfl, leb rfl⟩ rfl (ltb rfl) g7 rfl (leb rfl) (leb rfl) (leb rfl) rfl (am_X3_signaturesAt hG h) (kkI fun v6 X5 h => ?_) (kxN KrI.no)
  refine aw_widen (cc' := 2) (ss' := 12) (leb rfl) (leb rfl) ?_
  exact aw_ireturn (ty := .int) dX4_signaturesOn_17 rfl rfl (leb rfl) (leb rfl) (Or.inl ⟨_, rfl, h⟩))
set_option maxRecDepth 20000 in
theorem am_X4_missingOn {G : GG} (hG : G.1.stackTraces = false) {l0 : Nat} {l1 : Int32} {l2 : Int32} {X : XH} {K : Int32 → XH → Prop} {KX : String → XH → Prop} (h : w_X4_missingOn l0 l1 l2 X K KX) : AM G M_X4_missingOn X [.ref l0, .int l1, .int l2] (KxT (KrI K) KX) := AM_of (by decide +kernel) rfl (leb rfl) hG (by
  show AW G M_X4_missingOn 0 [(0, .ref l0), (1, .int l1), (2, .int l2)] [] X 0 0 _
  unfold w_X4_missingOn at h
  refine aw_iload_n 1 dX4_missingOn_0 rfl 1 rfl rfl ?_
  refine aw_callS (M' := M_X4_checkReel) 4 45 [.int _] [] dX4_missingOn_1 lk_RX4_45 ms_X4_checkReel mp_X4_checkReel rfl ⟨leb rfl, leb rfl⟩ rfl (leb rfl) (leb rfl) (leb rfl) rfl (am_X4_checkReel hG h) (kkT (kkV fun X1 h => ?_)) (kxT KrV.no fun E X h => at_out rfl (leb rfl) (leb rfl) (Or.inr ⟨_, rfl, h⟩))
  refine aw_widen (cc' := 1) (ss' := 6) (leb rfl) (leb rfl) ?_
  refine aw_iload_n 5 dX4_missingOn_4 rfl 2 rfl rfl ?_
  refine aw_callS (M' := M_X4_checkTongue) 8 195 [.int _] [] dX4_missingOn_5 lk_RX4_195 ms_X4_checkTongue mp_X4_checkTongue rfl ⟨leb rfl, leb rfl⟩ rfl (leb rfl) (leb rfl) (leb rfl) rfl (am_X4_checkTongue hG h) (kkT (kkV fun X2 h => ?_)) (kxT KrV.no fun E X h => at_out rfl (leb rfl) (leb rfl) (Or.inr ⟨_, rfl, h⟩))
  refine aw_widen (cc' := 2) (ss' := 12) (leb rfl) (leb rfl) ?_
  refine aw_aload_n 9 dX4_missingOn_8 rfl 0 rfl rfl ?_
  obtain ⟨g3, h⟩ := h
  obtain ⟨g4, h⟩ := h
  refine aw_getR 12 dX4_missingOn_9 fl_RX4_10 rfl g3 g4 rfl ?_
  refine aw_iload_n 13 dX4_missingOn_12 rfl 1 rfl rfl ?_
  refine aw_iload_n 14 dX4_missingOn_13 rfl 2 rfl rfl ?_
  obtain ⟨g7, h⟩ := h
  refine aw_callV (M' := M_X3_signaturesMissing) 17 223 3 (hR X2 l0 0) [.int _, .int _] [] dX4_missingOn_14 lk_RX4_223 mv_X3_signaturesMissing mp_X3_signaturesMissing rfl ⟨leb rfl, leb rfl⟩ rfl (ltb rfl) g7 rfl (leb rfl) (leb rfl) (leb rfl) rfl (am_X3_signaturesMissing hG h) (kkI fun v6 X5 h => ?_) (kxN KrI.no)
  refine aw_widen (cc' := 2) (ss' := 12) (leb rfl) (leb rfl) ?_
  exact aw_ireturn (ty := .int) dX4_missingOn_17 rfl rfl (leb rfl) (leb rfl) (Or.inl ⟨_, rfl, h⟩))
set_option maxRecDepth 20000 in
theorem aw_L_mixOf_28 {G : GG} (hG : G.1.stackTraces = false)  {l0 : Nat} {l1 : Int32} {l2 : Int32} {s0 : Int32} {s1 : Int32} {X : XH} {K : Int32 → XH → Prop}  (h : w_L_mixOf_28  l0 l1 l2 s0 s1 X K) : AW G M_L_mixOf 28 [(0, .ref l0), (1, .int l1), (2, .int l2)] [.int s1, .int s0] X 4 24 (KrI K) := by
  unfold w_L_mixOf_28 at h
  refine aw_iadd 29 dL_mixOf_28 rfl ?_
  refine aw_bipush 31 (v := 10) dL_mixOf_29 kB_10 rfl ?_
  refine aw_aload_n 32 dL_mixOf_31 rfl 0 rfl rfl ?_
  refine aw_iload_n 33 dL_mixOf_32 rfl 1 rfl rfl ?_
  refine aw_iload_n 34 dL_mixOf_33 rfl 2 rfl rfl ?_
  obtain ⟨g3, h⟩ := h
  refine aw_callV (M' := M_X4_signaturesOn) 37 130 4 l0 [.int _, .int _] [.int _, .int _] dL_mixOf_34 lk_RL_130 mv_X4_signaturesOn mp_X4_signaturesOn rfl ⟨leb rfl, leb rfl⟩ rfl (ltb rfl) g3 rfl (leb rfl) (leb rfl) (leb rfl) rfl (am_X4_signaturesOn hG h) (kkT (kkI fun v2 X1 h => ?_)) (kxT KrI.no fun E X1 h => ?_)
  · refine aw_widen (cc' := 6) (ss' := 36) (leb rfl) (leb rfl) ?_
    refine aw_imul 38 dL_mixOf_37 rfl ?_
    refine aw_iadd 39 dL_mixOf_38 rfl ?_
    refine aw_bipush 41 (v := 100) dL_mixOf_39 kB_100 rfl ?_
    refine aw_aload_n 42 dL_mixOf_41 rfl 0 rfl rfl ?_
    refine aw_iload_n 43 dL_mixOf_42 rfl 1 rfl rfl ?_
    refine aw_iload_n 44 dL_mixOf_43 rfl 2 rfl rfl ?_
    obtain ⟨g6, h⟩ := h
    refine aw_callV (M' := M_X4_missingOn) 47 133 4 l0 [.int _, .int _] [.int _, .int _] dL_mixOf_44 lk_RL_133 mv_X4_missingOn mp_X4_missingOn rfl ⟨leb rfl, leb rfl⟩ rfl (ltb rfl) g6 rfl (leb rfl) (leb rfl) (leb rfl) rfl (am_X4_missingOn hG h) (kkT (kkI fun v5 X4 h => ?_)) (kxT KrI.no fun E X4 h => ?_)
    · refine aw_widen (cc' := 8) (ss' := 48) (leb rfl) (leb rfl) ?_
      refine aw_imul 48 dL_mixOf_47 rfl ?_
      refine aw_iadd 49 dL_mixOf_48 rfl ?_
      exact aw_ireturn (ty := .int) dL_mixOf_49 rfl rfl (leb rfl) (leb rfl) ⟨_, rfl, h⟩
    · obtain ⟨hE, h⟩ := h
      rcases hE with rfl
      refine aw_atc (lv' := [(0, .ref _), (1, .int _), (2, .int _)]) [] (0, 49, 50, 15) [] rfl (fun z hz => nomatch hz) (by decide) (by decide) (tk3 (i := 40) (by decide +kernel) rfl) (by decide) 3 1 51 (Or.inl ⟨3, rfl, dL_mixOf_50, rfl⟩) (ltb rfl) rfl ?_
      refine aw_widen (cc' := 8) (ss' := 48) (leb rfl) (leb rfl) ?_
      replace h := h rfl
      refine aw_bipush 53 (v := -2) dL_mixOf_51 kB_m2 rfl ?_
      exact aw_ireturn (ty := .int) dL_mixOf_53 rfl rfl (leb rfl) (leb rfl) ⟨_, rfl, h⟩
  · obtain ⟨hE, h⟩ := h
    rcases hE with rfl
    refine aw_atc (lv' := [(0, .ref _), (1, .int _), (2, .int _)]) [] (0, 49, 50, 15) [] rfl (fun z hz => nomatch hz) (by decide) (by decide) (tk3 (i := 40) (by decide +kernel) rfl) (by decide) 3 1 51 (Or.inl ⟨3, rfl, dL_mixOf_50, rfl⟩) (ltb rfl) rfl ?_
    refine aw_widen (cc' := 6) (ss' := 36) (leb rfl) (leb rfl) ?_
    replace h := h rfl
    refine aw_bipush 53 (v := -2) dL_mixOf_51 kB_m2 rfl ?_
    exact aw_ireturn (ty := .int) dL_mixOf_53 rfl rfl (leb rfl) (leb rfl) ⟨_, rfl, h⟩
set_option maxRecDepth 20000 in
theorem am_L_mixOf {G : GG} (hG : G.1.stackTraces = false) {l0 : Nat} {l1 : Int32} {l2 : Int32} {X : XH} {K : Int32 → XH → Prop} (h : w_L_mixOf l0 l1 l2 X K) : AM G M_L_mixOf X [.ref l0, .int l1, .int l2] (KrI K) := AM_ofH (by decide +kernel) (0, 49, 50, 15) [] rfl (leb rfl) hG (by
  show AW G M_L_mixOf 0 [(0, .ref l0), (1, .int l1), (2, .int l2)] [] X 0 0 _
  unfold w_L_mixOf at h
  refine aw_aload_n 1 dL_mixOf_0 rfl 0 rfl rfl ?_
  refine aw_iload_n 2 dL_mixOf_1 rfl 1 rfl rfl ?_
  refine aw_iload_n 3 dL_mixOf_2 rfl 2 rfl rfl ?_
  obtain ⟨g3, h⟩ := h
  refine aw_callV (M' := M_X4_isComplete) 6 124 4 l0 [.int _, .int _] [] dL_mixOf_3 lk_RL_124 mv_X4_isComplete mp_X4_isComplete rfl ⟨leb rfl, leb rfl⟩ rfl (ltb rfl) g3 rfl (leb rfl) (leb rfl) (leb rfl) rfl (am_X4_isComplete hG h) (kkT (kkI fun v2 X1 h => ?_)) (kxT KrI.no fun E X1 h => ?_)
  · refine aw_widen (cc' := 2) (ss' := 12) (leb rfl) (leb rfl) ?_
    refine aw_if_eq 13 9 dL_mixOf_6 rfl rfl (fun c4 => ?_) (fun c4 => ?_)
    · replace h := h.1 c4
      refine aw_iconst 14 (v := 0) dL_mixOf_13 kI_0 rfl ?_
      refine aw_aload_n 15 dL_mixOf_14 rfl 0 rfl rfl ?_
      refine aw_iload_n 16 dL_mixOf_15 rfl 1 rfl rfl ?_
      refine aw_iload_n 17 dL_mixOf_16 rfl 2 rfl rfl ?_
      obtain ⟨g7, h⟩ := h
      refine aw_callV (M' := M_X4_isMixed) 20 127 4 l0 [.int _, .int _] [.int _] dL_mixOf_17 lk_RL_127 mv_X4_isMixed mp_X4_isMixed rfl ⟨leb rfl, leb rfl⟩ rfl (ltb rfl) g7 rfl (leb rfl) (leb rfl) (leb rfl) rfl (am_X4_isMixed hG h) (kkT (kkI fun v6 X5 h => ?_)) (kxT KrI.no fun E X5 h => ?_)
      · refine aw_widen (cc' := 4) (ss' := 24) (leb rfl) (leb rfl) ?_
        refine aw_if_eq 27 23 dL_mixOf_20 rfl rfl (fun c8 => ?_) (fun c8 => ?_)
        · replace h := h.1 c8
          refine aw_iconst 28 (v := 0) dL_mixOf_27 kI_0 rfl ?_
          exact aw_pick [0, 1, 2] rfl (aw_L_mixOf_28 hG  h)
        · replace h := h.2 c8
          refine aw_iconst 24 (v := 2) dL_mixOf_23 kI_2 rfl ?_
          refine aw_goto 28 dL_mixOf_24 rfl ?_
          exact aw_pick [0, 1, 2] rfl (aw_L_mixOf_28 hG  h)
      · obtain ⟨hE, h⟩ := h
        rcases hE with rfl
        refine aw_atc (lv' := [(0, .ref _), (1, .int _), (2, .int _)]) [] (0, 49, 50, 15) [] rfl (fun z hz => nomatch hz) (by decide) (by decide) (tk3 (i := 40) (by decide +kernel) rfl) (by decide) 3 1 51 (Or.inl ⟨3, rfl, dL_mixOf_50, rfl⟩) (ltb rfl) rfl ?_
        refine aw_widen (cc' := 4) (ss' := 24) (leb rfl) (leb rfl) ?_
        replace h := h rfl
        refine aw_bipush 53 (v := -2) dL_mixOf_51 kB_m2 rfl ?_
        exact aw_ireturn (ty := .int) dL_mixOf_53 rfl rfl (leb rfl) (leb rfl) ⟨_, rfl, h⟩
    · replace h := h.2 c4
      refine aw_iconst 10 (v := 1) dL_mixOf_9 kI_1 rfl ?_
      refine aw_goto 14 dL_mixOf_10 rfl ?_
      refine aw_aload_n 15 dL_mixOf_14 rfl 0 rfl rfl ?_
      refine aw_iload_n 16 dL_mixOf_15 rfl 1 rfl rfl ?_
      refine aw_iload_n 17 dL_mixOf_16 rfl 2 rfl rfl ?_
      obtain ⟨g11, h⟩ := h
      refine aw_callV (M' := M_X4_isMixed) 20 127 4 l0 [.int _, .int _] [.int _] dL_mixOf_17 lk_RL_127 mv_X4_isMixed mp_X4_isMixed rfl ⟨leb rfl, leb rfl⟩ rfl (ltb rfl) g11 rfl (leb rfl) (leb rfl) (leb rfl) rfl (am_X4_isMixed hG h) (kkT (kkI fun v10 X9 h => ?_)) (kxT KrI.no fun E X9 h => ?_)
      · refine aw_widen (cc' := 4) (ss' := 24) (leb rfl) (leb rfl) ?_
        refine aw_if_eq 27 23 dL_mixOf_20 rfl rfl (fun c12 => ?_) (fun c12 => ?_)
        · replace h := h.1 c12
          refine aw_iconst 28 (v := 0) dL_mixOf_27 kI_0 rfl ?_
          exact aw_pick [0, 1, 2] rfl (aw_L_mixOf_28 hG  h)
        · replace h := h.2 c12
          refine aw_iconst 24 (v := 2) dL_mixOf_23 kI_2 rfl ?_
          refine aw_goto 28 dL_mixOf_24 rfl ?_
          exact aw_pick [0, 1, 2] rfl (aw_L_mixOf_28 hG  h)
      · obtain ⟨hE, h⟩ := h
        rcases hE with rfl
        refine aw_atc (lv' := [(0, .ref _), (1, .int _), (2, .int _)]) [] (0, 49, 50, 15) [] rfl (fun z hz => nomatch hz) (by decide) (by decide) (tk3 (i := 40) (by decide +kernel) rfl) (by decide) 3 1 51 (Or.inl ⟨3, rfl, dL_mixOf_50, rfl⟩) (ltb rfl) rfl ?_
        refine aw_widen (cc' := 4) (ss' := 24) (leb rfl) (leb rfl) ?_
        replace h := h rfl
        refine aw_bipush 53 (v := -2) dL_mixOf_51 kB_m2 rfl ?_
        exact aw_ireturn (ty := .int) dL_mixOf_53 rfl rfl (leb rfl) (leb rfl) ⟨_, rfl, h⟩
  · obtain ⟨hE, h⟩ := h
    rcases hE with rfl
    refine aw_atc (lv' := [(0, .ref _), (1, .int _), (2, .int _)]) [] (0, 49, 50, 15) [] rfl (fun z hz => nomatch hz) (by decide) (by decide) (tk3 (i := 40) (by decide +kernel) rfl) (by decide) 3 1 51 (Or.inl ⟨3, rfl, dL_mixOf_50, rfl⟩) (ltb rfl) rfl ?_
    refine aw_widen (cc' := 2) (ss' := 12) (leb rfl) (leb rfl) ?_
    replace h := h rfl
    refine aw_bipush 53 (v := -2) dL_mixOf_51 kB_m2 rfl ?_
    exact aw_ireturn (ty := .int) dL_mixOf_53 rfl rfl (leb rfl) (leb rfl) ⟨_, rfl, h⟩)
set_option maxRecDepth 20000 in
theorem am_X4_hasSigned {G : GG} (hG : G.1.stackTraces = false) {l0 : Nat} {l1 : Int32} {l2 : Int32} {l3 : Int32} {X : XH} {K : Int32 → XH → Prop} {KX : String → XH → Prop} (h : w_X4_hasSigned l0 l1 l2 l3 X K KX) : AM G M_X4_hasSigned X [.ref l0, .int l1, .int l2, .int l3] (KxT (KrI K) KX) := AM_of (by decide +kernel) rfl (leb rfl) hG (by
  show AW G M_X4_hasSigned 0 [(0, .ref l0), (1, .int l1), (2, .int l2), (3, .int l3)] [] X 0 0 _
  unfold w_X4_hasSigned at h
  refine aw_iload_n 1 dX4_hasSigned_0 rfl 1 rfl rfl ?_
  refine aw_callS (M' := M_X4_checkState) 4 49 [.int _] [] dX4_hasSigned_1 lk_RX4_49 ms_X4_checkState mp_X4_checkState rfl ⟨leb rfl, leb rfl⟩ rfl (leb rfl) (leb rfl) (leb rfl) rfl (am_X4_checkState hG h) (kkT (kkV fun X1 h => ?_)) (kxT KrV.no fun E X h => at_out rfl (leb rfl) (leb rfl) (Or.inr ⟨_, rfl, h⟩))
  refine aw_widen (cc' := 1) (ss' := 6) (leb rfl) (leb rfl) ?_
  refine aw_iload_n 5 dX4_hasSigned_4 rfl 2 rfl rfl ?_
  refine aw_callS (M' := M_X4_checkReel) 8 45 [.int _] [] dX4_hasSigned_5 lk_RX4_45 ms_X4_checkReel mp_X4_checkReel rfl ⟨leb rfl, leb rfl⟩ rfl (leb rfl) (leb rfl) (leb rfl) rfl (am_X4_checkReel hG h) (kkT (kkV fun X2 h => ?_)) (kxT KrV.no fun E X h => at_out rfl (leb rfl) (leb rfl) (Or.inr ⟨_, rfl, h⟩))
  refine aw_widen (cc' := 2) (ss' := 12) (leb rfl) (leb rfl) ?_
  refine aw_iload_n 9 dX4_hasSigned_8 rfl 3 rfl rfl ?_
  refine aw_callS (M' := M_X4_checkTongue) 12 195 [.int _] [] dX4_hasSigned_9 lk_RX4_195 ms_X4_checkTongue mp_X4_checkTongue rfl ⟨leb rfl, leb rfl⟩ rfl (leb rfl) (leb rfl) (leb rfl) rfl (am_X4_checkTongue hG h) (kkT (kkV fun X3 h => ?_)) (kxT KrV.no fun E X h => at_out rfl (leb rfl) (leb rfl) (Or.inr ⟨_, rfl, h⟩))
  refine aw_widen (cc' := 3) (ss' := 18) (leb rfl) (leb rfl) ?_
  refine aw_aload_n 13 dX4_hasSigned_12 rfl 0 rfl rfl ?_
  obtain ⟨g4, h⟩ := h
  obtain ⟨g5, h⟩ := h
  refine aw_getR 16 dX4_hasSigned_13 fl_RX4_10 rfl g4 g5 rfl ?_
  refine aw_iload_n 17 dX4_hasSigned_16 rfl 1 rfl rfl ?_
  refine aw_iload_n 18 dX4_hasSigned_17 rfl 2 rfl rfl ?_
  refine aw_iload_n 19 dX4_hasSigned_18 rfl 3 rfl rfl ?_
  obtain ⟨g8, h⟩ := h
  refine aw_callV (M' := M_X3_hasSignature) 22 215 3 (hR X3 l0 0) [.int _, .int _, .int _] [] dX4_hasSigned_19 lk_RX4_215 mv_X3_hasSignature mp_X3_hasSignature rfl ⟨leb rfl, leb rfl⟩ rfl (ltb rfl) g8 rfl (leb rfl) (leb rfl) (leb rfl) rfl (am_X3_hasSignature hG h) (kkI fun v7 X6 h => ?_) (kxN KrI.no)
  refine aw_widen (cc' := 3) (ss' := 18) (leb rfl) (leb rfl) ?_
  obtain ⟨g9, h⟩ := h
  exact aw_ireturn (ty := .boolean) dX4_hasSigned_22 rfl (narZ g9) (leb rfl) (leb rfl) (Or.inl ⟨_, rfl, h⟩))
set_option maxRecDepth 20000 in
theorem am_L_hasSigned {G : GG} (hG : G.1.stackTraces = false) {l0 : Nat} {l1 : Int32} {l2 : Int32} {l3 : Int32} {X : XH} {K : Int32 → XH → Prop} (h : w_L_hasSigned l0 l1 l2 l3 X K) : AM G M_L_hasSigned X [.ref l0, .int l1, .int l2, .int l3] (KrI K) := AM_ofH (by decide +kernel) (0, 15, 16, 15) [] rfl (leb rfl) hG (by
  show AW G M_L_hasSigned 0 [(0, .ref l0), (1, .int l1), (2, .int l2), (3, .int l3)] [] X 0 0 _
  unfold w_L_hasSigned at h
  refine aw_aload_n 1 dL_hasSigned_0 rfl 0 rfl rfl ?_
  refine aw_iload_n 2 dL_hasSigned_1 rfl 1 rfl rfl ?_
  refine aw_iload_n 3 dL_hasSigned_2 rfl 2 rfl rfl ?_
  refine aw_iload_n 4 dL_hasSigned_3 rfl 3 rfl rfl ?_
  obtain ⟨g3, h⟩ := h
  refine aw_callV (M' := M_X4_hasSigned) 7 136 4 l0 [.int _, .int _, .int _] [] dL_hasSigned_4 lk_RL_136 mv_X4_hasSigned mp_X4_hasSigned rfl ⟨leb rfl, leb rfl⟩ rfl (ltb rfl) g3 rfl (leb rfl) (leb rfl) (leb rfl) rfl (am_X4_hasSigned hG h) (kkT (kkI fun v2 X1 h => ?_)) (kxT KrI.no fun E X1 h => ?_)
  · refine aw_widen (cc' := 3) (ss' := 18) (leb rfl) (leb rfl) ?_
    refine aw_if_eq 14 10 dL_hasSigned_7 rfl rfl (fun c4 => ?_) (fun c4 => ?_)
    · replace h := h.1 c4
      refine aw_iconst 15 (v := 0) dL_hasSigned_14 kI_0 rfl ?_
      exact aw_ireturn (ty := .int) dL_hasSigned_15 rfl rfl (leb rfl) (leb rfl) ⟨_, rfl, h⟩
    · replace h := h.2 c4
      refine aw_iconst 11 (v := 1) dL_hasSigned_10 kI_1 rfl ?_
      refine aw_goto 15 dL_hasSigned_11 rfl ?_
      exact aw_ireturn (ty := .int) dL_hasSigned_15 rfl rfl (leb rfl) (leb rfl) ⟨_, rfl, h⟩
  · obtain ⟨hE, h⟩ := h
    rcases hE with rfl
    refine aw_atc (lv' := [(0, .ref _), (1, .int _), (2, .int _), (3, .int _)]) [] (0, 15, 16, 15) [] rfl (fun z hz => nomatch hz) (by decide) (by decide) (tk3 (i := 40) (by decide +kernel) rfl) (by decide) 4 2 18 (Or.inr ⟨dL_hasSigned_16, rfl⟩) (ltb rfl) rfl ?_
    refine aw_widen (cc' := 3) (ss' := 18) (leb rfl) (leb rfl) ?_
    replace h := h rfl
    refine aw_bipush 20 (v := -2) dL_hasSigned_18 kB_m2 rfl ?_
    exact aw_ireturn (ty := .int) dL_hasSigned_20 rfl rfl (leb rfl) (leb rfl) ⟨_, rfl, h⟩)
set_option maxRecDepth 20000 in
theorem am_X4_speaksIn {G : GG} (hG : G.1.stackTraces = false) {l0 : Nat} {l1 : Int32} {l2 : Int32} {X : XH} {K : Int32 → XH → Prop} {KX : String → XH → Prop} (h : w_X4_speaksIn l0 l1 l2 X K KX) : AM G M_X4_speaksIn X [.ref l0, .int l1, .int l2] (KxT (KrI K) KX) := AM_of (by decide +kernel) rfl (leb rfl) hG (by
  show AW G M_X4_speaksIn 0 [(0, .ref l0), (1, .int l1), (2, .int l2)] [] X 0 0 _
  unfold w_X4_speaksIn at h
  refine aw_iload_n 1 dX4_speaksIn_0 rfl 1 rfl rfl ?_
  refine aw_callS (M' := M_X4_checkState) 4 49 [.int _] [] dX4_speaksIn_1 lk_RX4_49 ms_X4_checkState mp_X4_checkState rfl ⟨leb rfl, leb rfl⟩ rfl (leb rfl) (leb rfl) (leb rfl) rfl (am_X4_checkState hG h) (kkT (kkV fun X1 h => ?_)) (kxT KrV.no fun E X h => at_out rfl (leb rfl) (leb rfl) (Or.inr ⟨_, rfl, h⟩))
  refine aw_widen (cc' := 1) (ss' := 6) (leb rfl) (leb rfl) ?_
  refine aw_iload_n 5 dX4_speaksIn_4 rfl 2 rfl rfl ?_
  refine aw_callS (M' := M_X4_checkReel) 8 45 [.int _] [] dX4_speaksIn_5 lk_RX4_45 ms_X4_checkReel mp_X4_checkReel rfl ⟨leb rfl, leb rfl⟩ rfl (leb rfl) (leb rfl) (leb rfl) rfl (am_X4_checkReel hG h) (kkT (kkV fun X2 h => ?_)) (kxT KrV.no fun E X h => at_out rfl (leb rfl) (leb rfl) (Or.inr ⟨_, rfl, h⟩))
  refine aw_widen (cc' := 2) (ss' := 12) (leb rfl) (leb rfl) ?_
  refine aw_aload_n 9 dX4_speaksIn_8 rfl 0 rfl rfl ?_
  obtain ⟨g3, h⟩ := h
  obtain ⟨g4, h⟩ := h
  refine aw_getR 12 dX4_speaksIn_9 fl_RX4_10 rfl g3 g4 rfl ?_
  refine aw_iload_n 13 dX4_speaksIn_12 rfl 1 rfl rfl ?_
  refine aw_iload_n 14 dX4_speaksIn_13 rfl 2 rfl rfl ?_
  obtain ⟨g7, h⟩ := h
  refine aw_callV (M' := M_X3_isHeardIn) 17 212 3 (hR X2 l0 0) [.int _, .int _] [] dX4_speaksIn_14 lk_RX4_212 mv_X3_isHeardIn mp_X3_isHeardIn rfl ⟨leb rfl, leb rfl⟩ rfl (ltb rfl) g7 rfl (leb rfl) (leb rfl) (leb rfl) rfl (am_X3_isHeardIn hG h) (kkI fun v6 X5 h => ?_) (kxN KrI.no)
  refine aw_widen (cc' := 2) (ss' := 12) (leb rfl) (leb rfl) ?_
  obtain ⟨g8, h⟩ := h
  exact aw_ireturn (ty := .boolean) dX4_speaksIn_17 rfl (narZ g8) (leb rfl) (leb rfl) (Or.inl ⟨_, rfl, h⟩))
set_option maxRecDepth 20000 in
theorem am_L_speaksIn {G : GG} (hG : G.1.stackTraces = false) {l0 : Nat} {l1 : Int32} {l2 : Int32} {X : XH} {K : Int32 → XH → Prop} (h : w_L_speaksIn l0 l1 l2 X K) : AM G M_L_speaksIn X [.ref l0, .int l1, .int l2] (KrI K) := AM_ofH (by decide +kernel) (0, 14, 15, 15) [] rfl (leb rfl) hG (by
  show AW G M_L_speaksIn 0 [(0, .ref l0), (1, .int l1), (2, .int l2)] [] X 0 0 _
  unfold w_L_speaksIn at h
  refine aw_aload_n 1 dL_speaksIn_0 rfl 0 rfl rfl ?_
  refine aw_iload_n 2 dL_speaksIn_1 rfl 1 rfl rfl ?_
  refine aw_iload_n 3 dL_speaksIn_2 rfl 2 rfl rfl ?_
  obtain ⟨g3, h⟩ := h
  refine aw_callV (M' := M_X4_speaksIn) 6 121 4 l0 [.int _, .int _] [] dL_speaksIn_3 lk_RL_121 mv_X4_speaksIn mp_X4_speaksIn rfl ⟨leb rfl, leb rfl⟩ rfl (ltb rfl) g3 rfl (leb rfl) (leb rfl) (leb rfl) rfl (am_X4_speaksIn hG h) (kkT (kkI fun v2 X1 h => ?_)) (kxT KrI.no fun E X1 h => ?_)
  · refine aw_widen (cc' := 2) (ss' := 12) (leb rfl) (leb rfl) ?_
    refine aw_if_eq 13 9 dL_speaksIn_6 rfl rfl (fun c4 => ?_) (fun c4 => ?_)
    · replace h := h.1 c4
      refine aw_iconst 14 (v := 0) dL_speaksIn_13 kI_0 rfl ?_
      exact aw_ireturn (ty := .int) dL_speaksIn_14 rfl rfl (leb rfl) (leb rfl) ⟨_, rfl, h⟩
    · replace h := h.2 c4
      refine aw_iconst 10 (v := 1) dL_speaksIn_9 kI_1 rfl ?_
      refine aw_goto 14 dL_speaksIn_10 rfl ?_
      exact aw_ireturn (ty := .int) dL_speaksIn_14 rfl rfl (leb rfl) (leb rfl) ⟨_, rfl, h⟩
  · obtain ⟨hE, h⟩ := h
    rcases hE with rfl
    refine aw_atc (lv' := [(0, .ref _), (1, .int _), (2, .int _)]) [] (0, 14, 15, 15) [] rfl (fun z hz => nomatch hz) (by decide) (by decide) (tk3 (i := 40) (by decide +kernel) rfl) (by decide) 3 1 16 (Or.inl ⟨3, rfl, dL_speaksIn_15, rfl⟩) (ltb rfl) rfl ?_
    refine aw_widen (cc' := 2) (ss' := 12) (leb rfl) (leb rfl) ?_
    replace h := h rfl
    refine aw_bipush 18 (v := -2) dL_speaksIn_16 kB_m2 rfl ?_
    exact aw_ireturn (ty := .int) dL_speaksIn_18 rfl rfl (leb rfl) (leb rfl) ⟨_, rfl, h⟩)
set_option maxRecDepth 20000 in
theorem am_X4_clausesIn {G : GG} (hG : G.1.stackTraces = false) {l0 : Nat} {l1 : Int32} {X : XH} {K : Int32 → XH → Prop} {KX : String → XH → Prop} (h : w_X4_clausesIn l0 l1 X K KX) : AM G M_X4_clausesIn X [.ref l0, .int l1] (KxT (KrI K) KX) := AM_of (by decide +kernel) rfl (leb rfl) hG (by
  show AW G M_X4_clausesIn 0 [(0, .ref l0), (1, .int l1)] [] X 0 0 _
  unfold w_X4_clausesIn at h
  refine aw_iload_n 1 dX4_clausesIn_0 rfl 1 rfl rfl ?_
  refine aw_callS (M' := M_X4_checkReel) 4 45 [.int _] [] dX4_clausesIn_1 lk_RX4_45 ms_X4_checkReel mp_X4_checkReel rfl ⟨leb rfl, leb rfl⟩ rfl (leb rfl) (leb rfl) (leb rfl) rfl (am_X4_checkReel hG h) (kkT (kkV fun X1 h => ?_)) (kxT KrV.no fun E X h => at_out rfl (leb rfl) (leb rfl) (Or.inr ⟨_, rfl, h⟩))
  refine aw_widen (cc' := 1) (ss' := 6) (leb rfl) (leb rfl) ?_
  refine aw_aload_n 5 dX4_clausesIn_4 rfl 0 rfl rfl ?_
  obtain ⟨g2, h⟩ := h
  obtain ⟨g3, h⟩ := h
  refine aw_getR 8 dX4_clausesIn_5 fl_RX4_10 rfl g2 g3 rfl ?_
  refine aw_iload_n 9 dX4_clausesIn_8 rfl 1 rfl rfl ?_
  obtain ⟨g6, h⟩ := h
  refine aw_callV (M' := M_X3_clausesOn) 12 307 3 (hR X1 l0 0) [.int _] [] dX4_clausesIn_9 lk_RX4_307 mv_X3_clausesOn mp_X3_clausesOn rfl ⟨leb rfl, leb rfl⟩ rfl (ltb rfl) g6 rfl (leb rfl) (leb rfl) (leb rfl) rfl (am_X3_clausesOn hG h) (kkI fun v5 X4 h => ?_) (kxN KrI.no)
  refine aw_widen (cc' := 1) (ss' := 6) (leb rfl) (leb rfl) ?_
  exact aw_ireturn (ty := .int) dX4_clausesIn_12 rfl rfl (leb rfl) (leb rfl) (Or.inl ⟨_, rfl, h⟩))
set_option maxRecDepth 20000 in
theorem aw_X3_lipsOn_4 {G : GG} (hG : G.1.stackTraces = false)  {l0 : Nat} {l1 : Int32} {l2 : Int32} {l3 : Int32} {X : XH} {K : Int32 → XH → Prop}  (h : w_X3_lipsOn_4  l0 l1 l2 l3 X K) : AW G M_X3_lipsOn 4 [(0, .ref l0), (1, .int l1), (2, .int l2), (3, .int l3)] [] X 0 0 (KrI K) :=
  h (fun l0 l1 l2 l3 X => AW G M_X3_lipsOn 4 [(0, .ref l0), (1, .int l1), (2, .int l2), (3, .int l3)] [] X 0 0 (KrI K)) (fun l0 l1 l2 l3 X h => by
    refine aw_iload_n 5 dX3_lipsOn_4 rfl 3 rfl rfl ?_
    refine aw_aload_n 6 dX3_lipsOn_5 rfl 0 rfl rfl ?_
    obtain ⟨g1, h⟩ := h
    refine aw_getI 9 dX3_lipsOn_6 fl_RX3_45 rfl g1 rfl ?_
    refine aw_icmp_ge 35 12 dX3_lipsOn_9 rfl rfl (fun c2 => ?_) (fun c2 => ?_)
    · replace h := h.1 c2
      refine aw_iload_n 36 dX3_lipsOn_35 rfl 2 rfl rfl ?_
      exact aw_ireturn (ty := .int) dX3_lipsOn_36 rfl rfl (leb rfl) (leb rfl) ⟨_, rfl, h⟩
    · replace h := h.2 c2
      refine aw_aload_n 13 dX3_lipsOn_12 rfl 0 rfl rfl ?_
      refine aw_iload_n 14 dX3_lipsOn_13 rfl 3 rfl rfl ?_
      refine aw_callV (M' := M_X3_reelAt) 17 88 3 l0 [.int _] [] dX3_lipsOn_14 lk_RX3_88 mv_X3_reelAt mp_X3_reelAt rfl ⟨leb rfl, leb rfl⟩ rfl (ltb rfl) g1 rfl (leb rfl) (leb rfl) (leb rfl) rfl (am_X3_reelAt hG h) (kkI fun v4 X3 h => ?_) (kxN KrI.no)
      refine aw_widen (cc' := 0) (ss' := 0) (leb rfl) (leb rfl) ?_
      refine aw_iload_n 18 dX3_lipsOn_17 rfl 1 rfl rfl ?_
      refine aw_icmp_ne 29 21 dX3_lipsOn_18 rfl rfl (fun c5 => ?_) (fun c5 => ?_)
      · replace h := h.1 c5
        refine aw_iinc 32 (v := 1) (lv' := [(3, _), (0, _), (1, _), (2, _)]) dX3_lipsOn_29 3 rfl kI_1 (ltb rfl) rfl rfl ?_
        refine aw_goto 4 dX3_lipsOn_32 rfl ?_
        exact aw_pick [1, 2, 3, 0] rfl h
      · replace h := h.2 c5
        refine aw_iload_n 22 dX3_lipsOn_21 rfl 2 rfl rfl ?_
        refine aw_aload_n 23 dX3_lipsOn_22 rfl 0 rfl rfl ?_
        refine aw_iload_n 24 dX3_lipsOn_23 rfl 3 rfl rfl ?_
        obtain ⟨g8, h⟩ := h
        refine aw_callV (M' := M_X3_lipsAt) 27 102 3 l0 [.int _] [.int _] dX3_lipsOn_24 lk_RX3_102 mv_X3_lipsAt mp_X3_lipsAt rfl ⟨leb rfl, leb rfl⟩ rfl (ltb rfl) g8 rfl (leb rfl) (leb rfl) (leb rfl) rfl (am_X3_lipsAt hG h) (kkI fun v7 X6 h => ?_) (kxN KrI.no)
        refine aw_widen (cc' := 0) (ss' := 0) (leb rfl) (leb rfl) ?_
        refine aw_iadd 28 dX3_lipsOn_27 rfl ?_
        refine aw_istore_n 29 (lv' := [(2, _), (0, _), (1, _), (3, _)]) dX3_lipsOn_28 rfl (ltb rfl) rfl rfl ?_
        refine aw_iinc 32 (v := 1) (lv' := [(3, _), (2, _), (0, _), (1, _)]) dX3_lipsOn_29 3 rfl kI_1 (ltb rfl) rfl rfl ?_
        refine aw_goto 4 dX3_lipsOn_32 rfl ?_
        exact aw_pick [2, 3, 1, 0] rfl h)
set_option maxRecDepth 20000 in
theorem am_X3_lipsOn {G : GG} (hG : G.1.stackTraces = false) {l0 : Nat} {l1 : Int32} {X : XH} {K : Int32 → XH → Prop} (h : w_X3_lipsOn l0 l1 X K) : AM G M_X3_lipsOn X [.ref l0, .int l1] (KrI K) := AM_of (by decide +kernel) rfl (leb rfl) hG (by
  show AW G M_X3_lipsOn 0 [(0, .ref l0), (1, .int l1)] [] X 0 0 _
  unfold w_X3_lipsOn at h
  refine aw_iconst 1 (v := 0) dX3_lipsOn_0 kI_0 rfl ?_
  refine aw_istore_n 2 (lv' := [(2, _), (0, _), (1, _)]) dX3_lipsOn_1 rfl (ltb rfl) rfl rfl ?_
  refine aw_iconst 3 (v := 0) dX3_lipsOn_2 kI_0 rfl ?_
  refine aw_istore_n 4 (lv' := [(3, _), (2, _), (0, _), (1, _)]) dX3_lipsOn_3 rfl (ltb rfl) rfl rfl ?_
  exact aw_pick [2, 3, 1, 0] rfl (aw_X3_lipsOn_4 hG  h))
set_option maxRecDepth 20000 in
theorem am_X4_lengthOf {G : GG} (hG : G.1.stackTraces = false) {l0 : Nat} {l1 : Int32} {X : XH} {K : Int32 → XH → Prop} {KX : String → XH → Prop} (h : w_X4_lengthOf l0 l1 X K KX) : AM G M_X4_lengthOf X [.ref l0, .int l1] (KxT (KrI K) KX) := AM_of (by decide +kernel) rfl (leb rfl) hG (by
  show AW G M_X4_lengthOf 0 [(0, .ref l0), (1, .int l1)] [] X 0 0 _
  unfold w_X4_lengthOf at h
  refine aw_iload_n 1 dX4_lengthOf_0 rfl 1 rfl rfl ?_
  refine aw_callS (M' := M_X4_checkReel) 4 45 [.int _] [] dX4_lengthOf_1 lk_RX4_45 ms_X4_checkReel mp_X4_checkReel rfl ⟨leb rfl, leb rfl⟩ rfl (leb rfl) (leb rfl) (leb rfl) rfl (am_X4_checkReel hG h) (kkT (kkV fun X1 h => ?_)) (kxT KrV.no fun E X h => at_out rfl (leb rfl) (leb rfl) (Or.inr ⟨_, rfl, h⟩))
  refine aw_widen (cc' := 1) (ss' := 6) (leb rfl) (leb rfl) ?_
  refine aw_aload_n 5 dX4_lengthOf_4 rfl 0 rfl rfl ?_
  obtain ⟨g2, h⟩ := h
  obtain ⟨g3, h⟩ := h
  refine aw_getR 8 dX4_lengthOf_5 fl_RX4_10 rfl g2 g3 rfl ?_
  refine aw_iload_n 9 dX4_lengthOf_8 rfl 1 rfl rfl ?_
  obtain ⟨g6, h⟩ := h
  refine aw_callV (M' := M_X3_lipsOn) 12 310 3 (hR X1 l0 0) [.int _] [] dX4_lengthOf_9 lk_RX4_310 mv_X3_lipsOn mp_X3_lipsOn rfl ⟨leb rfl, leb rfl⟩ rfl (ltb rfl) g6 rfl (leb rfl) (leb rfl) (leb rfl) rfl (am_X3_lipsOn hG h) (kkI fun v5 X4 h => ?_) (kxN KrI.no)
  refine aw_widen (cc' := 1) (ss' := 6) (leb rfl) (leb rfl) ?_
  exact aw_ireturn (ty := .int) dX4_lengthOf_12 rfl rfl (leb rfl) (leb rfl) (Or.inl ⟨_, rfl, h⟩))
set_option maxRecDepth 20000 in
theorem am_L_reelAt {G : GG} (hG : G.1.stackTraces = false) {l0 : Nat} {l1 : Int32} {X : XH} {K : Int32 → XH → Prop} (h : w_L_reelAt l0 l1 X K) : AM G M_L_reelAt X [.ref l0, .int l1] (KrI K) := AM_ofH (by decide +kernel) (0, 14, 15, 15) [] rfl (leb rfl) hG (by
  show AW G M_L_reelAt 0 [(0, .ref l0), (1, .int l1)] [] X 0 0 _
  unfold w_L_reelAt at h
  refine aw_aload_n 1 dL_reelAt_0 rfl 0 rfl rfl ?_
  refine aw_iload_n 2 dL_reelAt_1 rfl 1 rfl rfl ?_
  obtain ⟨g3, h⟩ := h
  refine aw_callV (M' := M_X4_clausesIn) 5 115 4 l0 [.int _] [] dL_reelAt_2 lk_RL_115 mv_X4_clausesIn mp_X4_clausesIn rfl ⟨leb rfl, leb rfl⟩ rfl (ltb rfl) g3 rfl (leb rfl) (leb rfl) (leb rfl) rfl (am_X4_clausesIn hG h) (kkT (kkI fun v2 X1 h => ?_)) (kxT KrI.no fun E X1 h => ?_)
  · refine aw_widen (cc' := 1) (ss' := 6) (leb rfl) (leb rfl) ?_
    refine aw_bipush 7 (v := 100) dL_reelAt_5 kB_100 rfl ?_
    refine aw_aload_n 8 dL_reelAt_7 rfl 0 rfl rfl ?_
    refine aw_iload_n 9 dL_reelAt_8 rfl 1 rfl rfl ?_
    obtain ⟨g6, h⟩ := h
    refine aw_callV (M' := M_X4_lengthOf) 12 118 4 l0 [.int _] [.int _, .int _] dL_reelAt_9 lk_RL_118 mv_X4_lengthOf mp_X4_lengthOf rfl ⟨leb rfl, leb rfl⟩ rfl (ltb rfl) g6 rfl (leb rfl) (leb rfl) (leb rfl) rfl (am_X4_lengthOf hG h) (kkT (kkI fun v5 X4 h => ?_)) (kxT KrI.no fun E X4 h => ?_)
    · refine aw_widen (cc' := 2) (ss' := 12) (leb rfl) (leb rfl) ?_
      refine aw_imul 13 dL_reelAt_12 rfl ?_
      refine aw_iadd 14 dL_reelAt_13 rfl ?_
      exact aw_ireturn (ty := .int) dL_reelAt_14 rfl rfl (leb rfl) (leb rfl) ⟨_, rfl, h⟩
    · obtain ⟨hE, h⟩ := h
      rcases hE with rfl
      refine aw_atc (lv' := [(0, .ref _), (1, .int _)]) [] (0, 14, 15, 15) [] rfl (fun z hz => nomatch hz) (by decide) (by decide) (tk3 (i := 40) (by decide +kernel) rfl) (by decide) 2 1 16 (Or.inl ⟨2, rfl, dL_reelAt_15, rfl⟩) (ltb rfl) rfl ?_
      refine aw_widen (cc' := 2) (ss' := 12) (leb rfl) (leb rfl) ?_
      replace h := h rfl
      refine aw_bipush 18 (v := -2) dL_reelAt_16 kB_m2 rfl ?_
      exact aw_ireturn (ty := .int) dL_reelAt_18 rfl rfl (leb rfl) (leb rfl) ⟨_, rfl, h⟩
  · obtain ⟨hE, h⟩ := h
    rcases hE with rfl
    refine aw_atc (lv' := [(0, .ref _), (1, .int _)]) [] (0, 14, 15, 15) [] rfl (fun z hz => nomatch hz) (by decide) (by decide) (tk3 (i := 40) (by decide +kernel) rfl) (by decide) 2 1 16 (Or.inl ⟨2, rfl, dL_reelAt_15, rfl⟩) (ltb rfl) rfl ?_
    refine aw_widen (cc' := 1) (ss' := 6) (leb rfl) (leb rfl) ?_
    replace h := h rfl
    refine aw_bipush 18 (v := -2) dL_reelAt_16 kB_m2 rfl ?_
    exact aw_ireturn (ty := .int) dL_reelAt_18 rfl rfl (leb rfl) (leb rfl) ⟨_, rfl, h⟩)
set_option maxRecDepth 20000 in
theorem aw_X3_longestToTake_4 {G : GG} (hG : G.1.stackTraces = false)  {l0 : Nat} {l1 : Int32} {l2 : Int32} {l3 : Int32} {X : XH} {K : Int32 → XH → Prop}  (h : w_X3_longestToTake_4  l0 l1 l2 l3 X K) : AW G M_X3_longestToTake 4 [(0, .ref l0), (1, .int l1), (2, .int l2), (3, .int l3)] [] X 0 0 (KrI K) :=
  h (fun l0 l1 l2 l3 X => AW G M_X3_longestToTake 4 [(0, .ref l0), (1, .int l1), (2, .int l2), (3, .int l3)] [] X 0 0 (KrI K)) (fun l0 l1 l2 l3 X h => by
    refine aw_iload_n 5 dX3_longestToTake_4 rfl 3 rfl rfl ?_
    refine aw_aload_n 6 dX3_longestToTake_5 rfl 0 rfl rfl ?_
    obtain ⟨g1, h⟩ := h
    refine aw_getI 9 dX3_longestToTake_6 fl_RX3_45 rfl g1 rfl ?_
    refine aw_icmp_ge 49 12 dX3_longestToTake_9 rfl rfl (fun c2 => ?_) (fun c2 => ?_)
    · replace h := h.1 c2
      refine aw_iload_n 50 dX3_longestToTake_49 rfl 2 rfl rfl ?_
      exact aw_ireturn (ty := .int) dX3_longestToTake_50 rfl rfl (leb rfl) (leb rfl) ⟨_, rfl, h⟩
    · replace h := h.2 c2
      refine aw_aload_n 13 dX3_longestToTake_12 rfl 0 rfl rfl ?_
      refine aw_iload_n 14 dX3_longestToTake_13 rfl 3 rfl rfl ?_
      refine aw_iload_n 15 dX3_longestToTake_14 rfl 1 rfl rfl ?_
      refine aw_callV (M' := M_X3_reasonAt) 18 178 3 l0 [.int _, .int _] [] dX3_longestToTake_15 lk_RX3_178 mv_X3_reasonAt mp_X3_reasonAt rfl ⟨leb rfl, leb rfl⟩ rfl (ltb rfl) g1 rfl (leb rfl) (leb rfl) (leb rfl) rfl (am_X3_reasonAt hG h) (kkI fun v4 X3 h => ?_) (kxN KrI.no)
      refine aw_widen (cc' := 0) (ss' := 0) (leb rfl) (leb rfl) ?_
      refine aw_if_ne 43 21 dX3_longestToTake_18 rfl rfl (fun c5 => ?_) (fun c5 => ?_)
      · replace h := h.1 c5
        refine aw_iinc 46 (v := 1) (lv' := [(3, _), (0, _), (1, _), (2, _)]) dX3_longestToTake_43 3 rfl kI_1 (ltb rfl) rfl rfl ?_
        refine aw_goto 4 dX3_longestToTake_46 rfl ?_
        exact aw_pick [1, 2, 3, 0] rfl h
      · replace h := h.2 c5
        refine aw_iload_n 22 dX3_longestToTake_21 rfl 2 rfl rfl ?_
        refine aw_iconst 23 (v := -1) dX3_longestToTake_22 kI_m1 rfl ?_
        refine aw_icmp_eq 41 26 dX3_longestToTake_23 rfl rfl (fun c6 => ?_) (fun c6 => ?_)
        · replace h := h.1 c6
          refine aw_iload_n 42 dX3_longestToTake_41 rfl 3 rfl rfl ?_
          refine aw_istore_n 43 (lv' := [(2, _), (0, _), (1, _), (3, _)]) dX3_longestToTake_42 rfl (ltb rfl) rfl rfl ?_
          refine aw_iinc 46 (v := 1) (lv' := [(3, _), (2, _), (0, _), (1, _)]) dX3_longestToTake_43 3 rfl kI_1 (ltb rfl) rfl rfl ?_
          refine aw_goto 4 dX3_longestToTake_46 rfl ?_
          exact aw_pick [2, 3, 1, 0] rfl h
        · replace h := h.2 c6
          refine aw_aload_n 27 dX3_longestToTake_26 rfl 0 rfl rfl ?_
          refine aw_iload_n 28 dX3_longestToTake_27 rfl 3 rfl rfl ?_
          refine aw_iload_n 29 dX3_longestToTake_28 rfl 1 rfl rfl ?_
          obtain ⟨g9, h⟩ := h
          refine aw_callV (M' := M_X3_spokenAt) 32 85 3 l0 [.int _, .int _] [] dX3_longestToTake_29 lk_RX3_85 mv_X3_spokenAt mp_X3_spokenAt rfl ⟨leb rfl, leb rfl⟩ rfl (ltb rfl) g9 rfl (leb rfl) (leb rfl) (leb rfl) rfl (am_X3_spokenAt hG h) (kkI fun v8 X7 h => ?_) (kxN KrI.no)
          refine aw_widen (cc' := 0) (ss' := 0) (leb rfl) (leb rfl) ?_
          refine aw_aload_n 33 dX3_longestToTake_32 rfl 0 rfl rfl ?_
          refine aw_iload_n 34 dX3_longestToTake_33 rfl 2 rfl rfl ?_
          refine aw_iload_n 35 dX3_longestToTake_34 rfl 1 rfl rfl ?_
          obtain ⟨g12, h⟩ := h
          refine aw_callV (M' := M_X3_spokenAt) 38 85 3 l0 [.int _, .int _] [.int _] dX3_longestToTake_35 lk_RX3_85 mv_X3_spokenAt mp_X3_spokenAt rfl ⟨leb rfl, leb rfl⟩ rfl (ltb rfl) g12 rfl (leb rfl) (leb rfl) (leb rfl) rfl (am_X3_spokenAt hG h) (kkI fun v11 X10 h => ?_) (kxN KrI.no)
          refine aw_widen (cc' := 0) (ss' := 0) (leb rfl) (leb rfl) ?_
          refine aw_icmp_le 43 41 dX3_longestToTake_38 rfl rfl (fun c13 => ?_) (fun c13 => ?_)
          · replace h := h.1 c13
            refine aw_iinc 46 (v := 1) (lv' := [(3, _), (0, _), (1, _), (2, _)]) dX3_longestToTake_43 3 rfl kI_1 (ltb rfl) rfl rfl ?_
            refine aw_goto 4 dX3_longestToTake_46 rfl ?_
            exact aw_pick [1, 2, 3, 0] rfl h
          · replace h := h.2 c13
            refine aw_iload_n 42 dX3_longestToTake_41 rfl 3 rfl rfl ?_
            refine aw_istore_n 43 (lv' := [(2, _), (0, _), (1, _), (3, _)]) dX3_longestToTake_42 rfl (ltb rfl) rfl rfl ?_
            refine aw_iinc 46 (v := 1) (lv' := [(3, _), (2, _), (0, _), (1, _)]) dX3_longestToTake_43 3 rfl kI_1 (ltb rfl) rfl rfl ?_
            refine aw_goto 4 dX3_longestToTake_46 rfl ?_
            exact aw_pick [2, 3, 1, 0] rfl h)
set_option maxRecDepth 20000 in
theorem am_X3_longestToTake {G : GG} (hG : G.1.stackTraces = false) {l0 : Nat} {l1 : Int32} {X : XH} {K : Int32 → XH → Prop} (h : w_X3_longestToTake l0 l1 X K) : AM G M_X3_longestToTake X [.ref l0, .int l1] (KrI K) := AM_of (by decide +kernel) rfl (leb rfl) hG (by
  show AW G M_X3_longestToTake 0 [(0, .ref l0), (1, .int l1)] [] X 0 0 _
  unfold w_X3_longestToTake at h
  refine aw_iconst 1 (v := -1) dX3_longestToTake_0 kI_m1 rfl ?_
  refine aw_istore_n 2 (lv' := [(2, _), (0, _), (1, _)]) dX3_longestToTake_1 rfl (ltb rfl) rfl rfl ?_
  refine aw_iconst 3 (v := 0) dX3_longestToTake_2 kI_0 rfl ?_
  refine aw_istore_n 4 (lv' := [(3, _), (2, _), (0, _), (1, _)]) dX3_longestToTake_3 rfl (ltb rfl) rfl rfl ?_
  exact aw_pick [2, 3, 1, 0] rfl (aw_X3_longestToTake_4 hG  h))
set_option maxRecDepth 20000 in
theorem am_X4_nextClause {G : GG} (hG : G.1.stackTraces = false) {l0 : Nat} {l1 : Int32} {X : XH} {K : Int32 → XH → Prop} {KX : String → XH → Prop} (h : w_X4_nextClause l0 l1 X K KX) : AM G M_X4_nextClause X [.ref l0, .int l1] (KxT (KrI K) KX) := AM_of (by decide +kernel) rfl (leb rfl) hG (by
  show AW G M_X4_nextClause 0 [(0, .ref l0), (1, .int l1)] [] X 0 0 _
  unfold w_X4_nextClause at h
  refine aw_iload_n 1 dX4_nextClause_0 rfl 1 rfl rfl ?_
  refine aw_callS (M' := M_X4_checkTongue) 4 195 [.int _] [] dX4_nextClause_1 lk_RX4_195 ms_X4_checkTongue mp_X4_checkTongue rfl ⟨leb rfl, leb rfl⟩ rfl (leb rfl) (leb rfl) (leb rfl) rfl (am_X4_checkTongue hG h) (kkT (kkV fun X1 h => ?_)) (kxT KrV.no fun E X h => at_out rfl (leb rfl) (leb rfl) (Or.inr ⟨_, rfl, h⟩))
  refine aw_widen (cc' := 1) (ss' := 6) (leb rfl) (leb rfl) ?_
  refine aw_aload_n 5 dX4_nextClause_4 rfl 0 rfl rfl ?_
  obtain ⟨g2, h⟩ := h
  obtain ⟨g3, h⟩ := h
  refine aw_getR 8 dX4_nextClause_5 fl_RX4_10 rfl g2 g3 rfl ?_
  refine aw_iload_n 9 dX4_nextClause_8 rfl 1 rfl rfl ?_
  obtain ⟨g6, h⟩ := h
  refine aw_callV (M' := M_X3_longestToTake) 12 350 3 (hR X1 l0 0) [.int _] [] dX4_nextClause_9 lk_RX4_350 mv_X3_longestToTake mp_X3_longestToTake rfl ⟨leb rfl, leb rfl⟩ rfl (ltb rfl) g6 rfl (leb rfl) (leb rfl) (leb rfl) rfl (am_X3_longestToTake hG h) (kkI fun v5 X4 h => ?_) (kxN KrI.no)
  refine aw_widen (cc' := 1) (ss' := 6) (leb rfl) (leb rfl) ?_
  refine aw_istore_n 13 (lv' := [(2, _), (0, _), (1, _)]) dX4_nextClause_12 rfl (ltb rfl) rfl rfl ?_
  refine aw_iload_n 14 dX4_nextClause_13 rfl 0 rfl rfl ?_
  refine aw_iconst 15 (v := -1) dX4_nextClause_14 kI_m1 rfl ?_
  refine aw_icmp_ne 29 18 dX4_nextClause_15 rfl rfl (fun c7 => ?_) (fun c7 => ?_)
  · replace h := h.1 c7
    refine aw_iload_n 30 dX4_nextClause_29 rfl 0 rfl rfl ?_
    exact aw_ireturn (ty := .int) dX4_nextClause_30 rfl rfl (leb rfl) (leb rfl) (Or.inl ⟨_, rfl, h⟩)
  · replace h := h.2 c7
    exact aw_throw xcS 60 353 64 rfl th_xcS (by decide) (Or.inr ⟨dX4_nextClause_18, dX4_nextClause_21, dX4_nextClause_22, dX4_nextClause_25, dX4_nextClause_28⟩) rfl (ltb rfl) (leb rfl) (leb rfl) (leb rfl) (Or.inr ⟨_, rfl, h⟩))
set_option maxRecDepth 20000 in
theorem am_L_nextClause {G : GG} (hG : G.1.stackTraces = false) {l0 : Nat} {l1 : Int32} {X : XH} {K : Int32 → XH → Prop} (h : w_L_nextClause l0 l1 X K) : AM G M_L_nextClause X [.ref l0, .int l1] (KrI K) := AM_ofH (by decide +kernel) (0, 5, 6, 15) [(0, 5, 10, 19)] rfl (leb rfl) hG (by
  show AW G M_L_nextClause 0 [(0, .ref l0), (1, .int l1)] [] X 0 0 _
  unfold w_L_nextClause at h
  refine aw_aload_n 1 dL_nextClause_0 rfl 0 rfl rfl ?_
  refine aw_iload_n 2 dL_nextClause_1 rfl 1 rfl rfl ?_
  obtain ⟨g3, h⟩ := h
  refine aw_callV (M' := M_X4_nextClause) 5 166 4 l0 [.int _] [] dL_nextClause_2 lk_RL_166 mv_X4_nextClause mp_X4_nextClause rfl ⟨leb rfl, leb rfl⟩ rfl (ltb rfl) g3 rfl (leb rfl) (leb rfl) (leb rfl) rfl (am_X4_nextClause hG h) (kkT (kkI fun v2 X1 h => ?_)) (kxT KrI.no fun E X1 h => ?_)
  · refine aw_widen (cc' := 2) (ss' := 12) (leb rfl) (leb rfl) ?_
    exact aw_ireturn (ty := .int) dL_nextClause_5 rfl rfl (leb rfl) (leb rfl) ⟨_, rfl, h⟩
  · obtain ⟨hE, h⟩ := h
    rcases hE with rfl | rfl
    · refine aw_atc (lv' := [(0, .ref _), (1, .int _)]) [] (0, 5, 6, 15) [(0, 5, 10, 19)] rfl (fun z hz => nomatch hz) (by decide) (by decide) (tk3 (i := 40) (by decide +kernel) rfl) (by decide) 2 1 7 (Or.inl ⟨2, rfl, dL_nextClause_6, rfl⟩) (ltb rfl) rfl ?_
      refine aw_widen (cc' := 2) (ss' := 12) (leb rfl) (leb rfl) ?_
      replace h := h.1 rfl
      refine aw_bipush 9 (v := -2) dL_nextClause_7 kB_m2 rfl ?_
      exact aw_ireturn (ty := .int) dL_nextClause_9 rfl rfl (leb rfl) (leb rfl) ⟨_, rfl, h⟩
    · refine aw_atc (lv' := [(0, .ref _), (1, .int _)]) [(0, 5, 6, 15)] (0, 5, 10, 19) [] rfl (by intro z hz; simp only [List.mem_cons, List.not_mem_nil, or_false] at hz; rcases hz with rfl <;> first | exact ⟨by decide, xcI, tk3 (i := 40) (by decide +kernel) rfl, by decide⟩) (by decide) (by decide) (tk3 (i := 42) (by decide +kernel) rfl) (by decide) 2 1 11 (Or.inl ⟨2, rfl, dL_nextClause_10, rfl⟩) (ltb rfl) rfl ?_
      refine aw_widen (cc' := 2) (ss' := 12) (leb rfl) (leb rfl) ?_
      replace h := h.2 rfl
      refine aw_bipush 13 (v := -4) dL_nextClause_11 kB_m4 rfl ?_
      exact aw_ireturn (ty := .int) dL_nextClause_13 rfl rfl (leb rfl) (leb rfl) ⟨_, rfl, h⟩)
set_option maxRecDepth 20000 in
theorem am_X4_annexOf {G : GG} (hG : G.1.stackTraces = false) {l0 : Nat} {l1 : Int32} {X : XH} {K : Int32 → XH → Prop} {KX : String → XH → Prop} (h : w_X4_annexOf l0 l1 X K KX) : AM G M_X4_annexOf X [.ref l0, .int l1] (KxT (KrI K) KX) := AM_of (by decide +kernel) rfl (leb rfl) hG (by
  show AW G M_X4_annexOf 0 [(0, .ref l0), (1, .int l1)] [] X 0 0 _
  unfold w_X4_annexOf at h
  refine aw_iload_n 1 dX4_annexOf_0 rfl 1 rfl rfl ?_
  refine aw_callS (M' := M_X4_checkTongue) 4 195 [.int _] [] dX4_annexOf_1 lk_RX4_195 ms_X4_checkTongue mp_X4_checkTongue rfl ⟨leb rfl, leb rfl⟩ rfl (leb rfl) (leb rfl) (leb rfl) rfl (am_X4_checkTongue hG h) (kkT (kkV fun X1 h => ?_)) (kxT KrV.no fun E X h => at_out rfl (leb rfl) (leb rfl) (Or.inr ⟨_, rfl, h⟩))
  refine aw_widen (cc' := 1) (ss' := 6) (leb rfl) (leb rfl) ?_
  refine aw_aload_n 5 dX4_annexOf_4 rfl 0 rfl rfl ?_
  obtain ⟨g2, h⟩ := h
  obtain ⟨g3, h⟩ := h
  refine aw_getR 8 dX4_annexOf_5 fl_RX4_10 rfl g2 g3 rfl ?_
  refine aw_iload_n 9 dX4_annexOf_8 rfl 1 rfl rfl ?_
  obtain ⟨g6, h⟩ := h
  refine aw_callV (M' := M_X3_annexTotal) 12 145 3 (hR X1 l0 0) [.int _] [] dX4_annexOf_9 lk_RX4_145 mv_X3_annexTotal mp_X3_annexTotal rfl ⟨leb rfl, leb rfl⟩ rfl (ltb rfl) g6 rfl (leb rfl) (leb rfl) (leb rfl) rfl (am_X3_annexTotal hG h) (kkI fun v5 X4 h => ?_) (kxN KrI.no)
  refine aw_widen (cc' := 1) (ss' := 6) (leb rfl) (leb rfl) ?_
  exact aw_ireturn (ty := .int) dX4_annexOf_12 rfl rfl (leb rfl) (leb rfl) (Or.inl ⟨_, rfl, h⟩))
set_option maxRecDepth 20000 in
theorem am_X4_recordedIn {G : GG} (hG : G.1.stackTraces = false) {l0 : Nat} {l1 : Int32} {X : XH} {K : Int32 → XH → Prop} {KX : String → XH → Prop} (h : w_X4_recordedIn l0 l1 X K KX) : AM G M_X4_recordedIn X [.ref l0, .int l1] (KxT (KrI K) KX) := AM_of (by decide +kernel) rfl (leb rfl) hG (by
  show AW G M_X4_recordedIn 0 [(0, .ref l0), (1, .int l1)] [] X 0 0 _
  unfold w_X4_recordedIn at h
  refine aw_iload_n 1 dX4_recordedIn_0 rfl 1 rfl rfl ?_
  refine aw_callS (M' := M_X4_checkTongue) 4 195 [.int _] [] dX4_recordedIn_1 lk_RX4_195 ms_X4_checkTongue mp_X4_checkTongue rfl ⟨leb rfl, leb rfl⟩ rfl (leb rfl) (leb rfl) (leb rfl) rfl (am_X4_checkTongue hG h) (kkT (kkV fun X1 h => ?_)) (kxT KrV.no fun E X h => at_out rfl (leb rfl) (leb rfl) (Or.inr ⟨_, rfl, h⟩))
  refine aw_widen (cc' := 1) (ss' := 6) (leb rfl) (leb rfl) ?_
  refine aw_aload_n 5 dX4_recordedIn_4 rfl 0 rfl rfl ?_
  obtain ⟨g2, h⟩ := h
  obtain ⟨g3, h⟩ := h
  refine aw_getR 8 dX4_recordedIn_5 fl_RX4_10 rfl g2 g3 rfl ?_
  refine aw_iload_n 9 dX4_recordedIn_8 rfl 1 rfl rfl ?_
  obtain ⟨g6, h⟩ := h
  refine aw_callV (M' := M_X3_takenTotal) 12 316 3 (hR X1 l0 0) [.int _] [] dX4_recordedIn_9 lk_RX4_316 mv_X3_takenTotal mp_X3_takenTotal rfl ⟨leb rfl, leb rfl⟩ rfl (ltb rfl) g6 rfl (leb rfl) (leb rfl) (leb rfl) rfl (am_X3_takenTotal hG h) (kkI fun v5 X4 h => ?_) (kxN KrI.no)
  refine aw_widen (cc' := 1) (ss' := 6) (leb rfl) (leb rfl) ?_
  exact aw_ireturn (ty := .int) dX4_recordedIn_12 rfl rfl (leb rfl) (leb rfl) (Or.inl ⟨_, rfl, h⟩))
set_option maxRecDepth 20000 in
theorem aw_X3_misfitTotal_4 {G : GG} (hG : G.1.stackTraces = false)  {l0 : Nat} {l1 : Int32} {l2 : Int32} {l3 : Int32} {X : XH} {K : Int32 → XH → Prop}  (h : w_X3_misfitTotal_4  l0 l1 l2 l3 X K) : AW G M_X3_misfitTotal 4 [(0, .ref l0), (1, .int l1), (2, .int l2), (3, .int l3)] [] X 0 0 (KrI K) :=
  h (fun l0 l1 l2 l3 X => AW G M_X3_misfitTotal 4 [(0, .ref l0), (1, .int l1), (2, .int l2), (3, .int l3)] [] X 0 0 (KrI K)) (fun l0 l1 l2 l3 X h => by
    refine aw_iload_n 5 dX3_misfitTotal_4 rfl 3 rfl rfl ?_
    refine aw_aload_n 6 dX3_misfitTotal_5 rfl 0 rfl rfl ?_
    obtain ⟨g1, h⟩ := h
    refine aw_getI 9 dX3_misfitTotal_6 fl_RX3_45 rfl g1 rfl ?_
    refine aw_icmp_ge 39 12 dX3_misfitTotal_9 rfl rfl (fun c2 => ?_) (fun c2 => ?_)
    · replace h := h.1 c2
      refine aw_iload_n 40 dX3_misfitTotal_39 rfl 2 rfl rfl ?_
      exact aw_ireturn (ty := .int) dX3_misfitTotal_40 rfl rfl (leb rfl) (leb rfl) ⟨_, rfl, h⟩
    · replace h := h.2 c2
      refine aw_aload_n 13 dX3_misfitTotal_12 rfl 0 rfl rfl ?_
      refine aw_iload_n 14 dX3_misfitTotal_13 rfl 3 rfl rfl ?_
      refine aw_iload_n 15 dX3_misfitTotal_14 rfl 1 rfl rfl ?_
      refine aw_callV (M' := M_X3_hasTranslation) 18 108 3 l0 [.int _, .int _] [] dX3_misfitTotal_15 lk_RX3_108 mv_X3_hasTranslation mp_X3_hasTranslation rfl ⟨leb rfl, leb rfl⟩ rfl (ltb rfl) g1 rfl (leb rfl) (leb rfl) (leb rfl) rfl (am_X3_hasTranslation hG h) (kkI fun v4 X3 h => ?_) (kxN KrI.no)
      refine aw_widen (cc' := 0) (ss' := 0) (leb rfl) (leb rfl) ?_
      refine aw_if_eq 33 21 dX3_misfitTotal_18 rfl rfl (fun c5 => ?_) (fun c5 => ?_)
      · replace h := h.1 c5
        refine aw_iinc 36 (v := 1) (lv' := [(3, _), (0, _), (1, _), (2, _)]) dX3_misfitTotal_33 3 rfl kI_1 (ltb rfl) rfl rfl ?_
        refine aw_goto 4 dX3_misfitTotal_36 rfl ?_
        exact aw_pick [1, 2, 3, 0] rfl h
      · replace h := h.2 c5
        refine aw_aload_n 22 dX3_misfitTotal_21 rfl 0 rfl rfl ?_
        refine aw_iload_n 23 dX3_misfitTotal_22 rfl 3 rfl rfl ?_
        refine aw_iload_n 24 dX3_misfitTotal_23 rfl 1 rfl rfl ?_
        obtain ⟨g8, h⟩ := h
        refine aw_callV (M' := M_X3_hasFit) 27 105 3 l0 [.int _, .int _] [] dX3_misfitTotal_24 lk_RX3_105 mv_X3_hasFit mp_X3_hasFit rfl ⟨leb rfl, leb rfl⟩ rfl (ltb rfl) g8 rfl (leb rfl) (leb rfl) (leb rfl) rfl (am_X3_hasFit hG h) (kkI fun v7 X6 h => ?_) (kxN KrI.no)
        refine aw_widen (cc' := 0) (ss' := 0) (leb rfl) (leb rfl) ?_
        refine aw_if_ne 33 30 dX3_misfitTotal_27 rfl rfl (fun c9 => ?_) (fun c9 => ?_)
        · replace h := h.1 c9
          refine aw_iinc 36 (v := 1) (lv' := [(3, _), (0, _), (1, _), (2, _)]) dX3_misfitTotal_33 3 rfl kI_1 (ltb rfl) rfl rfl ?_
          refine aw_goto 4 dX3_misfitTotal_36 rfl ?_
          exact aw_pick [1, 2, 3, 0] rfl h
        · replace h := h.2 c9
          refine aw_iinc 33 (v := 1) (lv' := [(2, _), (0, _), (1, _), (3, _)]) dX3_misfitTotal_30 2 rfl kI_1 (ltb rfl) rfl rfl ?_
          refine aw_iinc 36 (v := 1) (lv' := [(3, _), (2, _), (0, _), (1, _)]) dX3_misfitTotal_33 3 rfl kI_1 (ltb rfl) rfl rfl ?_
          refine aw_goto 4 dX3_misfitTotal_36 rfl ?_
          exact aw_pick [2, 3, 1, 0] rfl h)
set_option maxRecDepth 20000 in
theorem am_X3_misfitTotal {G : GG} (hG : G.1.stackTraces = false) {l0 : Nat} {l1 : Int32} {X : XH} {K : Int32 → XH → Prop} (h : w_X3_misfitTotal l0 l1 X K) : AM G M_X3_misfitTotal X [.ref l0, .int l1] (KrI K) := AM_of (by decide +kernel) rfl (leb rfl) hG (by
  show AW G M_X3_misfitTotal 0 [(0, .ref l0), (1, .int l1)] [] X 0 0 _
  unfold w_X3_misfitTotal at h
  refine aw_iconst 1 (v := 0) dX3_misfitTotal_0 kI_0 rfl ?_
  refine aw_istore_n 2 (lv' := [(2, _), (0, _), (1, _)]) dX3_misfitTotal_1 rfl (ltb rfl) rfl rfl ?_
  refine aw_iconst 3 (v := 0) dX3_misfitTotal_2 kI_0 rfl ?_
  refine aw_istore_n 4 (lv' := [(3, _), (2, _), (0, _), (1, _)]) dX3_misfitTotal_3 rfl (ltb rfl) rfl rfl ?_
  exact aw_pick [2, 3, 1, 0] rfl (aw_X3_misfitTotal_4 hG  h))
set_option maxRecDepth 20000 in
theorem am_X4_misfitsIn {G : GG} (hG : G.1.stackTraces = false) {l0 : Nat} {l1 : Int32} {X : XH} {K : Int32 → XH → Prop} {KX : String → XH → Prop} (h : w_X4_misfitsIn l0 l1 X K KX) : AM G M_X4_misfitsIn X [.ref l0, .int l1] (KxT (KrI K) KX) := AM_of (by decide +kernel) rfl (leb rfl) hG (by
  show AW G M_X4_misfitsIn 0 [(0, .ref l0), (1, .int l1)] [] X 0 0 _
  unfold w_X4_misfitsIn at h
  refine aw_iload_n 1 dX4_misfitsIn_0 rfl 1 rfl rfl ?_
  refine aw_callS (M' := M_X4_checkTongue) 4 195 [.int _] [] dX4_misfitsIn_1 lk_RX4_195 ms_X4_checkTongue mp_X4_checkTongue rfl ⟨leb rfl, leb rfl⟩ rfl (leb rfl) (leb rfl) (leb rfl) rfl (am_X4_checkTongue hG h) (kkT (kkV fun X1 h => ?_)) (kxT KrV.no fun E X h => at_out rfl (leb rfl) (leb rfl) (Or.inr ⟨_, rfl, h⟩))
  refine aw_widen (cc' := 1) (ss' := 6) (leb rfl) (leb rfl) ?_
  refine aw_aload_n 5 dX4_misfitsIn_4 rfl 0 rfl rfl ?_
  obtain ⟨g2, h⟩ := h
  obtain ⟨g3, h⟩ := h
  refine aw_getR 8 dX4_misfitsIn_5 fl_RX4_10 rfl g2 g3 rfl ?_
  refine aw_iload_n 9 dX4_misfitsIn_8 rfl 1 rfl rfl ?_
  obtain ⟨g6, h⟩ := h
  refine aw_callV (M' := M_X3_misfitTotal) 12 328 3 (hR X1 l0 0) [.int _] [] dX4_misfitsIn_9 lk_RX4_328 mv_X3_misfitTotal mp_X3_misfitTotal rfl ⟨leb rfl, leb rfl⟩ rfl (ltb rfl) g6 rfl (leb rfl) (leb rfl) (leb rfl) rfl (am_X3_misfitTotal hG h) (kkI fun v5 X4 h => ?_) (kxN KrI.no)
  refine aw_widen (cc' := 1) (ss' := 6) (leb rfl) (leb rfl) ?_
  exact aw_ireturn (ty := .int) dX4_misfitsIn_12 rfl rfl (leb rfl) (leb rfl) (Or.inl ⟨_, rfl, h⟩))
end XWK4
