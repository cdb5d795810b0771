/-! the walks of methods, as predicates -/
section XWK1
set_option maxRecDepth 20000 in
theorem am_L_append {G : GG} (hG : G.1.stackTraces = false) {l0 : Nat} {l1 : Int32} {l2 : Nat} {X : XH} {K : Int32 → XH → Prop} (h : w_L_append l0 l1 l2 X K) : AM G M_L_append X [.ref l0, .int l1, .ref l2] (KrI K) := AM_ofH (by decide +kernel) (0, 9, 12, 15) [(0, 9, 15, 17)] rfl (leb rfl) hG (by
  show AW G M_L_append 0 [(0, .ref l0), (1, .int l1), (2, .ref l2)] [] X 0 0 _
  unfold w_L_append at h
  refine aw_aload_n 1 dL_append_0 rfl 2 rfl rfl ?_
  refine aw_iconst 2 (v := 0) dL_append_1 kI_0 rfl ?_
  refine aw_aload_n 3 dL_append_2 rfl 0 rfl rfl ?_
  refine aw_iload_n 4 dL_append_3 rfl 1 rfl rfl ?_
  obtain ⟨g3, h⟩ := h
  refine aw_callV (M' := M_X4_append) 7 57 4 l0 [.int _] [.int _, .ref _] dL_append_4 lk_RL_57 mv_X4_append mp_X4_append rfl ⟨leb rfl, leb rfl⟩ rfl (ltb rfl) g3 rfl (leb rfl) (leb rfl) (leb rfl) rfl (am_X4_append hG h) (kkT (kkI fun v2 X1 h => ?_)) (kxT KrI.no fun E X1 h => ?_)
  · refine aw_widen (cc' := 2) (ss' := 12) (leb rfl) (leb rfl) ?_
    refine aw_i2l 8 dL_append_7 rfl ?_
    obtain ⟨g4, h⟩ := h
    obtain ⟨g5, h⟩ := h
    refine aw_lastore 9 dL_append_8 g4 g5 rfl ?_
    refine aw_goto 18 dL_append_9 rfl ?_
    refine aw_iconst 19 (v := 0) dL_append_18 kI_0 rfl ?_
    exact aw_ireturn (ty := .int) dL_append_19 rfl rfl (leb rfl) (leb rfl) ⟨_, rfl, h⟩
  · obtain ⟨hE, h⟩ := h
    rcases hE with rfl | rfl
    · refine aw_atc (lv' := [(0, .ref _), (1, .int _), (2, .ref _)]) [] (0, 9, 12, 15) [(0, 9, 15, 17)] rfl (fun z hz => nomatch hz) (by decide) (by decide) (tk3 (i := 62) (by decide +kernel) rfl) (by decide) 3 1 13 (Or.inl ⟨3, rfl, dL_append_12, rfl⟩) (ltb rfl) rfl ?_
      refine aw_widen (cc' := 2) (ss' := 12) (leb rfl) (leb rfl) ?_
      replace h := h.1 rfl
      refine aw_iconst 14 (v := 1) dL_append_13 kI_1 rfl ?_
      exact aw_ireturn (ty := .int) dL_append_14 rfl rfl (leb rfl) (leb rfl) ⟨_, rfl, h⟩
    · refine aw_atc (lv' := [(0, .ref _), (1, .int _), (2, .ref _)]) [(0, 9, 12, 15)] (0, 9, 15, 17) [] rfl (by intro z hz; simp only [List.mem_cons, List.not_mem_nil, or_false] at hz; rcases hz with rfl <;> first | exact ⟨by decide, xcA, tk3 (i := 62) (by decide +kernel) rfl, by decide⟩) (by decide) (by decide) (tk3 (i := 63) (by decide +kernel) rfl) (by decide) 3 1 16 (Or.inl ⟨3, rfl, dL_append_15, rfl⟩) (ltb rfl) rfl ?_
      refine aw_widen (cc' := 2) (ss' := 12) (leb rfl) (leb rfl) ?_
      replace h := h.2 rfl
      refine aw_iconst 17 (v := 2) dL_append_16 kI_2 rfl ?_
      exact aw_ireturn (ty := .int) dL_append_17 rfl rfl (leb rfl) (leb rfl) ⟨_, rfl, h⟩)
set_option maxRecDepth 20000 in
theorem am_X4_bringBack {G : GG} (hG : G.1.stackTraces = false) {l0 : Nat} {l1 : Int32} {l2 : Int32} {X : XH} {K : Int32 → XH → Prop} {KX : String → XH → Prop} (h : w_X4_bringBack l0 l1 l2 X K KX) : AM G M_X4_bringBack X [.ref l0, .int l1, .int l2] (KxT (KrI K) KX) := AM_of (by decide +kernel) rfl (leb rfl) hG (by
  show AW G M_X4_bringBack 0 [(0, .ref l0), (1, .int l1), (2, .int l2)] [] X 0 0 _
  unfold w_X4_bringBack at h
  refine aw_aload_n 1 dX4_bringBack_0 rfl 0 rfl rfl ?_
  refine aw_iload_n 2 dX4_bringBack_1 rfl 1 rfl rfl ?_
  refine aw_iload_n 3 dX4_bringBack_2 rfl 2 rfl rfl ?_
  obtain ⟨g2, h⟩ := h
  refine aw_callV (M' := M_X4_checkTranslation) 6 115 4 l0 [.int _, .int _] [] dX4_bringBack_3 lk_RX4_115 mv_X4_checkTranslation mp_X4_checkTranslation rfl ⟨leb rfl, leb rfl⟩ rfl (ltb rfl) g2 rfl (leb rfl) (leb rfl) (leb rfl) rfl (am_X4_checkTranslation hG h) (kkT (kkV fun X1 h => ?_)) (kxT KrV.no fun E X h => at_out rfl (leb rfl) (leb rfl) (Or.inr ⟨_, rfl, h⟩))
  refine aw_widen (cc' := 2) (ss' := 12) (leb rfl) (leb rfl) ?_
  refine aw_aload_n 7 dX4_bringBack_6 rfl 0 rfl rfl ?_
  obtain ⟨g3, h⟩ := h
  obtain ⟨g4, h⟩ := h
  refine aw_getR 10 dX4_bringBack_7 fl_RX4_10 rfl g3 g4 rfl ?_
  refine aw_iload_n 11 dX4_bringBack_10 rfl 1 rfl rfl ?_
  refine aw_iload_n 12 dX4_bringBack_11 rfl 2 rfl rfl ?_
  obtain ⟨g7, h⟩ := h
  refine aw_callV (M' := M_X3_annexedAt) 15 142 3 (hR X1 l0 0) [.int _, .int _] [] dX4_bringBack_12 lk_RX4_142 mv_X3_annexedAt mp_X3_annexedAt rfl ⟨leb rfl, leb rfl⟩ rfl (ltb rfl) g7 rfl (leb rfl) (leb rfl) (leb rfl) rfl (am_X3_annexedAt hG h) (kkI fun v6 X5 h => ?_) (kxN KrI.no)
  refine aw_widen (cc' := 2) (ss' := 12) (leb rfl) (leb rfl) ?_
  refine aw_istore_n 16 (lv' := [(3, _), (0, _), (1, _), (2, _)]) dX4_bringBack_15 rfl (ltb rfl) rfl rfl ?_
  refine aw_iload_n 17 dX4_bringBack_16 rfl 0 rfl rfl ?_
  refine aw_if_eq 32 20 dX4_bringBack_17 rfl rfl (fun c8 => ?_) (fun c8 => ?_)
  · replace h := h.1 c8
    exact aw_throw xcS 60 148 64 rfl th_xcS (by decide) (Or.inl ⟨dX4_bringBack_32, dX4_bringBack_35, dX4_bringBack_36, dX4_bringBack_38, dX4_bringBack_41⟩) rfl (ltb rfl) (leb rfl) (leb rfl) (leb rfl) (Or.inr ⟨_, rfl, h⟩)
  · replace h := h.2 c8
    refine aw_aload_n 21 dX4_bringBack_20 rfl 1 rfl rfl ?_
    obtain ⟨g9, h⟩ := h
    obtain ⟨g10, h⟩ := h
    refine aw_getR 24 dX4_bringBack_21 fl_RX4_10 rfl g9 g10 rfl ?_
    refine aw_iload_n 25 dX4_bringBack_24 rfl 2 rfl rfl ?_
    refine aw_iload_n 26 dX4_bringBack_25 rfl 3 rfl rfl ?_
    obtain ⟨g13, h⟩ := h
    refine aw_callV (M' := M_X3_isTaken) 29 119 3 (hR X5 l0 0) [.int _, .int _] [] dX4_bringBack_26 lk_RX4_119 mv_X3_isTaken mp_X3_isTaken rfl ⟨leb rfl, leb rfl⟩ rfl (ltb rfl) g13 rfl (leb rfl) (leb rfl) (leb rfl) rfl (am_X3_isTaken hG h) (kkI fun v12 X11 h => ?_) (kxN KrI.no)
    refine aw_widen (cc' := 2) (ss' := 12) (leb rfl) (leb rfl) ?_
    refine aw_if_eq 42 32 dX4_bringBack_29 rfl rfl (fun c14 => ?_) (fun c14 => ?_)
    · replace h := h.1 c14
      refine aw_aload_n 43 dX4_bringBack_42 rfl 1 rfl rfl ?_
      obtain ⟨g15, h⟩ := h
      obtain ⟨g16, h⟩ := h
      refine aw_getR 46 dX4_bringBack_43 fl_RX4_19 rfl g15 g16 rfl ?_
      refine aw_aload_n 47 dX4_bringBack_46 rfl 1 rfl rfl ?_
      obtain ⟨g17, h⟩ := h
      refine aw_getR 50 dX4_bringBack_47 fl_RX4_10 rfl g15 g17 rfl ?_
      obtain ⟨g19, h⟩ := h
      refine aw_callV (M' := M_X1_push) 53 67 1 (hR X11 l0 1) [.ref _] [] dX4_bringBack_50 lk_RX4_67 mv_X1_push mp_X1_push rfl ⟨leb rfl, leb rfl⟩ rfl (ltb rfl) g19 rfl (leb rfl) (leb rfl) (leb rfl) rfl (am_X1_push hG h) (kkV fun X18 h => ?_) (kxN KrV.no)
      refine aw_widen (cc' := 2) (ss' := 12) (leb rfl) (leb rfl) ?_
      refine aw_aload_n 54 dX4_bringBack_53 rfl 1 rfl rfl ?_
      obtain ⟨g20, h⟩ := h
      obtain ⟨g21, h⟩ := h
      refine aw_getR 57 dX4_bringBack_54 fl_RX4_10 rfl g20 g21 rfl ?_
      refine aw_iload_n 58 dX4_bringBack_57 rfl 2 rfl rfl ?_
      refine aw_iload_n 59 dX4_bringBack_58 rfl 3 rfl rfl ?_
      refine aw_aload_n 60 dX4_bringBack_59 rfl 1 rfl rfl ?_
      refine aw_getR 63 dX4_bringBack_60 fl_RX4_10 rfl g20 g21 rfl ?_
      refine aw_iload_n 64 dX4_bringBack_63 rfl 2 rfl rfl ?_
      refine aw_iload_n 65 dX4_bringBack_64 rfl 3 rfl rfl ?_
      obtain ⟨g24, h⟩ := h
      refine aw_callV (M' := M_X3_framesAt) 68 139 3 (hR X18 l0 0) [.int _, .int _] [.int _, .int _, .ref _] dX4_bringBack_65 lk_RX4_139 mv_X3_framesAt mp_X3_framesAt rfl ⟨leb rfl, leb rfl⟩ rfl (ltb rfl) g24 rfl (leb rfl) (leb rfl) (leb rfl) rfl (am_X3_framesAt hG h) (kkI fun v23 X22 h => ?_) (kxN KrI.no)
      refine aw_widen (cc' := 2) (ss' := 12) (leb rfl) (leb rfl) ?_
      refine aw_iload_n 69 dX4_bringBack_68 rfl 0 rfl rfl ?_
      refine aw_iadd 70 dX4_bringBack_69 rfl ?_
      refine aw_iconst 71 (v := 0) dX4_bringBack_70 kI_0 rfl ?_
      obtain ⟨g26, h⟩ := h
      refine aw_callV (M' := M_X3_putTranslation) 74 125 3 (hR X18 l0 0) [.int _, .int _, .int _, .int _] [] dX4_bringBack_71 lk_RX4_125 mv_X3_putTranslation mp_X3_putTranslation rfl ⟨leb rfl, leb rfl⟩ rfl (ltb rfl) g26 rfl (leb rfl) (leb rfl) (leb rfl) rfl (am_X3_putTranslation hG h) (kkV fun X25 h => ?_) (kxN KrV.no)
      refine aw_widen (cc' := 2) (ss' := 12) (leb rfl) (leb rfl) ?_
      refine aw_iload_n 75 dX4_bringBack_74 rfl 0 rfl rfl ?_
      exact aw_ireturn (ty := .int) dX4_bringBack_75 rfl rfl (leb rfl) (leb rfl) (Or.inl ⟨_, rfl, h⟩)
    · replace h := h.2 c14
      exact aw_throw xcS 60 148 64 rfl th_xcS (by decide) (Or.inl ⟨dX4_bringBack_32, dX4_bringBack_35, dX4_bringBack_36, dX4_bringBack_38, dX4_bringBack_41⟩) rfl (ltb rfl) (leb rfl) (leb rfl) (leb rfl) (Or.inr ⟨_, rfl, h⟩))
set_option maxRecDepth 20000 in
theorem am_L_bringBack {G : GG} (hG : G.1.stackTraces = false) {l0 : Nat} {l1 : Int32} {l2 : Int32} {l3 : Nat} {X : XH} {K : Int32 → XH → Prop} (h : w_L_bringBack l0 l1 l2 l3 X K) : AM G M_L_bringBack X [.ref l0, .int l1, .int l2, .ref l3] (KrI K) := AM_ofH (by decide +kernel) (0, 10, 13, 13) [(0, 10, 17, 17)] rfl (leb rfl) hG (by
  show AW G M_L_bringBack 0 [(0, .ref l0), (1, .int l1), (2, .int l2), (3, .ref l3)] [] X 0 0 _
  unfold w_L_bringBack at h
  refine aw_aload_n 1 dL_bringBack_0 rfl 3 rfl rfl ?_
  refine aw_iconst 2 (v := 0) dL_bringBack_1 kI_0 rfl ?_
  refine aw_aload_n 3 dL_bringBack_2 rfl 0 rfl rfl ?_
  refine aw_iload_n 4 dL_bringBack_3 rfl 1 rfl rfl ?_
  refine aw_iload_n 5 dL_bringBack_4 rfl 2 rfl rfl ?_
  obtain ⟨g3, h⟩ := h
  refine aw_callV (M' := M_X4_bringBack) 8 35 4 l0 [.int _, .int _] [.int _, .ref _] dL_bringBack_5 lk_RL_35 mv_X4_bringBack mp_X4_bringBack rfl ⟨leb rfl, leb rfl⟩ rfl (ltb rfl) g3 rfl (leb rfl) (leb rfl) (leb rfl) rfl (am_X4_bringBack hG h) (kkT (kkI fun v2 X1 h => ?_)) (kxT KrI.no fun E X1 h => ?_)
  · refine aw_widen (cc' := 3) (ss' := 18) (leb rfl) (leb rfl) ?_
    refine aw_i2l 9 dL_bringBack_8 rfl ?_
    obtain ⟨g4, h⟩ := h
    obtain ⟨g5, h⟩ := h
    refine aw_lastore 10 dL_bringBack_9 g4 g5 rfl ?_
    refine aw_goto 21 dL_bringBack_10 rfl ?_
    refine aw_iconst 22 (v := 0) dL_bringBack_21 kI_0 rfl ?_
    exact aw_ireturn (ty := .int) dL_bringBack_22 rfl rfl (leb rfl) (leb rfl) ⟨_, rfl, h⟩
  · obtain ⟨hE, h⟩ := h
    rcases hE with rfl | rfl
    · refine aw_atc (lv' := [(0, .ref _), (1, .int _), (2, .int _), (3, .ref _)]) [] (0, 10, 13, 13) [(0, 10, 17, 17)] rfl (fun z hz => nomatch hz) (by decide) (by decide) (tk3 (i := 61) (by decide +kernel) rfl) (by decide) 4 2 15 (Or.inr ⟨dL_bringBack_13, rfl⟩) (ltb rfl) rfl ?_
      refine aw_widen (cc' := 3) (ss' := 18) (leb rfl) (leb rfl) ?_
      replace h := h.1 rfl
      refine aw_iconst 16 (v := 1) dL_bringBack_15 kI_1 rfl ?_
      exact aw_ireturn (ty := .int) dL_bringBack_16 rfl rfl (leb rfl) (leb rfl) ⟨_, rfl, h⟩
    · refine aw_atc (lv' := [(0, .ref _), (1, .int _), (2, .int _), (3, .ref _)]) [(0, 10, 13, 13)] (0, 10, 17, 17) [] rfl (by intro z hz; simp only [List.mem_cons, List.not_mem_nil, or_false] at hz; rcases hz with rfl <;> first | exact ⟨by decide, xcI, tk3 (i := 61) (by decide +kernel) rfl, by decide⟩) (by decide) (by decide) (tk3 (i := 63) (by decide +kernel) rfl) (by decide) 4 2 19 (Or.inr ⟨dL_bringBack_17, rfl⟩) (ltb rfl) rfl ?_
      refine aw_widen (cc' := 3) (ss' := 18) (leb rfl) (leb rfl) ?_
      replace h := h.2 rfl
      refine aw_iconst 20 (v := 2) dL_bringBack_19 kI_2 rfl ?_
      exact aw_ireturn (ty := .int) dL_bringBack_20 rfl rfl (leb rfl) (leb rfl) ⟨_, rfl, h⟩)
set_option maxRecDepth 20000 in
theorem am_X4_checkVoice {G : GG} (hG : G.1.stackTraces = false) {l0 : Int32} {l1 : Int32} {X : XH} {K : XH → Prop} {KX : String → XH → Prop} (h : w_X4_checkVoice l0 l1 X K KX) : AM G M_X4_checkVoice X [.int l0, .int l1] (KxT (KrV K) KX) := AM_of (by decide +kernel) rfl (leb rfl) hG (by
  show AW G M_X4_checkVoice 0 [(0, .int l0), (1, .int l1)] [] X 0 0 _
  unfold w_X4_checkVoice at h
  refine aw_iload_n 1 dX4_checkVoice_0 rfl 0 rfl rfl ?_
  refine aw_callS (M' := M_X4_checkState) 4 49 [.int _] [] dX4_checkVoice_1 lk_RX4_49 ms_X4_checkState mp_X4_checkState rfl ⟨leb rfl, leb rfl⟩ rfl (leb rfl) (leb rfl) (leb rfl) rfl (am_X4_checkState hG h) (kkT (kkV fun X1 h => ?_)) (kxT KrV.no fun E X h => at_out rfl (leb rfl) (leb rfl) (Or.inr ⟨_, rfl, h⟩))
  refine aw_widen (cc' := 1) (ss' := 6) (leb rfl) (leb rfl) ?_
  refine aw_iload_n 5 dX4_checkVoice_4 rfl 1 rfl rfl ?_
  refine aw_callS (M' := M_X4_checkTongue) 8 195 [.int _] [] dX4_checkVoice_5 lk_RX4_195 ms_X4_checkTongue mp_X4_checkTongue rfl ⟨leb rfl, leb rfl⟩ rfl (leb rfl) (leb rfl) (leb rfl) rfl (am_X4_checkTongue hG h) (kkT (kkV fun X2 h => ?_)) (kxT KrV.no fun E X h => at_out rfl (leb rfl) (leb rfl) (Or.inr ⟨_, rfl, h⟩))
  refine aw_widen (cc' := 2) (ss' := 12) (leb rfl) (leb rfl) ?_
  exact aw_return dX4_checkVoice_8 rfl (leb rfl) (leb rfl) (Or.inl ⟨rfl, h⟩))
set_option maxRecDepth 20000 in
theorem am_X3_usedBy {G : GG} (hG : G.1.stackTraces = false) {l0 : Nat} {l1 : Int32} {l2 : Int32} {X : XH} {K : Int32 → XH → Prop} (h : w_X3_usedBy l0 l1 l2 X K) : AM G M_X3_usedBy X [.ref l0, .int l1, .int l2] (KrI K) := AM_of (by decide +kernel) rfl (leb rfl) hG (by
  show AW G M_X3_usedBy 0 [(0, .ref l0), (1, .int l1), (2, .int l2)] [] X 0 0 _
  unfold w_X3_usedBy at h
  refine aw_aload_n 1 dX3_usedBy_0 rfl 0 rfl rfl ?_
  obtain ⟨g1, h⟩ := h
  obtain ⟨g2, h⟩ := h
  refine aw_getR 4 dX3_usedBy_1 fl_RX3_36 rfl g1 g2 rfl ?_
  refine aw_iload_n 5 dX3_usedBy_4 rfl 1 rfl rfl ?_
  refine aw_iload_n 6 dX3_usedBy_5 rfl 2 rfl rfl ?_
  refine aw_callS (M' := M_X3_place) 9 73 [.int _, .int _] [.ref _] dX3_usedBy_6 lk_RX3_73 ms_X3_place mp_X3_place rfl ⟨leb rfl, leb rfl⟩ rfl (leb rfl) (leb rfl) (leb rfl) rfl (am_X3_place hG h) (kkI fun v4 X3 h => ?_) (kxN KrI.no)
  refine aw_widen (cc' := 0) (ss' := 0) (leb rfl) (leb rfl) ?_
  refine aw_callSN (M' := M_X4_at) 12 81 [.ref _, .int _] [] dX3_usedBy_9 (by decide) ms_X4_at mp_X4_at rfl ⟨leb rfl, leb rfl⟩ rfl (leb rfl) (leb rfl) (leb rfl) rfl (am_X4_at hG h) (kkI fun v6 X5 h => ?_) KrI.no
  refine aw_widen (cc' := 0) (ss' := 0) (leb rfl) (leb rfl) ?_
  exact aw_ireturn (ty := .int) dX3_usedBy_12 rfl rfl (leb rfl) (leb rfl) ⟨_, rfl, h⟩)
set_option maxRecDepth 20000 in
theorem am_X3_staminaAt {G : GG} (hG : G.1.stackTraces = false) {l0 : Nat} {l1 : Int32} {l2 : Int32} {X : XH} {K : Int32 → XH → Prop} (h : w_X3_staminaAt l0 l1 l2 X K) : AM G M_X3_staminaAt X [.ref l0, .int l1, .int l2] (KrI K) := AM_of (by decide +kernel) rfl (leb rfl) hG (by
  show AW G M_X3_staminaAt 0 [(0, .ref l0), (1, .int l1), (2, .int l2)] [] X 0 0 _
  unfold w_X3_staminaAt at h
  refine aw_aload_n 1 dX3_staminaAt_0 rfl 0 rfl rfl ?_
  obtain ⟨g1, h⟩ := h
  obtain ⟨g2, h⟩ := h
  refine aw_getR 4 dX3_staminaAt_1 fl_RX3_33 rfl g1 g2 rfl ?_
  refine aw_iload_n 5 dX3_staminaAt_4 rfl 1 rfl rfl ?_
  refine aw_iload_n 6 dX3_staminaAt_5 rfl 2 rfl rfl ?_
  refine aw_callS (M' := M_X3_place) 9 73 [.int _, .int _] [.ref _] dX3_staminaAt_6 lk_RX3_73 ms_X3_place mp_X3_place rfl ⟨leb rfl, leb rfl⟩ rfl (leb rfl) (leb rfl) (leb rfl) rfl (am_X3_place hG h) (kkI fun v4 X3 h => ?_) (kxN KrI.no)
  refine aw_widen (cc' := 0) (ss' := 0) (leb rfl) (leb rfl) ?_
  refine aw_callSN (M' := M_X4_at) 12 81 [.ref _, .int _] [] dX3_staminaAt_9 (by decide) ms_X4_at mp_X4_at rfl ⟨leb rfl, leb rfl⟩ rfl (leb rfl) (leb rfl) (leb rfl) rfl (am_X4_at hG h) (kkI fun v6 X5 h => ?_) KrI.no
  refine aw_widen (cc' := 0) (ss' := 0) (leb rfl) (leb rfl) ?_
  exact aw_ireturn (ty := .int) dX3_staminaAt_12 rfl rfl (leb rfl) (leb rfl) ⟨_, rfl, h⟩)
set_option maxRecDepth 20000 in
theorem am_X3_putStamina {G : GG} (hG : G.1.stackTraces = false) {l0 : Nat} {l1 : Int32} {l2 : Int32} {l3 : Int32} {X : XH} {K : XH → Prop} (h : w_X3_putStamina l0 l1 l2 l3 X K) : AM G M_X3_putStamina X [.ref l0, .int l1, .int l2, .int l3] (KrV K) := AM_of (by decide +kernel) rfl (leb rfl) hG (by
  show AW G M_X3_putStamina 0 [(0, .ref l0), (1, .int l1), (2, .int l2), (3, .int l3)] [] X 0 0 _
  unfold w_X3_putStamina at h
  refine aw_aload_n 1 dX3_putStamina_0 rfl 0 rfl rfl ?_
  obtain ⟨g1, h⟩ := h
  obtain ⟨g2, h⟩ := h
  refine aw_getR 4 dX3_putStamina_1 fl_RX3_33 rfl g1 g2 rfl ?_
  refine aw_iload_n 5 dX3_putStamina_4 rfl 1 rfl rfl ?_
  refine aw_iload_n 6 dX3_putStamina_5 rfl 2 rfl rfl ?_
  refine aw_callS (M' := M_X3_place) 9 73 [.int _, .int _] [.ref _] dX3_putStamina_6 lk_RX3_73 ms_X3_place mp_X3_place rfl ⟨leb rfl, leb rfl⟩ rfl (leb rfl) (leb rfl) (leb rfl) rfl (am_X3_place hG h) (kkI fun v4 X3 h => ?_) (kxN KrI.no)
  refine aw_widen (cc' := 0) (ss' := 0) (leb rfl) (leb rfl) ?_
  refine aw_iload_n 10 dX3_putStamina_9 rfl 3 rfl rfl ?_
  refine aw_callSN (M' := M_X4_put) 13 65 [.ref _, .int _, .int _] [] dX3_putStamina_10 (by decide) ms_X4_put mp_X4_put rfl ⟨leb rfl, leb rfl⟩ rfl (leb rfl) (leb rfl) (leb rfl) rfl (am_X4_put hG h) (kkV fun X5 h => ?_) KrV.no
  refine aw_widen (cc' := 0) (ss' := 0) (leb rfl) (leb rfl) ?_
  exact aw_return dX3_putStamina_13 rfl (leb rfl) (leb rfl) ⟨rfl, h⟩)
set_option maxRecDepth 20000 in
theorem am_X4_cast {G : GG} (hG : G.1.stackTraces = false) {l0 : Nat} {l1 : Int32} {l2 : Int32} {l3 : Int32} {X : XH} {K : Int32 → XH → Prop} {KX : String → XH → Prop} (h : w_X4_cast l0 l1 l2 l3 X K KX) : AM G M_X4_cast X [.ref l0, .int l1, .int l2, .int l3] (KxT (KrI K) KX) := AM_of (by decide +kernel) rfl (leb rfl) hG (by
  show AW G M_X4_cast 0 [(0, .ref l0), (1, .int l1), (2, .int l2), (3, .int l3)] [] X 0 0 _
  unfold w_X4_cast at h
  refine aw_iload_n 1 dX4_cast_0 rfl 1 rfl rfl ?_
  refine aw_iload_n 2 dX4_cast_1 rfl 2 rfl rfl ?_
  refine aw_callS (M' := M_X4_checkVoice) 5 150 [.int _, .int _] [] dX4_cast_2 lk_RX4_150 ms_X4_checkVoice mp_X4_checkVoice rfl ⟨leb rfl, leb rfl⟩ rfl (leb rfl) (leb rfl) (leb rfl) rfl (am_X4_checkVoice hG h) (kkT (kkV fun X1 h => ?_)) (kxT KrV.no fun E X h => at_out rfl (leb rfl) (leb rfl) (Or.inr ⟨_, rfl, h⟩))
  refine aw_widen (cc' := 2) (ss' := 12) (leb rfl) (leb rfl) ?_
  refine aw_iload_n 6 dX4_cast_5 rfl 3 rfl rfl ?_
  refine aw_bipush 8 (v := 20) dX4_cast_6 kB_20 rfl ?_
  refine aw_bipush 10 (v := 120) dX4_cast_8 kB_120 rfl ?_
  refine aw_callS (M' := M_X4_checkRange) 13 52 [.int _, .int _, .int _] [] dX4_cast_10 lk_RX4_52 ms_X4_checkRange mp_X4_checkRange rfl ⟨leb rfl, leb rfl⟩ rfl (leb rfl) (leb rfl) (leb rfl) rfl (am_X4_checkRange hG h) (kkT (kkV fun X2 h => ?_)) (kxT KrV.no fun E X h => at_out rfl (leb rfl) (leb rfl) (Or.inr ⟨_, rfl, h⟩))
  refine aw_widen (cc' := 3) (ss' := 18) (leb rfl) (leb rfl) ?_
  refine aw_aload_n 14 dX4_cast_13 rfl 0 rfl rfl ?_
  obtain ⟨g3, h⟩ := h
  obtain ⟨g4, h⟩ := h
  refine aw_getR 17 dX4_cast_14 fl_RX4_10 rfl g3 g4 rfl ?_
  refine aw_iload_n 18 dX4_cast_17 rfl 1 rfl rfl ?_
  refine aw_iload_n 19 dX4_cast_18 rfl 2 rfl rfl ?_
  obtain ⟨g7, h⟩ := h
  refine aw_callV (M' := M_X3_usedBy) 22 153 3 (hR X2 l0 0) [.int _, .int _] [] dX4_cast_19 lk_RX4_153 mv_X3_usedBy mp_X3_usedBy rfl ⟨leb rfl, leb rfl⟩ rfl (ltb rfl) g7 rfl (leb rfl) (leb rfl) (leb rfl) rfl (am_X3_usedBy hG h) (kkI fun v6 X5 h => ?_) (kxN KrI.no)
  refine aw_widen (cc' := 3) (ss' := 18) (leb rfl) (leb rfl) ?_
  refine aw_iload_n 23 dX4_cast_22 rfl 3 rfl rfl ?_
  refine aw_icmp_le 36 26 dX4_cast_23 rfl rfl (fun c8 => ?_) (fun c8 => ?_)
  · replace h := h.1 c8
    refine aw_aload_n 37 dX4_cast_36 rfl 0 rfl rfl ?_
    obtain ⟨g9, h⟩ := h
    obtain ⟨g10, h⟩ := h
    refine aw_getR 40 dX4_cast_37 fl_RX4_19 rfl g9 g10 rfl ?_
    refine aw_aload_n 41 dX4_cast_40 rfl 0 rfl rfl ?_
    obtain ⟨g11, h⟩ := h
    refine aw_getR 44 dX4_cast_41 fl_RX4_10 rfl g9 g11 rfl ?_
    obtain ⟨g13, h⟩ := h
    refine aw_callV (M' := M_X1_push) 47 67 1 (hR X5 l0 1) [.ref _] [] dX4_cast_44 lk_RX4_67 mv_X1_push mp_X1_push rfl ⟨leb rfl, leb rfl⟩ rfl (ltb rfl) g13 rfl (leb rfl) (leb rfl) (leb rfl) rfl (am_X1_push hG h) (kkV fun X12 h => ?_) (kxN KrV.no)
    refine aw_widen (cc' := 3) (ss' := 18) (leb rfl) (leb rfl) ?_
    refine aw_aload_n 48 dX4_cast_47 rfl 0 rfl rfl ?_
    obtain ⟨g14, h⟩ := h
    obtain ⟨g15, h⟩ := h
    refine aw_getR 51 dX4_cast_48 fl_RX4_10 rfl g14 g15 rfl ?_
    refine aw_iload_n 52 dX4_cast_51 rfl 1 rfl rfl ?_
    refine aw_iload_n 53 dX4_cast_52 rfl 2 rfl rfl ?_
    obtain ⟨g18, h⟩ := h
    refine aw_callV (M' := M_X3_staminaAt) 56 158 3 (hR X12 l0 0) [.int _, .int _] [] dX4_cast_53 lk_RX4_158 mv_X3_staminaAt mp_X3_staminaAt rfl ⟨leb rfl, leb rfl⟩ rfl (ltb rfl) g18 rfl (leb rfl) (leb rfl) (leb rfl) rfl (am_X3_staminaAt hG h) (kkI fun v17 X16 h => ?_) (kxN KrI.no)
    refine aw_widen (cc' := 3) (ss' := 18) (leb rfl) (leb rfl) ?_
    refine aw_istore 58 (lv' := [(4, _), (0, _), (1, _), (2, _), (3, _)]) dX4_cast_56 (ltb rfl) rfl rfl ?_
    refine aw_aload_n 59 dX4_cast_58 rfl 1 rfl rfl ?_
    obtain ⟨g19, h⟩ := h
    obtain ⟨g20, h⟩ := h
    refine aw_getR 62 dX4_cast_59 fl_RX4_10 rfl g19 g20 rfl ?_
    refine aw_iload_n 63 dX4_cast_62 rfl 2 rfl rfl ?_
    refine aw_iload_n 64 dX4_cast_63 rfl 3 rfl rfl ?_
    refine aw_iload_n 65 dX4_cast_64 rfl 4 rfl rfl ?_
    obtain ⟨g22, h⟩ := h
    refine aw_callV (M' := M_X3_putStamina) 68 161 3 (hR X16 l0 0) [.int _, .int _, .int _] [] dX4_cast_65 lk_RX4_161 mv_X3_putStamina mp_X3_putStamina rfl ⟨leb rfl, leb rfl⟩ rfl (ltb rfl) g22 rfl (leb rfl) (leb rfl) (leb rfl) rfl (am_X3_putStamina hG h) (kkV fun X21 h => ?_) (kxN KrV.no)
    refine aw_widen (cc' := 3) (ss' := 18) (leb rfl) (leb rfl) ?_
    refine aw_iload 70 dX4_cast_68 0 rfl rfl ?_
    exact aw_ireturn (ty := .int) dX4_cast_70 rfl rfl (leb rfl) (leb rfl) (Or.inl ⟨_, rfl, h⟩)
  · replace h := h.2 c8
    exact aw_throw xcS 60 156 64 rfl th_xcS (by decide) (Or.inl ⟨dX4_cast_26, dX4_cast_29, dX4_cast_30, dX4_cast_32, dX4_cast_35⟩) rfl (ltb rfl) (leb rfl) (leb rfl) (leb rfl) (Or.inr ⟨_, rfl, h⟩))
set_option maxRecDepth 20000 in
theorem am_L_cast {G : GG} (hG : G.1.stackTraces = false) {l0 : Nat} {l1 : Int32} {l2 : Int32} {l3 : Int32} {l4 : Nat} {X : XH} {K : Int32 → XH → Prop} (h : w_L_cast l0 l1 l2 l3 l4 X K) : AM G M_L_cast X [.ref l0, .int l1, .int l2, .int l3, .ref l4] (KrI K) := AM_ofH (by decide +kernel) (0, 12, 15, 13) [(0, 12, 19, 15), (0, 12, 23, 17)] rfl (leb rfl) hG (by
  show AW G M_L_cast 0 [(0, .ref l0), (1, .int l1), (2, .int l2), (3, .int l3), (4, .ref l4)] [] X 0 0 _
  unfold w_L_cast at h
  refine aw_aload 2 dL_cast_0 4 rfl rfl ?_
  refine aw_iconst 3 (v := 0) dL_cast_2 kI_0 rfl ?_
  refine aw_aload_n 4 dL_cast_3 rfl 0 rfl rfl ?_
  refine aw_iload_n 5 dL_cast_4 rfl 1 rfl rfl ?_
  refine aw_iload_n 6 dL_cast_5 rfl 2 rfl rfl ?_
  refine aw_iload_n 7 dL_cast_6 rfl 3 rfl rfl ?_
  obtain ⟨g3, h⟩ := h
  refine aw_callV (M' := M_X4_cast) 10 38 4 l0 [.int _, .int _, .int _] [.int _, .ref _] dL_cast_7 lk_RL_38 mv_X4_cast mp_X4_cast rfl ⟨leb rfl, leb rfl⟩ rfl (ltb rfl) g3 rfl (leb rfl) (leb rfl) (leb rfl) rfl (am_X4_cast hG h) (kkT (kkI fun v2 X1 h => ?_)) (kxT KrI.no fun E X1 h => ?_)
  · refine aw_widen (cc' := 4) (ss' := 24) (leb rfl) (leb rfl) ?_
    refine aw_i2l 11 dL_cast_10 rfl ?_
    obtain ⟨g4, h⟩ := h
    obtain ⟨g5, h⟩ := h
    refine aw_lastore 12 dL_cast_11 g4 g5 rfl ?_
    refine aw_goto 27 dL_cast_12 rfl ?_
    refine aw_iconst 28 (v := 0) dL_cast_27 kI_0 rfl ?_
    exact aw_ireturn (ty := .int) dL_cast_28 rfl rfl (leb rfl) (leb rfl) ⟨_, rfl, h⟩
  · obtain ⟨hE, h⟩ := h
    rcases hE with rfl | rfl | rfl
    · refine aw_atc (lv' := [(0, .ref _), (1, .int _), (2, .int _), (3, .int _), (4, .ref _)]) [] (0, 12, 15, 13) [(0, 12, 19, 15), (0, 12, 23, 17)] rfl (fun z hz => nomatch hz) (by decide) (by decide) (tk3 (i := 61) (by decide +kernel) rfl) (by decide) 5 2 17 (Or.inr ⟨dL_cast_15, rfl⟩) (ltb rfl) rfl ?_
      refine aw_widen (cc' := 4) (ss' := 24) (leb rfl) (leb rfl) ?_
      replace h := h.1 rfl
      refine aw_iconst 18 (v := 1) dL_cast_17 kI_1 rfl ?_
      exact aw_ireturn (ty := .int) dL_cast_18 rfl rfl (leb rfl) (leb rfl) ⟨_, rfl, h⟩
    · refine aw_atc (lv' := [(0, .ref _), (1, .int _), (2, .int _), (3, .int _), (4, .ref _)]) [(0, 12, 15, 13)] (0, 12, 19, 15) [(0, 12, 23, 17)] rfl (by intro z hz; simp only [List.mem_cons, List.not_mem_nil, or_false] at hz; rcases hz with rfl <;> first | exact ⟨by decide, xcI, tk3 (i := 61) (by decide +kernel) rfl, by decide⟩) (by decide) (by decide) (tk3 (i := 62) (by decide +kernel) rfl) (by decide) 5 2 21 (Or.inr ⟨dL_cast_19, rfl⟩) (ltb rfl) rfl ?_
      refine aw_widen (cc' := 4) (ss' := 24) (leb rfl) (leb rfl) ?_
      replace h := h.2.1 rfl
      refine aw_iconst 22 (v := 2) dL_cast_21 kI_2 rfl ?_
      exact aw_ireturn (ty := .int) dL_cast_22 rfl rfl (leb rfl) (leb rfl) ⟨_, rfl, h⟩
    · refine aw_atc (lv' := [(0, .ref _), (1, .int _), (2, .int _), (3, .int _), (4, .ref _)]) [(0, 12, 15, 13), (0, 12, 19, 15)] (0, 12, 23, 17) [] rfl (by intro z hz; simp only [List.mem_cons, List.not_mem_nil, or_false] at hz; rcases hz with rfl | rfl <;> first | exact ⟨by decide, xcI, tk3 (i := 61) (by decide +kernel) rfl, by decide⟩ | exact ⟨by decide, xcA, tk3 (i := 62) (by decide +kernel) rfl, by decide⟩) (by decide) (by decide) (tk3 (i := 63) (by decide +kernel) rfl) (by decide) 5 2 25 (Or.inr ⟨dL_cast_23, rfl⟩) (ltb rfl) rfl ?_
      refine aw_widen (cc' := 4) (ss' := 24) (leb rfl) (leb rfl) ?_
      replace h := h.2.2 rfl
      refine aw_iconst 26 (v := 3) dL_cast_25 kI_3 rfl ?_
      exact aw_ireturn (ty := .int) dL_cast_26 rfl rfl (leb rfl) (leb rfl) ⟨_, rfl, h⟩)
set_option maxRecDepth 20000 in
theorem aw_X3_isRecordedAnywhere_2 {G : GG} (hG : G.1.stackTraces = false)  {l0 : Nat} {l1 : Int32} {l2 : Int32} {X : XH} {K : Int32 → XH → Prop}  (h : w_X3_isRecordedAnywhere_2  l0 l1 l2 X K) : AW G M_X3_isRecordedAnywhere 2 [(0, .ref l0), (1, .int l1), (2, .int l2)] [] X 0 0 (KrI K) :=
  h (fun l0 l1 l2 X => AW G M_X3_isRecordedAnywhere 2 [(0, .ref l0), (1, .int l1), (2, .int l2)] [] X 0 0 (KrI K)) (fun l0 l1 l2 X h => by
    refine aw_iload_n 3 dX3_isRecordedAnywhere_2 rfl 2 rfl rfl ?_
    refine aw_iconst 4 (v := 3) dX3_isRecordedAnywhere_3 kI_3 rfl ?_
    refine aw_icmp_ge 24 7 dX3_isRecordedAnywhere_4 rfl rfl (fun c1 => ?_) (fun c1 => ?_)
    · replace h := h.1 c1
      refine aw_iconst 25 (v := 0) dX3_isRecordedAnywhere_24 kI_0 rfl ?_
      exact aw_ireturn (ty := .boolean) dX3_isRecordedAnywhere_25 rfl rfl (leb rfl) (leb rfl) ⟨_, rfl, h⟩
    · replace h := h.2 c1
      refine aw_aload_n 8 dX3_isRecordedAnywhere_7 rfl 0 rfl rfl ?_
      refine aw_iload_n 9 dX3_isRecordedAnywhere_8 rfl 1 rfl rfl ?_
      refine aw_iload_n 10 dX3_isRecordedAnywhere_9 rfl 2 rfl rfl ?_
      obtain ⟨g4, h⟩ := h
      refine aw_callV (M' := M_X3_isTaken) 13 98 3 l0 [.int _, .int _] [] dX3_isRecordedAnywhere_10 lk_RX3_98 mv_X3_isTaken mp_X3_isTaken rfl ⟨leb rfl, leb rfl⟩ rfl (ltb rfl) g4 rfl (leb rfl) (leb rfl) (leb rfl) rfl (am_X3_isTaken hG h) (kkI fun v3 X2 h => ?_) (kxN KrI.no)
      refine aw_widen (cc' := 0) (ss' := 0) (leb rfl) (leb rfl) ?_
      refine aw_if_eq 18 16 dX3_isRecordedAnywhere_13 rfl rfl (fun c5 => ?_) (fun c5 => ?_)
      · replace h := h.1 c5
        refine aw_iinc 21 (v := 1) (lv' := [(2, _), (0, _), (1, _)]) dX3_isRecordedAnywhere_18 2 rfl kI_1 (ltb rfl) rfl rfl ?_
        refine aw_goto 2 dX3_isRecordedAnywhere_21 rfl ?_
        exact aw_pick [1, 2, 0] rfl h
      · replace h := h.2 c5
        refine aw_iconst 17 (v := 1) dX3_isRecordedAnywhere_16 kI_1 rfl ?_
        exact aw_ireturn (ty := .boolean) dX3_isRecordedAnywhere_17 rfl rfl (leb rfl) (leb rfl) ⟨_, rfl, h⟩)
set_option maxRecDepth 20000 in
theorem am_X3_isRecordedAnywhere {G : GG} (hG : G.1.stackTraces = false) {l0 : Nat} {l1 : Int32} {X : XH} {K : Int32 → XH → Prop} (h : w_X3_isRecordedAnywhere l0 l1 X K) : AM G M_X3_isRecordedAnywhere X [.ref l0, .int l1] (KrI K) := AM_of (by decide +kernel) rfl (leb rfl) hG (by
  show AW G M_X3_isRecordedAnywhere 0 [(0, .ref l0), (1, .int l1)] [] X 0 0 _
  unfold w_X3_isRecordedAnywhere at h
  refine aw_iconst 1 (v := 0) dX3_isRecordedAnywhere_0 kI_0 rfl ?_
  refine aw_istore_n 2 (lv' := [(2, _), (0, _), (1, _)]) dX3_isRecordedAnywhere_1 rfl (ltb rfl) rfl rfl ?_
  exact aw_pick [1, 2, 0] rfl (aw_X3_isRecordedAnywhere_2 hG  h))
set_option maxRecDepth 20000 in
theorem am_X3_sighAt {G : GG} (hG : G.1.stackTraces = false) {l0 : Nat} {l1 : Int32} {X : XH} {K : Int32 → XH → Prop} (h : w_X3_sighAt l0 l1 X K) : AM G M_X3_sighAt X [.ref l0, .int l1] (KrI K) := AM_of (by decide +kernel) rfl (leb rfl) hG (by
  show AW G M_X3_sighAt 0 [(0, .ref l0), (1, .int l1)] [] X 0 0 _
  unfold w_X3_sighAt at h
  refine aw_aload_n 1 dX3_sighAt_0 rfl 0 rfl rfl ?_
  obtain ⟨g1, h⟩ := h
  obtain ⟨g2, h⟩ := h
  refine aw_getR 4 dX3_sighAt_1 fl_RX3_21 rfl g1 g2 rfl ?_
  refine aw_iload_n 5 dX3_sighAt_4 rfl 1 rfl rfl ?_
  refine aw_callSN (M' := M_X4_at) 8 81 [.ref _, .int _] [] dX3_sighAt_5 (by decide) ms_X4_at mp_X4_at rfl ⟨leb rfl, leb rfl⟩ rfl (leb rfl) (leb rfl) (leb rfl) rfl (am_X4_at hG h) (kkI fun v4 X3 h => ?_) KrI.no
  refine aw_widen (cc' := 0) (ss' := 0) (leb rfl) (leb rfl) ?_
  exact aw_ireturn (ty := .int) dX3_sighAt_8 rfl rfl (leb rfl) (leb rfl) ⟨_, rfl, h⟩)
set_option maxRecDepth 20000 in
theorem am_X3_lipsAt {G : GG} (hG : G.1.stackTraces = false) {l0 : Nat} {l1 : Int32} {X : XH} {K : Int32 → XH → Prop} (h : w_X3_lipsAt l0 l1 X K) : AM G M_X3_lipsAt X [.ref l0, .int l1] (KrI K) := AM_of (by decide +kernel) rfl (leb rfl) hG (by
  show AW G M_X3_lipsAt 0 [(0, .ref l0), (1, .int l1)] [] X 0 0 _
  unfold w_X3_lipsAt at h
  refine aw_aload_n 1 dX3_lipsAt_0 rfl 0 rfl rfl ?_
  obtain ⟨g1, h⟩ := h
  obtain ⟨g2, h⟩ := h
  refine aw_getR 4 dX3_lipsAt_1 fl_RX3_18 rfl g1 g2 rfl ?_
  refine aw_iload_n 5 dX3_lipsAt_4 rfl 1 rfl rfl ?_
  refine aw_callSN (M' := M_X4_at) 8 81 [.ref _, .int _] [] dX3_lipsAt_5 (by decide) ms_X4_at mp_X4_at rfl ⟨leb rfl, leb rfl⟩ rfl (leb rfl) (leb rfl) (leb rfl) rfl (am_X4_at hG h) (kkI fun v4 X3 h => ?_) KrI.no
  refine aw_widen (cc' := 0) (ss' := 0) (leb rfl) (leb rfl) ?_
  exact aw_ireturn (ty := .int) dX3_lipsAt_8 rfl rfl (leb rfl) (leb rfl) ⟨_, rfl, h⟩)
set_option maxRecDepth 20000 in
theorem am_X4_changeLips {G : GG} (hG : G.1.stackTraces = false) {l0 : Nat} {l1 : Int32} {l2 : Int32} {X : XH} {K : Int32 → XH → Prop} {KX : String → XH → Prop} (h : w_X4_changeLips l0 l1 l2 X K KX) : AM G M_X4_changeLips X [.ref l0, .int l1, .int l2] (KxT (KrI K) KX) := AM_of (by decide +kernel) rfl (leb rfl) hG (by
  show AW G M_X4_changeLips 0 [(0, .ref l0), (1, .int l1), (2, .int l2)] [] X 0 0 _
  unfold w_X4_changeLips at h
  refine aw_aload_n 1 dX4_changeLips_0 rfl 0 rfl rfl ?_
  refine aw_iload_n 2 dX4_changeLips_1 rfl 1 rfl rfl ?_
  obtain ⟨g2, h⟩ := h
  refine aw_callV (M' := M_X4_checkClause) 5 75 4 l0 [.int _] [] dX4_changeLips_2 lk_RX4_75 mv_X4_checkClause mp_X4_checkClause rfl ⟨leb rfl, leb rfl⟩ rfl (ltb rfl) g2 rfl (leb rfl) (leb rfl) (leb rfl) rfl (am_X4_checkClause hG h) (kkT (kkV fun X1 h => ?_)) (kxT KrV.no fun E X h => at_out rfl (leb rfl) (leb rfl) (Or.inr ⟨_, rfl, h⟩))
  refine aw_widen (cc' := 1) (ss' := 6) (leb rfl) (leb rfl) ?_
  refine aw_iload_n 6 dX4_changeLips_5 rfl 2 rfl rfl ?_
  refine aw_iconst 7 (v := 4) dX4_changeLips_6 kI_4 rfl ?_
  refine aw_bipush 9 (v := 60) dX4_changeLips_7 kB_60 rfl ?_
  refine aw_callS (M' := M_X4_checkRange) 12 52 [.int _, .int _, .int _] [] dX4_changeLips_9 lk_RX4_52 ms_X4_checkRange mp_X4_checkRange rfl ⟨leb rfl, leb rfl⟩ rfl (leb rfl) (leb rfl) (leb rfl) rfl (am_X4_checkRange hG h) (kkT (kkV fun X3 h => ?_)) (kxT KrV.no fun E X h => at_out rfl (leb rfl) (leb rfl) (Or.inr ⟨_, rfl, h⟩))
  refine aw_widen (cc' := 2) (ss' := 12) (leb rfl) (leb rfl) ?_
  refine aw_aload_n 13 dX4_changeLips_12 rfl 0 rfl rfl ?_
  obtain ⟨g4, h⟩ := h
  obtain ⟨g5, h⟩ := h
  refine aw_getR 16 dX4_changeLips_13 fl_RX4_10 rfl g4 g5 rfl ?_
  refine aw_iload_n 17 dX4_changeLips_16 rfl 1 rfl rfl ?_
  obtain ⟨g8, h⟩ := h
  refine aw_callV (M' := M_X3_isRecordedAnywhere) 20 78 3 (hR X3 l0 0) [.int _] [] dX4_changeLips_17 lk_RX4_78 mv_X3_isRecordedAnywhere mp_X3_isRecordedAnywhere rfl ⟨leb rfl, leb rfl⟩ rfl (ltb rfl) g8 rfl (leb rfl) (leb rfl) (leb rfl) rfl (am_X3_isRecordedAnywhere hG h) (kkI fun v7 X6 h => ?_) (kxN KrI.no)
  refine aw_widen (cc' := 2) (ss' := 12) (leb rfl) (leb rfl) ?_
  refine aw_if_ne 35 23 dX4_changeLips_20 rfl rfl (fun c9 => ?_) (fun c9 => ?_)
  · replace h := h.1 c9
    exact aw_throw xcS 60 86 64 rfl th_xcS (by decide) (Or.inl ⟨dX4_changeLips_35, dX4_changeLips_38, dX4_changeLips_39, dX4_changeLips_41, dX4_changeLips_44⟩) rfl (ltb rfl) (leb rfl) (leb rfl) (leb rfl) (Or.inr ⟨_, rfl, h⟩)
  · replace h := h.2 c9
    refine aw_aload_n 24 dX4_changeLips_23 rfl 0 rfl rfl ?_
    obtain ⟨g10, h⟩ := h
    obtain ⟨g11, h⟩ := h
    refine aw_getR 27 dX4_changeLips_24 fl_RX4_10 rfl g10 g11 rfl ?_
    refine aw_iload_n 28 dX4_changeLips_27 rfl 1 rfl rfl ?_
    obtain ⟨g14, h⟩ := h
    refine aw_callV (M' := M_X3_sighAt) 31 82 3 (hR X6 l0 0) [.int _] [] dX4_changeLips_28 lk_RX4_82 mv_X3_sighAt mp_X3_sighAt rfl ⟨leb rfl, leb rfl⟩ rfl (ltb rfl) g14 rfl (leb rfl) (leb rfl) (leb rfl) rfl (am_X3_sighAt hG h) (kkI fun v13 X12 h => ?_) (kxN KrI.no)
    refine aw_widen (cc' := 2) (ss' := 12) (leb rfl) (leb rfl) ?_
    refine aw_iload_n 32 dX4_changeLips_31 rfl 2 rfl rfl ?_
    refine aw_icmp_le 45 35 dX4_changeLips_32 rfl rfl (fun c15 => ?_) (fun c15 => ?_)
    · replace h := h.1 c15
      refine aw_aload_n 46 dX4_changeLips_45 rfl 0 rfl rfl ?_
      obtain ⟨g16, h⟩ := h
      obtain ⟨g17, h⟩ := h
      refine aw_getR 49 dX4_changeLips_46 fl_RX4_19 rfl g16 g17 rfl ?_
      refine aw_aload_n 50 dX4_changeLips_49 rfl 0 rfl rfl ?_
      obtain ⟨g18, h⟩ := h
      refine aw_getR 53 dX4_changeLips_50 fl_RX4_10 rfl g16 g18 rfl ?_
      obtain ⟨g20, h⟩ := h
      refine aw_callV (M' := M_X1_push) 56 67 1 (hR X12 l0 1) [.ref _] [] dX4_changeLips_53 lk_RX4_67 mv_X1_push mp_X1_push rfl ⟨leb rfl, leb rfl⟩ rfl (ltb rfl) g20 rfl (leb rfl) (leb rfl) (leb rfl) rfl (am_X1_push hG h) (kkV fun X19 h => ?_) (kxN KrV.no)
      refine aw_widen (cc' := 2) (ss' := 12) (leb rfl) (leb rfl) ?_
      refine aw_aload_n 57 dX4_changeLips_56 rfl 0 rfl rfl ?_
      obtain ⟨g21, h⟩ := h
      obtain ⟨g22, h⟩ := h
      refine aw_getR 60 dX4_changeLips_57 fl_RX4_10 rfl g21 g22 rfl ?_
      refine aw_iload_n 61 dX4_changeLips_60 rfl 1 rfl rfl ?_
      obtain ⟨g25, h⟩ := h
      refine aw_callV (M' := M_X3_lipsAt) 64 88 3 (hR X19 l0 0) [.int _] [] dX4_changeLips_61 lk_RX4_88 mv_X3_lipsAt mp_X3_lipsAt rfl ⟨leb rfl, leb rfl⟩ rfl (ltb rfl) g25 rfl (leb rfl) (leb rfl) (leb rfl) rfl (am_X3_lipsAt hG h) (kkI fun v24 X23 h => ?_) (kxN KrI.no)
      refine aw_widen (cc' := 2) (ss' := 12) (leb rfl) (leb rfl) ?_
      refine aw_istore_n 65 (lv' := [(3, _), (0, _), (1, _), (2, _)]) dX4_changeLips_64 rfl (ltb rfl) rfl rfl ?_
      refine aw_aload_n 66 dX4_changeLips_65 rfl 1 rfl rfl ?_
      obtain ⟨g26, h⟩ := h
      obtain ⟨g27, h⟩ := h
      refine aw_getR 69 dX4_changeLips_66 fl_RX4_10 rfl g26 g27 rfl ?_
      obtain ⟨g28, h⟩ := h
      obtain ⟨g29, h⟩ := h
      refine aw_getR 72 dX4_changeLips_69 fl_RX4_91 rfl g28 g29 rfl ?_
      refine aw_iload_n 73 dX4_changeLips_72 rfl 2 rfl rfl ?_
      refine aw_iload_n 74 dX4_changeLips_73 rfl 3 rfl rfl ?_
      refine aw_callS (M' := M_X4_put) 77 95 [.ref _, .int _, .int _] [] dX4_changeLips_74 lk_RX4_95 ms_X4_put mp_X4_put rfl ⟨leb rfl, leb rfl⟩ rfl (leb rfl) (leb rfl) (leb rfl) rfl (am_X4_put hG h) (kkV fun X30 h => ?_) (kxN KrV.no)
      refine aw_widen (cc' := 2) (ss' := 12) (leb rfl) (leb rfl) ?_
      refine aw_iload_n 78 dX4_changeLips_77 rfl 0 rfl rfl ?_
      exact aw_ireturn (ty := .int) dX4_changeLips_78 rfl rfl (leb rfl) (leb rfl) (Or.inl ⟨_, rfl, h⟩)
    · replace h := h.2 c15
      exact aw_throw xcS 60 86 64 rfl th_xcS (by decide) (Or.inl ⟨dX4_changeLips_35, dX4_changeLips_38, dX4_changeLips_39, dX4_changeLips_41, dX4_changeLips_44⟩) rfl (ltb rfl) (leb rfl) (leb rfl) (leb rfl) (Or.inr ⟨_, rfl, h⟩))
set_option maxRecDepth 20000 in
theorem am_L_changeLips {G : GG} (hG : G.1.stackTraces = false) {l0 : Nat} {l1 : Int32} {l2 : Int32} {l3 : Nat} {X : XH} {K : Int32 → XH → Prop} (h : w_L_changeLips l0 l1 l2 l3 X K) : AM G M_L_changeLips X [.ref l0, .int l1, .int l2, .ref l3] (KrI K) := AM_ofH (by decide +kernel) (0, 10, 13, 13) [(0, 10, 17, 15), (0, 10, 21, 17)] rfl (leb rfl) hG (by
  show AW G M_L_changeLips 0 [(0, .ref l0), (1, .int l1), (2, .int l2), (3, .ref l3)] [] X 0 0 _
  unfold w_L_changeLips at h
  refine aw_aload_n 1 dL_changeLips_0 rfl 3 rfl rfl ?_
  refine aw_iconst 2 (v := 0) dL_changeLips_1 kI_0 rfl ?_
  refine aw_aload_n 3 dL_changeLips_2 rfl 0 rfl rfl ?_
  refine aw_iload_n 4 dL_changeLips_3 rfl 1 rfl rfl ?_
  refine aw_iload_n 5 dL_changeLips_4 rfl 2 rfl rfl ?_
  obtain ⟨g3, h⟩ := h
  refine aw_callV (M' := M_X4_changeLips) 8 19 4 l0 [.int _, .int _] [.int _, .ref _] dL_changeLips_5 lk_RL_19 mv_X4_changeLips mp_X4_changeLips rfl ⟨leb rfl, leb rfl⟩ rfl (ltb rfl) g3 rfl (leb rfl) (leb rfl) (leb rfl) rfl (am_X4_changeLips hG h) (kkT (kkI fun v2 X1 h => ?_)) (kxT KrI.no fun E X1 h => ?_)
  · refine aw_widen (cc' := 3) (ss' := 18) (leb rfl) (leb rfl) ?_
    refine aw_i2l 9 dL_changeLips_8 rfl ?_
    obtain ⟨g4, h⟩ := h
    obtain ⟨g5, h⟩ := h
    refine aw_lastore 10 dL_changeLips_9 g4 g5 rfl ?_
    refine aw_goto 25 dL_changeLips_10 rfl ?_
    refine aw_iconst 26 (v := 0) dL_changeLips_25 kI_0 rfl ?_
    exact aw_ireturn (ty := .int) dL_changeLips_26 rfl rfl (leb rfl) (leb rfl) ⟨_, rfl, h⟩
  · obtain ⟨hE, h⟩ := h
    rcases hE with rfl | rfl | rfl
    · refine aw_atc (lv' := [(0, .ref _), (1, .int _), (2, .int _), (3, .ref _)]) [] (0, 10, 13, 13) [(0, 10, 17, 15), (0, 10, 21, 17)] rfl (fun z hz => nomatch hz) (by decide) (by decide) (tk3 (i := 61) (by decide +kernel) rfl) (by decide) 4 2 15 (Or.inr ⟨dL_changeLips_13, rfl⟩) (ltb rfl) rfl ?_
      refine aw_widen (cc' := 3) (ss' := 18) (leb rfl) (leb rfl) ?_
      replace h := h.1 rfl
      refine aw_iconst 16 (v := 1) dL_changeLips_15 kI_1 rfl ?_
      exact aw_ireturn (ty := .int) dL_changeLips_16 rfl rfl (leb rfl) (leb rfl) ⟨_, rfl, h⟩
    · refine aw_atc (lv' := [(0, .ref _), (1, .int _), (2, .int _), (3, .ref _)]) [(0, 10, 13, 13)] (0, 10, 17, 15) [(0, 10, 21, 17)] rfl (by intro z hz; simp only [List.mem_cons, List.not_mem_nil, or_false] at hz; rcases hz with rfl <;> first | exact ⟨by decide, xcI, tk3 (i := 61) (by decide +kernel) rfl, by decide⟩) (by decide) (by decide) (tk3 (i := 62) (by decide +kernel) rfl) (by decide) 4 2 19 (Or.inr ⟨dL_changeLips_17, rfl⟩) (ltb rfl) rfl ?_
      refine aw_widen (cc' := 3) (ss' := 18) (leb rfl) (leb rfl) ?_
      replace h := h.2.1 rfl
      refine aw_iconst 20 (v := 2) dL_changeLips_19 kI_2 rfl ?_
      exact aw_ireturn (ty := .int) dL_changeLips_20 rfl rfl (leb rfl) (leb rfl) ⟨_, rfl, h⟩
    · refine aw_atc (lv' := [(0, .ref _), (1, .int _), (2, .int _), (3, .ref _)]) [(0, 10, 13, 13), (0, 10, 17, 15)] (0, 10, 21, 17) [] rfl (by intro z hz; simp only [List.mem_cons, List.not_mem_nil, or_false] at hz; rcases hz with rfl | rfl <;> first | exact ⟨by decide, xcI, tk3 (i := 61) (by decide +kernel) rfl, by decide⟩ | exact ⟨by decide, xcA, tk3 (i := 62) (by decide +kernel) rfl, by decide⟩) (by decide) (by decide) (tk3 (i := 63) (by decide +kernel) rfl) (by decide) 4 2 23 (Or.inr ⟨dL_changeLips_21, rfl⟩) (ltb rfl) rfl ?_
      refine aw_widen (cc' := 3) (ss' := 18) (leb rfl) (leb rfl) ?_
      replace h := h.2.2 rfl
      refine aw_iconst 24 (v := 3) dL_changeLips_23 kI_3 rfl ?_
      exact aw_ireturn (ty := .int) dL_changeLips_24 rfl rfl (leb rfl) (leb rfl) ⟨_, rfl, h⟩)
set_option maxRecDepth 20000 in
theorem am_X4_changeSigh {G : GG} (hG : G.1.stackTraces = false) {l0 : Nat} {l1 : Int32} {l2 : Int32} {X : XH} {K : Int32 → XH → Prop} {KX : String → XH → Prop} (h : w_X4_changeSigh l0 l1 l2 X K KX) : AM G M_X4_changeSigh X [.ref l0, .int l1, .int l2] (KxT (KrI K) KX) := AM_of (by decide +kernel) rfl (leb rfl) hG (by
  show AW G M_X4_changeSigh 0 [(0, .ref l0), (1, .int l1), (2, .int l2)] [] X 0 0 _
  unfold w_X4_changeSigh at h
  refine aw_aload_n 1 dX4_changeSigh_0 rfl 0 rfl rfl ?_
  refine aw_iload_n 2 dX4_changeSigh_1 rfl 1 rfl rfl ?_
  obtain ⟨g2, h⟩ := h
  refine aw_callV (M' := M_X4_checkClause) 5 75 4 l0 [.int _] [] dX4_changeSigh_2 lk_RX4_75 mv_X4_checkClause mp_X4_checkClause rfl ⟨leb rfl, leb rfl⟩ rfl (ltb rfl) g2 rfl (leb rfl) (leb rfl) (leb rfl) rfl (am_X4_checkClause hG h) (kkT (kkV fun X1 h => ?_)) (kxT KrV.no fun E X h => at_out rfl (leb rfl) (leb rfl) (Or.inr ⟨_, rfl, h⟩))
  refine aw_widen (cc' := 1) (ss' := 6) (leb rfl) (leb rfl) ?_
  refine aw_iload_n 6 dX4_changeSigh_5 rfl 2 rfl rfl ?_
  refine aw_iconst 7 (v := 0) dX4_changeSigh_6 kI_0 rfl ?_
  refine aw_bipush 9 (v := 20) dX4_changeSigh_7 kB_20 rfl ?_
  refine aw_callS (M' := M_X4_checkRange) 12 52 [.int _, .int _, .int _] [] dX4_changeSigh_9 lk_RX4_52 ms_X4_checkRange mp_X4_checkRange rfl ⟨leb rfl, leb rfl⟩ rfl (leb rfl) (leb rfl) (leb rfl) rfl (am_X4_checkRange hG h) (kkT (kkV fun X3 h => ?_)) (kxT KrV.no fun E X h => at_out rfl (leb rfl) (leb rfl) (Or.inr ⟨_, rfl, h⟩))
  refine aw_widen (cc' := 2) (ss' := 12) (leb rfl) (leb rfl) ?_
  refine aw_aload_n 13 dX4_changeSigh_12 rfl 0 rfl rfl ?_
  obtain ⟨g4, h⟩ := h
  obtain ⟨g5, h⟩ := h
  refine aw_getR 16 dX4_changeSigh_13 fl_RX4_10 rfl g4 g5 rfl ?_
  refine aw_iload_n 17 dX4_changeSigh_16 rfl 1 rfl rfl ?_
  obtain ⟨g8, h⟩ := h
  refine aw_callV (M' := M_X3_isRecordedAnywhere) 20 78 3 (hR X3 l0 0) [.int _] [] dX4_changeSigh_17 lk_RX4_78 mv_X3_isRecordedAnywhere mp_X3_isRecordedAnywhere rfl ⟨leb rfl, leb rfl⟩ rfl (ltb rfl) g8 rfl (leb rfl) (leb rfl) (leb rfl) rfl (am_X3_isRecordedAnywhere hG h) (kkI fun v7 X6 h => ?_) (kxN KrI.no)
  refine aw_widen (cc' := 2) (ss' := 12) (leb rfl) (leb rfl) ?_
  refine aw_if_ne 35 23 dX4_changeSigh_20 rfl rfl (fun c9 => ?_) (fun c9 => ?_)
  · replace h := h.1 c9
    exact aw_throw xcS 60 99 64 rfl th_xcS (by decide) (Or.inl ⟨dX4_changeSigh_35, dX4_changeSigh_38, dX4_changeSigh_39, dX4_changeSigh_41, dX4_changeSigh_44⟩) rfl (ltb rfl) (leb rfl) (leb rfl) (leb rfl) (Or.inr ⟨_, rfl, h⟩)
  · replace h := h.2 c9
    refine aw_iload_n 24 dX4_changeSigh_23 rfl 2 rfl rfl ?_
    refine aw_aload_n 25 dX4_changeSigh_24 rfl 0 rfl rfl ?_
    obtain ⟨g10, h⟩ := h
    obtain ⟨g11, h⟩ := h
    refine aw_getR 28 dX4_changeSigh_25 fl_RX4_10 rfl g10 g11 rfl ?_
    refine aw_iload_n 29 dX4_changeSigh_28 rfl 1 rfl rfl ?_
    obtain ⟨g14, h⟩ := h
    refine aw_callV (M' := M_X3_lipsAt) 32 88 3 (hR X6 l0 0) [.int _] [.int _] dX4_changeSigh_29 lk_RX4_88 mv_X3_lipsAt mp_X3_lipsAt rfl ⟨leb rfl, leb rfl⟩ rfl (ltb rfl) g14 rfl (leb rfl) (leb rfl) (leb rfl) rfl (am_X3_lipsAt hG h) (kkI fun v13 X12 h => ?_) (kxN KrI.no)
    refine aw_widen (cc' := 2) (ss' := 12) (leb rfl) (leb rfl) ?_
    refine aw_icmp_le 45 35 dX4_changeSigh_32 rfl rfl (fun c15 => ?_) (fun c15 => ?_)
    · replace h := h.1 c15
      refine aw_aload_n 46 dX4_changeSigh_45 rfl 0 rfl rfl ?_
      obtain ⟨g16, h⟩ := h
      obtain ⟨g17, h⟩ := h
      refine aw_getR 49 dX4_changeSigh_46 fl_RX4_19 rfl g16 g17 rfl ?_
      refine aw_aload_n 50 dX4_changeSigh_49 rfl 0 rfl rfl ?_
      obtain ⟨g18, h⟩ := h
      refine aw_getR 53 dX4_changeSigh_50 fl_RX4_10 rfl g16 g18 rfl ?_
      obtain ⟨g20, h⟩ := h
      refine aw_callV (M' := M_X1_push) 56 67 1 (hR X12 l0 1) [.ref _] [] dX4_changeSigh_53 lk_RX4_67 mv_X1_push mp_X1_push rfl ⟨leb rfl, leb rfl⟩ rfl (ltb rfl) g20 rfl (leb rfl) (leb rfl) (leb rfl) rfl (am_X1_push hG h) (kkV fun X19 h => ?_) (kxN KrV.no)
      refine aw_widen (cc' := 2) (ss' := 12) (leb rfl) (leb rfl) ?_
      refine aw_aload_n 57 dX4_changeSigh_56 rfl 0 rfl rfl ?_
      obtain ⟨g21, h⟩ := h
      obtain ⟨g22, h⟩ := h
      refine aw_getR 60 dX4_changeSigh_57 fl_RX4_10 rfl g21 g22 rfl ?_
      refine aw_iload_n 61 dX4_changeSigh_60 rfl 1 rfl rfl ?_
      obtain ⟨g25, h⟩ := h
      refine aw_callV (M' := M_X3_sighAt) 64 82 3 (hR X19 l0 0) [.int _] [] dX4_changeSigh_61 lk_RX4_82 mv_X3_sighAt mp_X3_sighAt rfl ⟨leb rfl, leb rfl⟩ rfl (ltb rfl) g25 rfl (leb rfl) (leb rfl) (leb rfl) rfl (am_X3_sighAt hG h) (kkI fun v24 X23 h => ?_) (kxN KrI.no)
      refine aw_widen (cc' := 2) (ss' := 12) (leb rfl) (leb rfl) ?_
      refine aw_istore_n 65 (lv' := [(3, _), (0, _), (1, _), (2, _)]) dX4_changeSigh_64 rfl (ltb rfl) rfl rfl ?_
      refine aw_aload_n 66 dX4_changeSigh_65 rfl 1 rfl rfl ?_
      obtain ⟨g26, h⟩ := h
      obtain ⟨g27, h⟩ := h
      refine aw_getR 69 dX4_changeSigh_66 fl_RX4_10 rfl g26 g27 rfl ?_
      obtain ⟨g28, h⟩ := h
      obtain ⟨g29, h⟩ := h
      refine aw_getR 72 dX4_changeSigh_69 fl_RX4_101 rfl g28 g29 rfl ?_
      refine aw_iload_n 73 dX4_changeSigh_72 rfl 2 rfl rfl ?_
      refine aw_iload_n 74 dX4_changeSigh_73 rfl 3 rfl rfl ?_
      refine aw_callS (M' := M_X4_put) 77 95 [.ref _, .int _, .int _] [] dX4_changeSigh_74 lk_RX4_95 ms_X4_put mp_X4_put rfl ⟨leb rfl, leb rfl⟩ rfl (leb rfl) (leb rfl) (leb rfl) rfl (am_X4_put hG h) (kkV fun X30 h => ?_) (kxN KrV.no)
      refine aw_widen (cc' := 2) (ss' := 12) (leb rfl) (leb rfl) ?_
      refine aw_iload_n 78 dX4_changeSigh_77 rfl 0 rfl rfl ?_
      exact aw_ireturn (ty := .int) dX4_changeSigh_78 rfl rfl (leb rfl) (leb rfl) (Or.inl ⟨_, rfl, h⟩)
    · replace h := h.2 c15
      exact aw_throw xcS 60 99 64 rfl th_xcS (by decide) (Or.inl ⟨dX4_changeSigh_35, dX4_changeSigh_38, dX4_changeSigh_39, dX4_changeSigh_41, dX4_changeSigh_44⟩) rfl (ltb rfl) (leb rfl) (leb rfl) (leb rfl) (Or.inr ⟨_, rfl, h⟩))
set_option maxRecDepth 20000 in
theorem am_L_changeSigh {G : GG} (hG : G.1.stackTraces = false) {l0 : Nat} {l1 : Int32} {l2 : Int32} {l3 : Nat} {X : XH} {K : Int32 → XH → Prop} (h : w_L_changeSigh l0 l1 l2 l3 X K) : AM G M_L_changeSigh X [.ref l0, .int l1, .int l2, .ref l3] (KrI K) := AM_ofH (by decide +kernel) (0, 10, 13, 13) [(0, 10, 17, 15), (0, 10, 21, 17)] rfl (leb rfl) hG (by
  show AW G M_L_changeSigh 0 [(0, .ref l0), (1, .int l1), (2, .int l2), (3, .ref l3)] [] X 0 0 _
  unfold w_L_changeSigh at h
  refine aw_aload_n 1 dL_changeSigh_0 rfl 3 rfl rfl ?_
  refine aw_iconst 2 (v := 0) dL_changeSigh_1 kI_0 rfl ?_
  refine aw_aload_n 3 dL_changeSigh_2 rfl 0 rfl rfl ?_
  refine aw_iload_n 4 dL_changeSigh_3 rfl 1 rfl rfl ?_
  refine aw_iload_n 5 dL_changeSigh_4 rfl 2 rfl rfl ?_
  obtain ⟨g3, h⟩ := h
  refine aw_callV (M' := M_X4_changeSigh) 8 23 4 l0 [.int _, .int _] [.int _, .ref _] dL_changeSigh_5 lk_RL_23 mv_X4_changeSigh mp_X4_changeSigh rfl ⟨leb rfl, leb rfl⟩ rfl (ltb rfl) g3 rfl (leb rfl) (leb rfl) (leb rfl) rfl (am_X4_changeSigh hG h) (kkT (kkI fun v2 X1 h => ?_)) (kxT KrI.no fun E X1 h => ?_)
  · refine aw_widen (cc' := 3) (ss' := 18) (leb rfl) (leb rfl) ?_
    refine aw_i2l 9 dL_changeSigh_8 rfl ?_
    obtain ⟨g4, h⟩ := h
    obtain ⟨g5, h⟩ := h
    refine aw_lastore 10 dL_changeSigh_9 g4 g5 rfl ?_
    refine aw_goto 25 dL_changeSigh_10 rfl ?_
    refine aw_iconst 26 (v := 0) dL_changeSigh_25 kI_0 rfl ?_
    exact aw_ireturn (ty := .int) dL_changeSigh_26 rfl rfl (leb rfl) (leb rfl) ⟨_, rfl, h⟩
  · obtain ⟨hE, h⟩ := h
    rcases hE with rfl | rfl | rfl
    · refine aw_atc (lv' := [(0, .ref _), (1, .int _), (2, .int _), (3, .ref _)]) [] (0, 10, 13, 13) [(0, 10, 17, 15), (0, 10, 21, 17)] rfl (fun z hz => nomatch hz) (by decide) (by decide) (tk3 (i := 61) (by decide +kernel) rfl) (by decide) 4 2 15 (Or.inr ⟨dL_changeSigh_13, rfl⟩) (ltb rfl) rfl ?_
      refine aw_widen (cc' := 3) (ss' := 18) (leb rfl) (leb rfl) ?_
      replace h := h.1 rfl
      refine aw_iconst 16 (v := 1) dL_changeSigh_15 kI_1 rfl ?_
      exact aw_ireturn (ty := .int) dL_changeSigh_16 rfl rfl (leb rfl) (leb rfl) ⟨_, rfl, h⟩
    · refine aw_atc (lv' := [(0, .ref _), (1, .int _), (2, .int _), (3, .ref _)]) [(0, 10, 13, 13)] (0, 10, 17, 15) [(0, 10, 21, 17)] rfl (by intro z hz; simp only [List.mem_cons, List.not_mem_nil, or_false] at hz; rcases hz with rfl <;> first | exact ⟨by decide, xcI, tk3 (i := 61) (by decide +kernel) rfl, by decide⟩) (by decide) (by decide) (tk3 (i := 62) (by decide +kernel) rfl) (by decide) 4 2 19 (Or.inr ⟨dL_changeSigh_17, rfl⟩) (ltb rfl) rfl ?_
      refine aw_widen (cc' := 3) (ss' := 18) (leb rfl) (leb rfl) ?_
      replace h := h.2.1 rfl
      refine aw_iconst 20 (v := 2) dL_changeSigh_19 kI_2 rfl ?_
      exact aw_ireturn (ty := .int) dL_changeSigh_20 rfl rfl (leb rfl) (leb rfl) ⟨_, rfl, h⟩
    · refine aw_atc (lv' := [(0, .ref _), (1, .int _), (2, .int _), (3, .ref _)]) [(0, 10, 13, 13), (0, 10, 17, 15)] (0, 10, 21, 17) [] rfl (by intro z hz; simp only [List.mem_cons, List.not_mem_nil, or_false] at hz; rcases hz with rfl | rfl <;> first | exact ⟨by decide, xcI, tk3 (i := 61) (by decide +kernel) rfl, by decide⟩ | exact ⟨by decide, xcA, tk3 (i := 62) (by decide +kernel) rfl, by decide⟩) (by decide) (by decide) (tk3 (i := 63) (by decide +kernel) rfl) (by decide) 4 2 23 (Or.inr ⟨dL_changeSigh_21, rfl⟩) (ltb rfl) rfl ?_
      refine aw_widen (cc' := 3) (ss' := 18) (leb rfl) (leb rfl) ?_
      replace h := h.2.2 rfl
      refine aw_iconst 24 (v := 3) dL_changeSigh_23 kI_3 rfl ?_
      exact aw_ireturn (ty := .int) dL_changeSigh_24 rfl rfl (leb rfl) (leb rfl) ⟨_, rfl, h⟩)
set_option maxRecDepth 20000 in
theorem am_X3_reelAt {G : GG} (hG : G.1.stackTraces = false) {l0 : Nat} {l1 : Int32} {X : XH} {K : Int32 → XH → Prop} (h : w_X3_reelAt l0 l1 X K) : AM G M_X3_reelAt X [.ref l0, .int l1] (KrI K) := AM_of (by decide +kernel) rfl (leb rfl) hG (by
  show AW G M_X3_reelAt 0 [(0, .ref l0), (1, .int l1)] [] X 0 0 _
  unfold w_X3_reelAt at h
  refine aw_aload_n 1 dX3_reelAt_0 rfl 0 rfl rfl ?_
  obtain ⟨g1, h⟩ := h
  obtain ⟨g2, h⟩ := h
  refine aw_getR 4 dX3_reelAt_1 fl_RX3_9 rfl g1 g2 rfl ?_
  refine aw_iload_n 5 dX3_reelAt_4 rfl 1 rfl rfl ?_
  refine aw_callSN (M' := M_X4_at) 8 81 [.ref _, .int _] [] dX3_reelAt_5 (by decide) ms_X4_at mp_X4_at rfl ⟨leb rfl, leb rfl⟩ rfl (leb rfl) (leb rfl) (leb rfl) rfl (am_X4_at hG h) (kkI fun v4 X3 h => ?_) KrI.no
  refine aw_widen (cc' := 0) (ss' := 0) (leb rfl) (leb rfl) ?_
  exact aw_ireturn (ty := .int) dX3_reelAt_8 rfl rfl (leb rfl) (leb rfl) ⟨_, rfl, h⟩)
set_option maxRecDepth 20000 in
theorem aw_X3_clausesOn_4 {G : GG} (hG : G.1.stackTraces = false)  {l0 : Nat} {l1 : Int32} {l2 : Int32} {l3 : Int32} {X : XH} {K : Int32 → XH → Prop}  (h : w_X3_clausesOn_4  l0 l1 l2 l3 X K) : AW G M_X3_clausesOn 4 [(0, .ref l0), (1, .int l1), (2, .int l2), (3, .int l3)] [] X 0 0 (KrI K) :=
  h (fun l0 l1 l2 l3 X => AW G M_X3_clausesOn 4 [(0, .ref l0), (1, .int l1), (2, .int l2), (3, .int l3)] [] X 0 0 (KrI K)) (fun l0 l1 l2 l3 X h => by
    refine aw_iload_n 5 dX3_clausesOn_4 rfl 3 rfl rfl ?_
    refine aw_aload_n 6 dX3_clausesOn_5 rfl 0 rfl rfl ?_
    obtain ⟨g1, h⟩ := h
    refine aw_getI 9 dX3_clausesOn_6 fl_RX3_45 rfl g1 rfl ?_
    refine aw_icmp_ge 30 12 dX3_clausesOn_9 rfl rfl (fun c2 => ?_) (fun c2 => ?_)
    · replace h := h.1 c2
      refine aw_iload_n 31 dX3_clausesOn_30 rfl 2 rfl rfl ?_
      exact aw_ireturn (ty := .int) dX3_clausesOn_31 rfl rfl (leb rfl) (leb rfl) ⟨_, rfl, h⟩
    · replace h := h.2 c2
      refine aw_aload_n 13 dX3_clausesOn_12 rfl 0 rfl rfl ?_
      refine aw_iload_n 14 dX3_clausesOn_13 rfl 3 rfl rfl ?_
      refine aw_callV (M' := M_X3_reelAt) 17 88 3 l0 [.int _] [] dX3_clausesOn_14 lk_RX3_88 mv_X3_reelAt mp_X3_reelAt rfl ⟨leb rfl, leb rfl⟩ rfl (ltb rfl) g1 rfl (leb rfl) (leb rfl) (leb rfl) rfl (am_X3_reelAt hG h) (kkI fun v4 X3 h => ?_) (kxN KrI.no)
      refine aw_widen (cc' := 0) (ss' := 0) (leb rfl) (leb rfl) ?_
      refine aw_iload_n 18 dX3_clausesOn_17 rfl 1 rfl rfl ?_
      refine aw_icmp_ne 24 21 dX3_clausesOn_18 rfl rfl (fun c5 => ?_) (fun c5 => ?_)
      · replace h := h.1 c5
        refine aw_iinc 27 (v := 1) (lv' := [(3, _), (0, _), (1, _), (2, _)]) dX3_clausesOn_24 3 rfl kI_1 (ltb rfl) rfl rfl ?_
        refine aw_goto 4 dX3_clausesOn_27 rfl ?_
        exact aw_pick [1, 2, 3, 0] rfl h
      · replace h := h.2 c5
        refine aw_iinc 24 (v := 1) (lv' := [(2, _), (0, _), (1, _), (3, _)]) dX3_clausesOn_21 2 rfl kI_1 (ltb rfl) rfl rfl ?_
        refine aw_iinc 27 (v := 1) (lv' := [(3, _), (2, _), (0, _), (1, _)]) dX3_clausesOn_24 3 rfl kI_1 (ltb rfl) rfl rfl ?_
        refine aw_goto 4 dX3_clausesOn_27 rfl ?_
        exact aw_pick [2, 3, 1, 0] rfl h)
set_option maxRecDepth 20000 in
theorem am_X3_clausesOn {G : GG} (hG : G.1.stackTraces = false) {l0 : Nat} {l1 : Int32} {X : XH} {K : Int32 → XH → Prop} (h : w_X3_clausesOn l0 l1 X K) : AM G M_X3_clausesOn X [.ref l0, .int l1] (KrI K) := AM_of (by decide +kernel) rfl (leb rfl) hG (by
  show AW G M_X3_clausesOn 0 [(0, .ref l0), (1, .int l1)] [] X 0 0 _
  unfold w_X3_clausesOn at h
  refine aw_iconst 1 (v := 0) dX3_clausesOn_0 kI_0 rfl ?_
  refine aw_istore_n 2 (lv' := [(2, _), (0, _), (1, _)]) dX3_clausesOn_1 rfl (ltb rfl) rfl rfl ?_
  refine aw_iconst 3 (v := 0) dX3_clausesOn_2 kI_0 rfl ?_
  refine aw_istore_n 4 (lv' := [(3, _), (2, _), (0, _), (1, _)]) dX3_clausesOn_3 rfl (ltb rfl) rfl rfl ?_
  exact aw_pick [2, 3, 1, 0] rfl (aw_X3_clausesOn_4 hG  h))
set_option maxRecDepth 20000 in
theorem am_X4_clausesIn {G : GG} (hG : G.1.stackTraces = false) {l0 : Nat} {l1 : Int32} {X : XH} {K : Int32 → XH → Prop} {KX : String → XH → Prop} (h : w_X4_clausesIn l0 l1 X K KX) : AM G M_X4_clausesIn X [.ref l0, .int l1] (KxT (KrI K) KX) := AM_of (by decide +kernel) rfl (leb rfl) hG (by
  show AW G M_X4_clausesIn 0 [(0, .ref l0), (1, .int l1)] [] X 0 0 _
  unfold w_X4_clausesIn at h
  refine aw_iload_n 1 dX4_clausesIn_0 rfl 1 rfl rfl ?_
  refine aw_callS (M' := M_X4_checkReel) 4 45 [.int _] [] dX4_clausesIn_1 lk_RX4_45 ms_X4_checkReel mp_X4_checkReel rfl ⟨leb rfl, leb rfl⟩ rfl (leb rfl) (leb rfl) (leb rfl) rfl (am_X4_checkReel hG h) (kkT (kkV fun X1 h => ?_)) (kxT KrV.no fun E X h => at_out rfl (leb rfl) (leb rfl) (Or.inr ⟨_, rfl, h⟩))
  refine aw_widen (cc' := 1) (ss' := 6) (leb rfl) (leb rfl) ?_
  refine aw_aload_n 5 dX4_clausesIn_4 rfl 0 rfl rfl ?_
  obtain ⟨g2, h⟩ := h
  obtain ⟨g3, h⟩ := h
  refine aw_getR 8 dX4_clausesIn_5 fl_RX4_10 rfl g2 g3 rfl ?_
  refine aw_iload_n 9 dX4_clausesIn_8 rfl 1 rfl rfl ?_
  obtain ⟨g6, h⟩ := h
  refine aw_callV (M' := M_X3_clausesOn) 12 307 3 (hR X1 l0 0) [.int _] [] dX4_clausesIn_9 lk_RX4_307 mv_X3_clausesOn mp_X3_clausesOn rfl ⟨leb rfl, leb rfl⟩ rfl (ltb rfl) g6 rfl (leb rfl) (leb rfl) (leb rfl) rfl (am_X3_clausesOn hG h) (kkI fun v5 X4 h => ?_) (kxN KrI.no)
  refine aw_widen (cc' := 1) (ss' := 6) (leb rfl) (leb rfl) ?_
  exact aw_ireturn (ty := .int) dX4_clausesIn_12 rfl rfl (leb rfl) (leb rfl) (Or.inl ⟨_, rfl, h⟩))
set_option maxRecDepth 20000 in
theorem am_L_clausesIn {G : GG} (hG : G.1.stackTraces = false) {l0 : Nat} {l1 : Int32} {l2 : Nat} {X : XH} {K : Int32 → XH → Prop} (h : w_L_clausesIn l0 l1 l2 X K) : AM G M_L_clausesIn X [.ref l0, .int l1, .ref l2] (KrI K) := AM_ofH (by decide +kernel) (0, 9, 12, 13) [] rfl (leb rfl) hG (by
  show AW G M_L_clausesIn 0 [(0, .ref l0), (1, .int l1), (2, .ref l2)] [] X 0 0 _
  unfold w_L_clausesIn at h
  refine aw_aload_n 1 dL_clausesIn_0 rfl 2 rfl rfl ?_
  refine aw_iconst 2 (v := 0) dL_clausesIn_1 kI_0 rfl ?_
  refine aw_aload_n 3 dL_clausesIn_2 rfl 0 rfl rfl ?_
  refine aw_iload_n 4 dL_clausesIn_3 rfl 1 rfl rfl ?_
  obtain ⟨g3, h⟩ := h
  refine aw_callV (M' := M_X4_clausesIn) 7 129 4 l0 [.int _] [.int _, .ref _] dL_clausesIn_4 lk_RL_129 mv_X4_clausesIn mp_X4_clausesIn rfl ⟨leb rfl, leb rfl⟩ rfl (ltb rfl) g3 rfl (leb rfl) (leb rfl) (leb rfl) rfl (am_X4_clausesIn hG h) (kkT (kkI fun v2 X1 h => ?_)) (kxT KrI.no fun E X1 h => ?_)
  · refine aw_widen (cc' := 1) (ss' := 6) (leb rfl) (leb rfl) ?_
    refine aw_i2l 8 dL_clausesIn_7 rfl ?_
    obtain ⟨g4, h⟩ := h
    obtain ⟨g5, h⟩ := h
    refine aw_lastore 9 dL_clausesIn_8 g4 g5 rfl ?_
    refine aw_goto 15 dL_clausesIn_9 rfl ?_
    refine aw_iconst 16 (v := 0) dL_clausesIn_15 kI_0 rfl ?_
    exact aw_ireturn (ty := .int) dL_clausesIn_16 rfl rfl (leb rfl) (leb rfl) ⟨_, rfl, h⟩
  · obtain ⟨hE, h⟩ := h
    rcases hE with rfl
    refine aw_atc (lv' := [(0, .ref _), (1, .int _), (2, .ref _)]) [] (0, 9, 12, 13) [] rfl (fun z hz => nomatch hz) (by decide) (by decide) (tk3 (i := 61) (by decide +kernel) rfl) (by decide) 3 1 13 (Or.inl ⟨3, rfl, dL_clausesIn_12, rfl⟩) (ltb rfl) rfl ?_
    refine aw_widen (cc' := 1) (ss' := 6) (leb rfl) (leb rfl) ?_
    replace h := h rfl
    refine aw_iconst 14 (v := 1) dL_clausesIn_13 kI_1 rfl ?_
    exact aw_ireturn (ty := .int) dL_clausesIn_14 rfl rfl (leb rfl) (leb rfl) ⟨_, rfl, h⟩)
set_option maxRecDepth 20000 in
theorem am_X3_hasFit {G : GG} (hG : G.1.stackTraces = false) {l0 : Nat} {l1 : Int32} {l2 : Int32} {X : XH} {K : Int32 → XH → Prop} (h : w_X3_hasFit l0 l1 l2 X K) : AM G M_X3_hasFit X [.ref l0, .int l1, .int l2] (KrI K) := AM_of (by decide +kernel) rfl (leb rfl) hG (by
  show AW G M_X3_hasFit 0 [(0, .ref l0), (1, .int l1), (2, .int l2)] [] X 0 0 _
  unfold w_X3_hasFit at h
  refine aw_aload_n 1 dX3_hasFit_0 rfl 0 rfl rfl ?_
  obtain ⟨g1, h⟩ := h
  obtain ⟨g2, h⟩ := h
  refine aw_getR 4 dX3_hasFit_1 fl_RX3_24 rfl g1 g2 rfl ?_
  refine aw_iload_n 5 dX3_hasFit_4 rfl 1 rfl rfl ?_
  refine aw_iload_n 6 dX3_hasFit_5 rfl 2 rfl rfl ?_
  refine aw_callS (M' := M_X3_place) 9 73 [.int _, .int _] [.ref _] dX3_hasFit_6 lk_RX3_73 ms_X3_place mp_X3_place rfl ⟨leb rfl, leb rfl⟩ rfl (leb rfl) (leb rfl) (leb rfl) rfl (am_X3_place hG h) (kkI fun v4 X3 h => ?_) (kxN KrI.no)
  refine aw_widen (cc' := 0) (ss' := 0) (leb rfl) (leb rfl) ?_
  refine aw_callSN (M' := M_X4_at) 12 81 [.ref _, .int _] [] dX3_hasFit_9 (by decide) ms_X4_at mp_X4_at rfl ⟨leb rfl, leb rfl⟩ rfl (leb rfl) (leb rfl) (leb rfl) rfl (am_X4_at hG h) (kkI fun v6 X5 h => ?_) KrI.no
  refine aw_widen (cc' := 0) (ss' := 0) (leb rfl) (leb rfl) ?_
  refine aw_istore_n 13 (lv' := [(3, _), (0, _), (1, _), (2, _)]) dX3_hasFit_12 rfl (ltb rfl) rfl rfl ?_
  refine aw_iload_n 14 dX3_hasFit_13 rfl 0 rfl rfl ?_
  refine aw_if_le 42 17 dX3_hasFit_14 rfl rfl (fun c7 => ?_) (fun c7 => ?_)
  · replace h := h.1 c7
    refine aw_iconst 43 (v := 0) dX3_hasFit_42 kI_0 rfl ?_
    exact aw_ireturn (ty := .boolean) dX3_hasFit_43 rfl rfl (leb rfl) (leb rfl) ⟨_, rfl, h⟩
  · replace h := h.2 c7
    refine aw_iload_n 18 dX3_hasFit_17 rfl 0 rfl rfl ?_
    refine aw_aload_n 19 dX3_hasFit_18 rfl 1 rfl rfl ?_
    obtain ⟨g8, h⟩ := h
    obtain ⟨g9, h⟩ := h
    refine aw_getR 22 dX3_hasFit_19 fl_RX3_21 rfl g8 g9 rfl ?_
    refine aw_iload_n 23 dX3_hasFit_22 rfl 2 rfl rfl ?_
    refine aw_callSN (M' := M_X4_at) 26 81 [.ref _, .int _] [.int _] dX3_hasFit_23 (by decide) ms_X4_at mp_X4_at rfl ⟨leb rfl, leb rfl⟩ rfl (leb rfl) (leb rfl) (leb rfl) rfl (am_X4_at hG h) (kkI fun v11 X10 h => ?_) KrI.no
    refine aw_widen (cc' := 0) (ss' := 0) (leb rfl) (leb rfl) ?_
    refine aw_iadd 27 dX3_hasFit_26 rfl ?_
    refine aw_aload_n 28 dX3_hasFit_27 rfl 1 rfl rfl ?_
    obtain ⟨g12, h⟩ := h
    obtain ⟨g13, h⟩ := h
    refine aw_getR 31 dX3_hasFit_28 fl_RX3_18 rfl g12 g13 rfl ?_
    refine aw_iload_n 32 dX3_hasFit_31 rfl 2 rfl rfl ?_
    refine aw_callSN (M' := M_X4_at) 35 81 [.ref _, .int _] [.int _] dX3_hasFit_32 (by decide) ms_X4_at mp_X4_at rfl ⟨leb rfl, leb rfl⟩ rfl (leb rfl) (leb rfl) (leb rfl) rfl (am_X4_at hG h) (kkI fun v15 X14 h => ?_) KrI.no
    refine aw_widen (cc' := 0) (ss' := 0) (leb rfl) (leb rfl) ?_
    refine aw_icmp_gt 42 38 dX3_hasFit_35 rfl rfl (fun c16 => ?_) (fun c16 => ?_)
    · replace h := h.1 c16
      refine aw_iconst 43 (v := 0) dX3_hasFit_42 kI_0 rfl ?_
      exact aw_ireturn (ty := .boolean) dX3_hasFit_43 rfl rfl (leb rfl) (leb rfl) ⟨_, rfl, h⟩
    · replace h := h.2 c16
      refine aw_iconst 39 (v := 1) dX3_hasFit_38 kI_1 rfl ?_
      refine aw_goto 43 dX3_hasFit_39 rfl ?_
      exact aw_ireturn (ty := .boolean) dX3_hasFit_43 rfl rfl (leb rfl) (leb rfl) ⟨_, rfl, h⟩)
set_option maxRecDepth 20000 in
theorem am_X4_fits {G : GG} (hG : G.1.stackTraces = false) {l0 : Nat} {l1 : Int32} {l2 : Int32} {X : XH} {K : Int32 → XH → Prop} {KX : String → XH → Prop} (h : w_X4_fits l0 l1 l2 X K KX) : AM G M_X4_fits X [.ref l0, .int l1, .int l2] (KxT (KrI K) KX) := AM_of (by decide +kernel) rfl (leb rfl) hG (by
  show AW G M_X4_fits 0 [(0, .ref l0), (1, .int l1), (2, .int l2)] [] X 0 0 _
  unfold w_X4_fits at h
  refine aw_aload_n 1 dX4_fits_0 rfl 0 rfl rfl ?_
  refine aw_iload_n 2 dX4_fits_1 rfl 1 rfl rfl ?_
  refine aw_iload_n 3 dX4_fits_2 rfl 2 rfl rfl ?_
  obtain ⟨g2, h⟩ := h
  refine aw_callV (M' := M_X4_checkTranslation) 6 115 4 l0 [.int _, .int _] [] dX4_fits_3 lk_RX4_115 mv_X4_checkTranslation mp_X4_checkTranslation rfl ⟨leb rfl, leb rfl⟩ rfl (ltb rfl) g2 rfl (leb rfl) (leb rfl) (leb rfl) rfl (am_X4_checkTranslation hG h) (kkT (kkV fun X1 h => ?_)) (kxT KrV.no fun E X h => at_out rfl (leb rfl) (leb rfl) (Or.inr ⟨_, rfl, h⟩))
  refine aw_widen (cc' := 2) (ss' := 12) (leb rfl) (leb rfl) ?_
  refine aw_aload_n 7 dX4_fits_6 rfl 0 rfl rfl ?_
  obtain ⟨g3, h⟩ := h
  obtain ⟨g4, h⟩ := h
  refine aw_getR 10 dX4_fits_7 fl_RX4_10 rfl g3 g4 rfl ?_
  refine aw_iload_n 11 dX4_fits_10 rfl 1 rfl rfl ?_
  refine aw_iload_n 12 dX4_fits_11 rfl 2 rfl rfl ?_
  obtain ⟨g7, h⟩ := h
  refine aw_callV (M' := M_X3_hasFit) 15 289 3 (hR X1 l0 0) [.int _, .int _] [] dX4_fits_12 lk_RX4_289 mv_X3_hasFit mp_X3_hasFit rfl ⟨leb rfl, leb rfl⟩ rfl (ltb rfl) g7 rfl (leb rfl) (leb rfl) (leb rfl) rfl (am_X3_hasFit hG h) (kkI fun v6 X5 h => ?_) (kxN KrI.no)
  refine aw_widen (cc' := 2) (ss' := 12) (leb rfl) (leb rfl) ?_
  obtain ⟨g8, h⟩ := h
  exact aw_ireturn (ty := .boolean) dX4_fits_15 rfl (narZ g8) (leb rfl) (leb rfl) (Or.inl ⟨_, rfl, h⟩))
set_option maxRecDepth 20000 in
theorem am_L_fits {G : GG} (hG : G.1.stackTraces = false) {l0 : Nat} {l1 : Int32} {l2 : Int32} {l3 : Nat} {X : XH} {K : Int32 → XH → Prop} (h : w_L_fits l0 l1 l2 l3 X K) : AM G M_L_fits X [.ref l0, .int l1, .int l2, .ref l3] (KrI K) := AM_ofH (by decide +kernel) (0, 17, 20, 13) [] rfl (leb rfl) hG (by
  show AW G M_L_fits 0 [(0, .ref l0), (1, .int l1), (2, .int l2), (3, .ref l3)] [] X 0 0 _
  unfold w_L_fits at h
  refine aw_aload_n 1 dL_fits_0 rfl 3 rfl rfl ?_
  refine aw_iconst 2 (v := 0) dL_fits_1 kI_0 rfl ?_
  refine aw_aload_n 3 dL_fits_2 rfl 0 rfl rfl ?_
  refine aw_iload_n 4 dL_fits_3 rfl 1 rfl rfl ?_
  refine aw_iload_n 5 dL_fits_4 rfl 2 rfl rfl ?_
  obtain ⟨g3, h⟩ := h
  refine aw_callV (M' := M_X4_fits) 8 105 4 l0 [.int _, .int _] [.int _, .ref _] dL_fits_5 lk_RL_105 mv_X4_fits mp_X4_fits rfl ⟨leb rfl, leb rfl⟩ rfl (ltb rfl) g3 rfl (leb rfl) (leb rfl) (leb rfl) rfl (am_X4_fits hG h) (kkT (kkI fun v2 X1 h => ?_)) (kxT KrI.no fun E X1 h => ?_)
  · refine aw_widen (cc' := 2) (ss' := 12) (leb rfl) (leb rfl) ?_
    refine aw_if_eq 15 11 dL_fits_8 rfl rfl (fun c4 => ?_) (fun c4 => ?_)
    · replace h := h.1 c4
      refine aw_lconst 16 (v := 0) dL_fits_15 kL_0 rfl ?_
      obtain ⟨g5, h⟩ := h
      obtain ⟨g6, h⟩ := h
      refine aw_lastore 17 dL_fits_16 g5 g6 rfl ?_
      refine aw_goto 24 dL_fits_17 rfl ?_
      refine aw_iconst 25 (v := 0) dL_fits_24 kI_0 rfl ?_
      exact aw_ireturn (ty := .int) dL_fits_25 rfl rfl (leb rfl) (leb rfl) ⟨_, rfl, h⟩
    · replace h := h.2 c4
      refine aw_lconst 12 (v := 1) dL_fits_11 kL_1 rfl ?_
      refine aw_goto 16 dL_fits_12 rfl ?_
      obtain ⟨g7, h⟩ := h
      obtain ⟨g8, h⟩ := h
      refine aw_lastore 17 dL_fits_16 g7 g8 rfl ?_
      refine aw_goto 24 dL_fits_17 rfl ?_
      refine aw_iconst 25 (v := 0) dL_fits_24 kI_0 rfl ?_
      exact aw_ireturn (ty := .int) dL_fits_25 rfl rfl (leb rfl) (leb rfl) ⟨_, rfl, h⟩
  · obtain ⟨hE, h⟩ := h
    rcases hE with rfl
    refine aw_atc (lv' := [(0, .ref _), (1, .int _), (2, .int _), (3, .ref _)]) [] (0, 17, 20, 13) [] rfl (fun z hz => nomatch hz) (by decide) (by decide) (tk3 (i := 61) (by decide +kernel) rfl) (by decide) 4 2 22 (Or.inr ⟨dL_fits_20, rfl⟩) (ltb rfl) rfl ?_
    refine aw_widen (cc' := 2) (ss' := 12) (leb rfl) (leb rfl) ?_
    replace h := h rfl
    refine aw_iconst 23 (v := 1) dL_fits_22 kI_1 rfl ?_
    exact aw_ireturn (ty := .int) dL_fits_23 rfl rfl (leb rfl) (leb rfl) ⟨_, rfl, h⟩)
set_option maxRecDepth 20000 in
theorem am_X4_checkTranslated {G : GG} (hG : G.1.stackTraces = false) {l0 : Nat} {l1 : Int32} {l2 : Int32} {X : XH} {K : XH → Prop} {KX : String → XH → Prop} (h : w_X4_checkTranslated l0 l1 l2 X K KX) : AM G M_X4_checkTranslated X [.ref l0, .int l1, .int l2] (KxT (KrV K) KX) := AM_of (by decide +kernel) rfl (leb rfl) hG (by
  show AW G M_X4_checkTranslated 0 [(0, .ref l0), (1, .int l1), (2, .int l2)] [] X 0 0 _
  unfold w_X4_checkTranslated at h
  refine aw_aload_n 1 dX4_checkTranslated_0 rfl 0 rfl rfl ?_
  obtain ⟨g1, h⟩ := h
  obtain ⟨g2, h⟩ := h
  refine aw_getR 4 dX4_checkTranslated_1 fl_RX4_10 rfl g1 g2 rfl ?_
  refine aw_iload_n 5 dX4_checkTranslated_4 rfl 1 rfl rfl ?_
  refine aw_iload_n 6 dX4_checkTranslated_5 rfl 2 rfl rfl ?_
  obtain ⟨g5, h⟩ := h
  refine aw_callV (M' := M_X3_hasTranslation) 9 283 3 (hR X l0 0) [.int _, .int _] [] dX4_checkTranslated_6 lk_RX4_283 mv_X3_hasTranslation mp_X3_hasTranslation rfl ⟨leb rfl, leb rfl⟩ rfl (ltb rfl) g5 rfl (leb rfl) (leb rfl) (leb rfl) rfl (am_X3_hasTranslation hG h) (kkI fun v4 X3 h => ?_) (kxN KrI.no)
  refine aw_widen (cc' := 0) (ss' := 0) (leb rfl) (leb rfl) ?_
  refine aw_if_ne 23 12 dX4_checkTranslated_9 rfl rfl (fun c6 => ?_) (fun c6 => ?_)
  · replace h := h.1 c6
    exact aw_return dX4_checkTranslated_23 rfl (leb rfl) (leb rfl) (Or.inl ⟨rfl, h⟩)
  · replace h := h.2 c6
    exact aw_throw xcS 60 434 64 rfl th_xcS (by decide) (Or.inr ⟨dX4_checkTranslated_12, dX4_checkTranslated_15, dX4_checkTranslated_16, dX4_checkTranslated_19, dX4_checkTranslated_22⟩) rfl (ltb rfl) (leb rfl) (leb rfl) (leb rfl) (Or.inr ⟨_, rfl, h⟩))
set_option maxRecDepth 20000 in
theorem am_X4_framesOf {G : GG} (hG : G.1.stackTraces = false) {l0 : Nat} {l1 : Int32} {l2 : Int32} {X : XH} {K : Int32 → XH → Prop} {KX : String → XH → Prop} (h : w_X4_framesOf l0 l1 l2 X K KX) : AM G M_X4_framesOf X [.ref l0, .int l1, .int l2] (KxT (KrI K) KX) := AM_of (by decide +kernel) rfl (leb rfl) hG (by
  show AW G M_X4_framesOf 0 [(0, .ref l0), (1, .int l1), (2, .int l2)] [] X 0 0 _
  unfold w_X4_framesOf at h
  refine aw_aload_n 1 dX4_framesOf_0 rfl 0 rfl rfl ?_
  refine aw_iload_n 2 dX4_framesOf_1 rfl 1 rfl rfl ?_
  refine aw_iload_n 3 dX4_framesOf_2 rfl 2 rfl rfl ?_
  obtain ⟨g2, h⟩ := h
  refine aw_callV (M' := M_X4_checkTranslation) 6 115 4 l0 [.int _, .int _] [] dX4_framesOf_3 lk_RX4_115 mv_X4_checkTranslation mp_X4_checkTranslation rfl ⟨leb rfl, leb rfl⟩ rfl (ltb rfl) g2 rfl (leb rfl) (leb rfl) (leb rfl) rfl (am_X4_checkTranslation hG h) (kkT (kkV fun X1 h => ?_)) (kxT KrV.no fun E X h => at_out rfl (leb rfl) (leb rfl) (Or.inr ⟨_, rfl, h⟩))
  refine aw_widen (cc' := 2) (ss' := 12) (leb rfl) (leb rfl) ?_
  refine aw_aload_n 7 dX4_framesOf_6 rfl 0 rfl rfl ?_
  refine aw_iload_n 8 dX4_framesOf_7 rfl 1 rfl rfl ?_
  refine aw_iload_n 9 dX4_framesOf_8 rfl 2 rfl rfl ?_
  obtain ⟨g4, h⟩ := h
  refine aw_callV (M' := M_X4_checkTranslated) 12 286 4 l0 [.int _, .int _] [] dX4_framesOf_9 lk_RX4_286 mv_X4_checkTranslated mp_X4_checkTranslated rfl ⟨leb rfl, leb rfl⟩ rfl (ltb rfl) g4 rfl (leb rfl) (leb rfl) (leb rfl) rfl (am_X4_checkTranslated hG h) (kkT (kkV fun X3 h => ?_)) (kxT KrV.no fun E X h => at_out rfl (leb rfl) (leb rfl) (Or.inr ⟨_, rfl, h⟩))
  refine aw_widen (cc' := 3) (ss' := 18) (leb rfl) (leb rfl) ?_
  refine aw_aload_n 13 dX4_framesOf_12 rfl 0 rfl rfl ?_
  obtain ⟨g5, h⟩ := h
  obtain ⟨g6, h⟩ := h
  refine aw_getR 16 dX4_framesOf_13 fl_RX4_10 rfl g5 g6 rfl ?_
  refine aw_iload_n 17 dX4_framesOf_16 rfl 1 rfl rfl ?_
  refine aw_iload_n 18 dX4_framesOf_17 rfl 2 rfl rfl ?_
  obtain ⟨g9, h⟩ := h
  refine aw_callV (M' := M_X3_framesAt) 21 139 3 (hR X3 l0 0) [.int _, .int _] [] dX4_framesOf_18 lk_RX4_139 mv_X3_framesAt mp_X3_framesAt rfl ⟨leb rfl, leb rfl⟩ rfl (ltb rfl) g9 rfl (leb rfl) (leb rfl) (leb rfl) rfl (am_X3_framesAt hG h) (kkI fun v8 X7 h => ?_) (kxN KrI.no)
  refine aw_widen (cc' := 3) (ss' := 18) (leb rfl) (leb rfl) ?_
  exact aw_ireturn (ty := .int) dX4_framesOf_21 rfl rfl (leb rfl) (leb rfl) (Or.inl ⟨_, rfl, h⟩))
set_option maxRecDepth 20000 in
theorem am_L_framesOf {G : GG} (hG : G.1.stackTraces = false) {l0 : Nat} {l1 : Int32} {l2 : Int32} {l3 : Nat} {X : XH} {K : Int32 → XH → Prop} (h : w_L_framesOf l0 l1 l2 l3 X K) : AM G M_L_framesOf X [.ref l0, .int l1, .int l2, .ref l3] (KrI K) := AM_ofH (by decide +kernel) (0, 10, 13, 13) [(0, 10, 17, 17)] rfl (leb rfl) hG (by
  show AW G M_L_framesOf 0 [(0, .ref l0), (1, .int l1), (2, .int l2), (3, .ref l3)] [] X 0 0 _
  unfold w_L_framesOf at h
  refine aw_aload_n 1 dL_framesOf_0 rfl 3 rfl rfl ?_
  refine aw_iconst 2 (v := 0) dL_framesOf_1 kI_0 rfl ?_
  refine aw_aload_n 3 dL_framesOf_2 rfl 0 rfl rfl ?_
  refine aw_iload_n 4 dL_framesOf_3 rfl 1 rfl rfl ?_
  refine aw_iload_n 5 dL_framesOf_4 rfl 2 rfl rfl ?_
  obtain ⟨g3, h⟩ := h
  refine aw_callV (M' := M_X4_framesOf) 8 90 4 l0 [.int _, .int _] [.int _, .ref _] dL_framesOf_5 lk_RL_90 mv_X4_framesOf mp_X4_framesOf rfl ⟨leb rfl, leb rfl⟩ rfl (ltb rfl) g3 rfl (leb rfl) (leb rfl) (leb rfl) rfl (am_X4_framesOf hG h) (kkT (kkI fun v2 X1 h => ?_)) (kxT KrI.no fun E X1 h => ?_)
  · refine aw_widen (cc' := 3) (ss' := 18) (leb rfl) (leb rfl) ?_
    refine aw_i2l 9 dL_framesOf_8 rfl ?_
    obtain ⟨g4, h⟩ := h
    obtain ⟨g5, h⟩ := h
    refine aw_lastore 10 dL_framesOf_9 g4 g5 rfl ?_
    refine aw_goto 21 dL_framesOf_10 rfl ?_
    refine aw_iconst 22 (v := 0) dL_framesOf_21 kI_0 rfl ?_
    exact aw_ireturn (ty := .int) dL_framesOf_22 rfl rfl (leb rfl) (leb rfl) ⟨_, rfl, h⟩
  · obtain ⟨hE, h⟩ := h
    rcases hE with rfl | rfl
    · refine aw_atc (lv' := [(0, .ref _), (1, .int _), (2, .int _), (3, .ref _)]) [] (0, 10, 13, 13) [(0, 10, 17, 17)] rfl (fun z hz => nomatch hz) (by decide) (by decide) (tk3 (i := 61) (by decide +kernel) rfl) (by decide) 4 2 15 (Or.inr ⟨dL_framesOf_13, rfl⟩) (ltb rfl) rfl ?_
      refine aw_widen (cc' := 3) (ss' := 18) (leb rfl) (leb rfl) ?_
      replace h := h.1 rfl
      refine aw_iconst 16 (v := 1) dL_framesOf_15 kI_1 rfl ?_
      exact aw_ireturn (ty := .int) dL_framesOf_16 rfl rfl (leb rfl) (leb rfl) ⟨_, rfl, h⟩
    · refine aw_atc (lv' := [(0, .ref _), (1, .int _), (2, .int _), (3, .ref _)]) [(0, 10, 13, 13)] (0, 10, 17, 17) [] rfl (by intro z hz; simp only [List.mem_cons, List.not_mem_nil, or_false] at hz; rcases hz with rfl <;> first | exact ⟨by decide, xcI, tk3 (i := 61) (by decide +kernel) rfl, by decide⟩) (by decide) (by decide) (tk3 (i := 63) (by decide +kernel) rfl) (by decide) 4 2 19 (Or.inr ⟨dL_framesOf_17, rfl⟩) (ltb rfl) rfl ?_
      refine aw_widen (cc' := 3) (ss' := 18) (leb rfl) (leb rfl) ?_
      replace h := h.2 rfl
      refine aw_iconst 20 (v := 2) dL_framesOf_19 kI_2 rfl ?_
      exact aw_ireturn (ty := .int) dL_framesOf_20 rfl rfl (leb rfl) (leb rfl) ⟨_, rfl, h⟩)
set_option maxRecDepth 20000 in
theorem am_X3_speakerAt {G : GG} (hG : G.1.stackTraces = false) {l0 : Nat} {l1 : Int32} {X : XH} {K : Int32 → XH → Prop} (h : w_X3_speakerAt l0 l1 X K) : AM G M_X3_speakerAt X [.ref l0, .int l1] (KrI K) := AM_of (by decide +kernel) rfl (leb rfl) hG (by
  show AW G M_X3_speakerAt 0 [(0, .ref l0), (1, .int l1)] [] X 0 0 _
  unfold w_X3_speakerAt at h
  refine aw_aload_n 1 dX3_speakerAt_0 rfl 0 rfl rfl ?_
  obtain ⟨g1, h⟩ := h
  obtain ⟨g2, h⟩ := h
  refine aw_getR 4 dX3_speakerAt_1 fl_RX3_15 rfl g1 g2 rfl ?_
  refine aw_iload_n 5 dX3_speakerAt_4 rfl 1 rfl rfl ?_
  refine aw_callSN (M' := M_X4_at) 8 81 [.ref _, .int _] [] dX3_speakerAt_5 (by decide) ms_X4_at mp_X4_at rfl ⟨leb rfl, leb rfl⟩ rfl (leb rfl) (leb rfl) (leb rfl) rfl (am_X4_at hG h) (kkI fun v4 X3 h => ?_) KrI.no
  refine aw_widen (cc' := 0) (ss' := 0) (leb rfl) (leb rfl) ?_
  exact aw_ireturn (ty := .int) dX3_speakerAt_8 rfl rfl (leb rfl) (leb rfl) ⟨_, rfl, h⟩)
set_option maxRecDepth 20000 in
theorem am_X3_spokenAt {G : GG} (hG : G.1.stackTraces = false) {l0 : Nat} {l1 : Int32} {l2 : Int32} {X : XH} {K : Int32 → XH → Prop} (h : w_X3_spokenAt l0 l1 l2 X K) : AM G M_X3_spokenAt X [.ref l0, .int l1, .int l2] (KrI K) := AM_of (by decide +kernel) rfl (leb rfl) hG (by
  show AW G M_X3_spokenAt 0 [(0, .ref l0), (1, .int l1), (2, .int l2)] [] X 0 0 _
  unfold w_X3_spokenAt at h
  refine aw_aload_n 1 dX3_spokenAt_0 rfl 0 rfl rfl ?_
  obtain ⟨g1, h⟩ := h
  obtain ⟨g2, h⟩ := h
  refine aw_getR 4 dX3_spokenAt_1 fl_RX3_24 rfl g1 g2 rfl ?_
  refine aw_iload_n 5 dX3_spokenAt_4 rfl 1 rfl rfl ?_
  refine aw_iload_n 6 dX3_spokenAt_5 rfl 2 rfl rfl ?_
  refine aw_callS (M' := M_X3_place) 9 73 [.int _, .int _] [.ref _] dX3_spokenAt_6 lk_RX3_73 ms_X3_place mp_X3_place rfl ⟨leb rfl, leb rfl⟩ rfl (leb rfl) (leb rfl) (leb rfl) rfl (am_X3_place hG h) (kkI fun v4 X3 h => ?_) (kxN KrI.no)
  refine aw_widen (cc' := 0) (ss' := 0) (leb rfl) (leb rfl) ?_
  refine aw_callSN (M' := M_X4_at) 12 81 [.ref _, .int _] [] dX3_spokenAt_9 (by decide) ms_X4_at mp_X4_at rfl ⟨leb rfl, leb rfl⟩ rfl (leb rfl) (leb rfl) (leb rfl) rfl (am_X4_at hG h) (kkI fun v6 X5 h => ?_) KrI.no
  refine aw_widen (cc' := 0) (ss' := 0) (leb rfl) (leb rfl) ?_
  refine aw_aload_n 13 dX3_spokenAt_12 rfl 0 rfl rfl ?_
  obtain ⟨g7, h⟩ := h
  obtain ⟨g8, h⟩ := h
  refine aw_getR 16 dX3_spokenAt_13 fl_RX3_21 rfl g7 g8 rfl ?_
  refine aw_iload_n 17 dX3_spokenAt_16 rfl 1 rfl rfl ?_
  refine aw_callSN (M' := M_X4_at) 20 81 [.ref _, .int _] [.int _] dX3_spokenAt_17 (by decide) ms_X4_at mp_X4_at rfl ⟨leb rfl, leb rfl⟩ rfl (leb rfl) (leb rfl) (leb rfl) rfl (am_X4_at hG h) (kkI fun v10 X9 h => ?_) KrI.no
  refine aw_widen (cc' := 0) (ss' := 0) (leb rfl) (leb rfl) ?_
  refine aw_iadd 21 dX3_spokenAt_20 rfl ?_
  exact aw_ireturn (ty := .int) dX3_spokenAt_21 rfl rfl (leb rfl) (leb rfl) ⟨_, rfl, h⟩)
set_option maxRecDepth 20000 in
theorem aw_X3_takenFramesOf_5 {G : GG} (hG : G.1.stackTraces = false)  {l0 : Nat} {l1 : Int32} {l2 : Int32} {l3 : Int32} {l4 : Int32} {X : XH} {K : Int32 → XH → Prop}  (h : w_X3_takenFramesOf_5  l0 l1 l2 l3 l4 X K) : AW G M_X3_takenFramesOf 5 [(0, .ref l0), (1, .int l1), (2, .int l2), (3, .int l3), (4, .int l4)] [] X 0 0 (KrI K) :=
  h (fun l0 l1 l2 l3 l4 X => AW G M_X3_takenFramesOf 5 [(0, .ref l0), (1, .int l1), (2, .int l2), (3, .int l3), (4, .int l4)] [] X 0 0 (KrI K)) (fun l0 l1 l2 l3 l4 X h => by
    refine aw_iload 7 dX3_takenFramesOf_5 4 rfl rfl ?_
    refine aw_aload_n 8 dX3_takenFramesOf_7 rfl 0 rfl rfl ?_
    obtain ⟨g1, h⟩ := h
    refine aw_getI 11 dX3_takenFramesOf_8 fl_RX3_45 rfl g1 rfl ?_
    refine aw_icmp_ge 50 14 dX3_takenFramesOf_11 rfl rfl (fun c2 => ?_) (fun c2 => ?_)
    · replace h := h.1 c2
      refine aw_iload_n 51 dX3_takenFramesOf_50 rfl 3 rfl rfl ?_
      exact aw_ireturn (ty := .int) dX3_takenFramesOf_51 rfl rfl (leb rfl) (leb rfl) ⟨_, rfl, h⟩
    · replace h := h.2 c2
      refine aw_aload_n 15 dX3_takenFramesOf_14 rfl 0 rfl rfl ?_
      refine aw_iload 17 dX3_takenFramesOf_15 4 rfl rfl ?_
      refine aw_callV (M' := M_X3_speakerAt) 20 77 3 l0 [.int _] [] dX3_takenFramesOf_17 lk_RX3_77 mv_X3_speakerAt mp_X3_speakerAt rfl ⟨leb rfl, leb rfl⟩ rfl (ltb rfl) g1 rfl (leb rfl) (leb rfl) (leb rfl) rfl (am_X3_speakerAt hG h) (kkI fun v4 X3 h => ?_) (kxN KrI.no)
      refine aw_widen (cc' := 0) (ss' := 0) (leb rfl) (leb rfl) ?_
      refine aw_iload_n 21 dX3_takenFramesOf_20 rfl 1 rfl rfl ?_
      refine aw_icmp_ne 44 24 dX3_takenFramesOf_21 rfl rfl (fun c5 => ?_) (fun c5 => ?_)
      · replace h := h.1 c5
        refine aw_iinc 47 (v := 1) (lv' := [(4, _), (0, _), (1, _), (2, _), (3, _)]) dX3_takenFramesOf_44 4 rfl kI_1 (ltb rfl) rfl rfl ?_
        refine aw_goto 5 dX3_takenFramesOf_47 rfl ?_
        exact aw_pick [1, 2, 3, 4, 0] rfl h
      · replace h := h.2 c5
        refine aw_aload_n 25 dX3_takenFramesOf_24 rfl 0 rfl rfl ?_
        refine aw_iload 27 dX3_takenFramesOf_25 4 rfl rfl ?_
        refine aw_iload_n 28 dX3_takenFramesOf_27 rfl 2 rfl rfl ?_
        obtain ⟨g8, h⟩ := h
        refine aw_callV (M' := M_X3_isTaken) 31 98 3 l0 [.int _, .int _] [] dX3_takenFramesOf_28 lk_RX3_98 mv_X3_isTaken mp_X3_isTaken rfl ⟨leb rfl, leb rfl⟩ rfl (ltb rfl) g8 rfl (leb rfl) (leb rfl) (leb rfl) rfl (am_X3_isTaken hG h) (kkI fun v7 X6 h => ?_) (kxN KrI.no)
        refine aw_widen (cc' := 0) (ss' := 0) (leb rfl) (leb rfl) ?_
        refine aw_if_eq 44 34 dX3_takenFramesOf_31 rfl rfl (fun c9 => ?_) (fun c9 => ?_)
        · replace h := h.1 c9
          refine aw_iinc 47 (v := 1) (lv' := [(4, _), (0, _), (1, _), (2, _), (3, _)]) dX3_takenFramesOf_44 4 rfl kI_1 (ltb rfl) rfl rfl ?_
          refine aw_goto 5 dX3_takenFramesOf_47 rfl ?_
          exact aw_pick [1, 2, 3, 4, 0] rfl h
        · replace h := h.2 c9
          refine aw_iload_n 35 dX3_takenFramesOf_34 rfl 3 rfl rfl ?_
          refine aw_aload_n 36 dX3_takenFramesOf_35 rfl 0 rfl rfl ?_
          refine aw_iload 38 dX3_takenFramesOf_36 4 rfl rfl ?_
          refine aw_iload_n 39 dX3_takenFramesOf_38 rfl 2 rfl rfl ?_
          obtain ⟨g12, h⟩ := h
          refine aw_callV (M' := M_X3_spokenAt) 42 85 3 l0 [.int _, .int _] [.int _] dX3_takenFramesOf_39 lk_RX3_85 mv_X3_spokenAt mp_X3_spokenAt rfl ⟨leb rfl, leb rfl⟩ rfl (ltb rfl) g12 rfl (leb rfl) (leb rfl) (leb rfl) rfl (am_X3_spokenAt hG h) (kkI fun v11 X10 h => ?_) (kxN KrI.no)
          refine aw_widen (cc' := 0) (ss' := 0) (leb rfl) (leb rfl) ?_
          refine aw_iadd 43 dX3_takenFramesOf_42 rfl ?_
          refine aw_istore_n 44 (lv' := [(3, _), (0, _), (1, _), (2, _), (4, _)]) dX3_takenFramesOf_43 rfl (ltb rfl) rfl rfl ?_
          refine aw_iinc 47 (v := 1) (lv' := [(4, _), (3, _), (0, _), (1, _), (2, _)]) dX3_takenFramesOf_44 4 rfl kI_1 (ltb rfl) rfl rfl ?_
          refine aw_goto 5 dX3_takenFramesOf_47 rfl ?_
          exact aw_pick [2, 3, 4, 1, 0] rfl h)
set_option maxRecDepth 20000 in
theorem am_X3_takenFramesOf {G : GG} (hG : G.1.stackTraces = false) {l0 : Nat} {l1 : Int32} {l2 : Int32} {X : XH} {K : Int32 → XH → Prop} (h : w_X3_takenFramesOf l0 l1 l2 X K) : AM G M_X3_takenFramesOf X [.ref l0, .int l1, .int l2] (KrI K) := AM_of (by decide +kernel) rfl (leb rfl) hG (by
  show AW G M_X3_takenFramesOf 0 [(0, .ref l0), (1, .int l1), (2, .int l2)] [] X 0 0 _
  unfold w_X3_takenFramesOf at h
  refine aw_iconst 1 (v := 0) dX3_takenFramesOf_0 kI_0 rfl ?_
  refine aw_istore_n 2 (lv' := [(3, _), (0, _), (1, _), (2, _)]) dX3_takenFramesOf_1 rfl (ltb rfl) rfl rfl ?_
  refine aw_iconst 3 (v := 0) dX3_takenFramesOf_2 kI_0 rfl ?_
  refine aw_istore 5 (lv' := [(4, _), (3, _), (0, _), (1, _), (2, _)]) dX3_takenFramesOf_3 (ltb rfl) rfl rfl ?_
  exact aw_pick [2, 3, 4, 1, 0] rfl (aw_X3_takenFramesOf_5 hG  h))
set_option maxRecDepth 20000 in
theorem am_X4_framesOfVoice {G : GG} (hG : G.1.stackTraces = false) {l0 : Nat} {l1 : Int32} {l2 : Int32} {X : XH} {K : Int32 → XH → Prop} {KX : String → XH → Prop} (h : w_X4_framesOfVoice l0 l1 l2 X K KX) : AM G M_X4_framesOfVoice X [.ref l0, .int l1, .int l2] (KxT (KrI K) KX) := AM_of (by decide +kernel) rfl (leb rfl) hG (by
  show AW G M_X4_framesOfVoice 0 [(0, .ref l0), (1, .int l1), (2, .int l2)] [] X 0 0 _
  unfold w_X4_framesOfVoice at h
  refine aw_iload_n 1 dX4_framesOfVoice_0 rfl 1 rfl rfl ?_
  refine aw_iload_n 2 dX4_framesOfVoice_1 rfl 2 rfl rfl ?_
  refine aw_callS (M' := M_X4_checkVoice) 5 150 [.int _, .int _] [] dX4_framesOfVoice_2 lk_RX4_150 ms_X4_checkVoice mp_X4_checkVoice rfl ⟨leb rfl, leb rfl⟩ rfl (leb rfl) (leb rfl) (leb rfl) rfl (am_X4_checkVoice hG h) (kkT (kkV fun X1 h => ?_)) (kxT KrV.no fun E X h => at_out rfl (leb rfl) (leb rfl) (Or.inr ⟨_, rfl, h⟩))
  refine aw_widen (cc' := 2) (ss' := 12) (leb rfl) (leb rfl) ?_
  refine aw_aload_n 6 dX4_framesOfVoice_5 rfl 0 rfl rfl ?_
  obtain ⟨g2, h⟩ := h
  obtain ⟨g3, h⟩ := h
  refine aw_getR 9 dX4_framesOfVoice_6 fl_RX4_10 rfl g2 g3 rfl ?_
  refine aw_iload_n 10 dX4_framesOfVoice_9 rfl 1 rfl rfl ?_
  refine aw_iload_n 11 dX4_framesOfVoice_10 rfl 2 rfl rfl ?_
  obtain ⟨g6, h⟩ := h
  refine aw_callV (M' := M_X3_takenFramesOf) 14 295 3 (hR X1 l0 0) [.int _, .int _] [] dX4_framesOfVoice_11 lk_RX4_295 mv_X3_takenFramesOf mp_X3_takenFramesOf rfl ⟨leb rfl, leb rfl⟩ rfl (ltb rfl) g6 rfl (leb rfl) (leb rfl) (leb rfl) rfl (am_X3_takenFramesOf hG h) (kkI fun v5 X4 h => ?_) (kxN KrI.no)
  refine aw_widen (cc' := 2) (ss' := 12) (leb rfl) (leb rfl) ?_
  exact aw_ireturn (ty := .int) dX4_framesOfVoice_14 rfl rfl (leb rfl) (leb rfl) (Or.inl ⟨_, rfl, h⟩))
set_option maxRecDepth 20000 in
theorem am_L_framesOfVoice {G : GG} (hG : G.1.stackTraces = false) {l0 : Nat} {l1 : Int32} {l2 : Int32} {l3 : Nat} {X : XH} {K : Int32 → XH → Prop} (h : w_L_framesOfVoice l0 l1 l2 l3 X K) : AM G M_L_framesOfVoice X [.ref l0, .int l1, .int l2, .ref l3] (KrI K) := AM_ofH (by decide +kernel) (0, 10, 13, 13) [] rfl (leb rfl) hG (by
  show AW G M_L_framesOfVoice 0 [(0, .ref l0), (1, .int l1), (2, .int l2), (3, .ref l3)] [] X 0 0 _
  unfold w_L_framesOfVoice at h
  refine aw_aload_n 1 dL_framesOfVoice_0 rfl 3 rfl rfl ?_
  refine aw_iconst 2 (v := 0) dL_framesOfVoice_1 kI_0 rfl ?_
  refine aw_aload_n 3 dL_framesOfVoice_2 rfl 0 rfl rfl ?_
  refine aw_iload_n 4 dL_framesOfVoice_3 rfl 1 rfl rfl ?_
  refine aw_iload_n 5 dL_framesOfVoice_4 rfl 2 rfl rfl ?_
  obtain ⟨g3, h⟩ := h
  refine aw_callV (M' := M_X4_framesOfVoice) 8 120 4 l0 [.int _, .int _] [.int _, .ref _] dL_framesOfVoice_5 lk_RL_120 mv_X4_framesOfVoice mp_X4_framesOfVoice rfl ⟨leb rfl, leb rfl⟩ rfl (ltb rfl) g3 rfl (leb rfl) (leb rfl) (leb rfl) rfl (am_X4_framesOfVoice hG h) (kkT (kkI fun v2 X1 h => ?_)) (kxT KrI.no fun E X1 h => ?_)
  · refine aw_widen (cc' := 2) (ss' := 12) (leb rfl) (leb rfl) ?_
    refine aw_i2l 9 dL_framesOfVoice_8 rfl ?_
    obtain ⟨g4, h⟩ := h
    obtain ⟨g5, h⟩ := h
    refine aw_lastore 10 dL_framesOfVoice_9 g4 g5 rfl ?_
    refine aw_goto 17 dL_framesOfVoice_10 rfl ?_
    refine aw_iconst 18 (v := 0) dL_framesOfVoice_17 kI_0 rfl ?_
    exact aw_ireturn (ty := .int) dL_framesOfVoice_18 rfl rfl (leb rfl) (leb rfl) ⟨_, rfl, h⟩
  · obtain ⟨hE, h⟩ := h
    rcases hE with rfl
    refine aw_atc (lv' := [(0, .ref _), (1, .int _), (2, .int _), (3, .ref _)]) [] (0, 10, 13, 13) [] rfl (fun z hz => nomatch hz) (by decide) (by decide) (tk3 (i := 61) (by decide +kernel) rfl) (by decide) 4 2 15 (Or.inr ⟨dL_framesOfVoice_13, rfl⟩) (ltb rfl) rfl ?_
    refine aw_widen (cc' := 2) (ss' := 12) (leb rfl) (leb rfl) ?_
    replace h := h rfl
    refine aw_iconst 16 (v := 1) dL_framesOfVoice_15 kI_1 rfl ?_
    exact aw_ireturn (ty := .int) dL_framesOfVoice_16 rfl rfl (leb rfl) (leb rfl) ⟨_, rfl, h⟩)
set_option maxRecDepth 20000 in
theorem am_X4_hasSnapshot {G : GG} (hG : G.1.stackTraces = false) {l0 : Nat} {l1 : Int32} {X : XH} {K : Int32 → XH → Prop} (h : w_X4_hasSnapshot l0 l1 X K) : AM G M_X4_hasSnapshot X [.ref l0, .int l1] (KrI K) := AM_of (by decide +kernel) rfl (leb rfl) hG (by
  show AW G M_X4_hasSnapshot 0 [(0, .ref l0), (1, .int l1)] [] X 0 0 _
  unfold w_X4_hasSnapshot at h
  refine aw_iload_n 1 dX4_hasSnapshot_0 rfl 1 rfl rfl ?_
  refine aw_if_lt 26 4 dX4_hasSnapshot_1 rfl rfl (fun c1 => ?_) (fun c1 => ?_)
  · replace h := h.1 c1
    refine aw_iconst 27 (v := 0) dX4_hasSnapshot_26 kI_0 rfl ?_
    exact aw_ireturn (ty := .boolean) dX4_hasSnapshot_27 rfl rfl (leb rfl) (leb rfl) ⟨_, rfl, h⟩
  · replace h := h.2 c1
    refine aw_iload_n 5 dX4_hasSnapshot_4 rfl 1 rfl rfl ?_
    refine aw_aload_n 6 dX4_hasSnapshot_5 rfl 0 rfl rfl ?_
    obtain ⟨g2, h⟩ := h
    obtain ⟨g3, h⟩ := h
    refine aw_getR 9 dX4_hasSnapshot_6 fl_RX4_27 rfl g2 g3 rfl ?_
    obtain ⟨g4, h⟩ := h
    refine aw_alen 10 dX4_hasSnapshot_9 g4 rfl ?_
    refine aw_icmp_ge 26 13 dX4_hasSnapshot_10 rfl rfl (fun c5 => ?_) (fun c5 => ?_)
    · replace h := h.1 c5
      refine aw_iconst 27 (v := 0) dX4_hasSnapshot_26 kI_0 rfl ?_
      exact aw_ireturn (ty := .boolean) dX4_hasSnapshot_27 rfl rfl (leb rfl) (leb rfl) ⟨_, rfl, h⟩
    · replace h := h.2 c5
      refine aw_aload_n 14 dX4_hasSnapshot_13 rfl 0 rfl rfl ?_
      refine aw_getR 17 dX4_hasSnapshot_14 fl_RX4_27 rfl g2 g3 rfl ?_
      refine aw_iload_n 18 dX4_hasSnapshot_17 rfl 1 rfl rfl ?_
      obtain ⟨g6, h⟩ := h
      obtain ⟨g7, h⟩ := h
      refine aw_baload 19 dX4_hasSnapshot_18 g6 g7 rfl ?_
      refine aw_if_eq 26 22 dX4_hasSnapshot_19 rfl rfl (fun c8 => ?_) (fun c8 => ?_)
      · replace h := h.1 c8
        refine aw_iconst 27 (v := 0) dX4_hasSnapshot_26 kI_0 rfl ?_
        exact aw_ireturn (ty := .boolean) dX4_hasSnapshot_27 rfl rfl (leb rfl) (leb rfl) ⟨_, rfl, h⟩
      · replace h := h.2 c8
        refine aw_iconst 23 (v := 1) dX4_hasSnapshot_22 kI_1 rfl ?_
        refine aw_goto 27 dX4_hasSnapshot_23 rfl ?_
        exact aw_ireturn (ty := .boolean) dX4_hasSnapshot_27 rfl rfl (leb rfl) (leb rfl) ⟨_, rfl, h⟩)
set_option maxRecDepth 20000 in
theorem am_X4_goBack {G : GG} (hG : G.1.stackTraces = false) {l0 : Nat} {l1 : Int32} {X : XH} {K : XH → Prop} {KX : String → XH → Prop} (h : w_X4_goBack l0 l1 X K KX) : AM G M_X4_goBack X [.ref l0, .int l1] (KxT (KrV K) KX) := AM_of (by decide +kernel) rfl (leb rfl) hG (by
  show AW G M_X4_goBack 0 [(0, .ref l0), (1, .int l1)] [] X 0 0 _
  unfold w_X4_goBack at h
  refine aw_iload_n 1 dX4_goBack_0 rfl 1 rfl rfl ?_
  refine aw_iconst 2 (v := 0) dX4_goBack_1 kI_0 rfl ?_
  refine aw_iconst 3 (v := 1) dX4_goBack_2 kI_1 rfl ?_
  refine aw_callS (M' := M_X4_checkRange) 6 52 [.int _, .int _, .int _] [] dX4_goBack_3 lk_RX4_52 ms_X4_checkRange mp_X4_checkRange rfl ⟨leb rfl, leb rfl⟩ rfl (leb rfl) (leb rfl) (leb rfl) rfl (am_X4_checkRange hG h) (kkT (kkV fun X1 h => ?_)) (kxT KrV.no fun E X h => at_out rfl (leb rfl) (leb rfl) (Or.inr ⟨_, rfl, h⟩))
  refine aw_widen (cc' := 1) (ss' := 6) (leb rfl) (leb rfl) ?_
  refine aw_aload_n 7 dX4_goBack_6 rfl 0 rfl rfl ?_
  refine aw_iload_n 8 dX4_goBack_7 rfl 1 rfl rfl ?_
  obtain ⟨g4, h⟩ := h
  refine aw_callV (M' := M_X4_hasSnapshot) 11 272 4 l0 [.int _] [] dX4_goBack_8 lk_RX4_272 mv_X4_hasSnapshot mp_X4_hasSnapshot rfl ⟨leb rfl, leb rfl⟩ rfl (ltb rfl) g4 rfl (leb rfl) (leb rfl) (leb rfl) rfl (am_X4_hasSnapshot hG h) (kkI fun v3 X2 h => ?_) (kxN KrI.no)
  refine aw_widen (cc' := 1) (ss' := 6) (leb rfl) (leb rfl) ?_
  refine aw_if_ne 25 14 dX4_goBack_11 rfl rfl (fun c5 => ?_) (fun c5 => ?_)
  · replace h := h.1 c5
    refine aw_aload_n 26 dX4_goBack_25 rfl 0 rfl rfl ?_
    obtain ⟨g6, h⟩ := h
    obtain ⟨g7, h⟩ := h
    refine aw_getR 29 dX4_goBack_26 fl_RX4_19 rfl g6 g7 rfl ?_
    refine aw_aload_n 30 dX4_goBack_29 rfl 0 rfl rfl ?_
    obtain ⟨g8, h⟩ := h
    refine aw_getR 33 dX4_goBack_30 fl_RX4_10 rfl g6 g8 rfl ?_
    obtain ⟨g10, h⟩ := h
    refine aw_callV (M' := M_X1_push) 36 67 1 (hR X2 l0 1) [.ref _] [] dX4_goBack_33 lk_RX4_67 mv_X1_push mp_X1_push rfl ⟨leb rfl, leb rfl⟩ rfl (ltb rfl) g10 rfl (leb rfl) (leb rfl) (leb rfl) rfl (am_X1_push hG h) (kkV fun X9 h => ?_) (kxN KrV.no)
    refine aw_widen (cc' := 1) (ss' := 6) (leb rfl) (leb rfl) ?_
    refine aw_aload_n 37 dX4_goBack_36 rfl 0 rfl rfl ?_
    obtain ⟨g11, h⟩ := h
    obtain ⟨g12, h⟩ := h
    refine aw_getR 40 dX4_goBack_37 fl_RX4_10 rfl g11 g12 rfl ?_
    refine aw_aload_n 41 dX4_goBack_40 rfl 0 rfl rfl ?_
    obtain ⟨g13, h⟩ := h
    refine aw_getR 44 dX4_goBack_41 fl_RX4_23 rfl g11 g13 rfl ?_
    refine aw_iload_n 45 dX4_goBack_44 rfl 1 rfl rfl ?_
    refine aw_callS (M' := M_X4_treatyAt) 48 265 [.ref _, .int _] [.ref _] dX4_goBack_45 lk_RX4_265 ms_X4_treatyAt mp_X4_treatyAt rfl ⟨leb rfl, leb rfl⟩ rfl (leb rfl) (leb rfl) (leb rfl) rfl (am_X4_treatyAt hG h) (kkR fun v15 X14 h => ?_) (kxN KrR.no)
    refine aw_widen (cc' := 1) (ss' := 6) (leb rfl) (leb rfl) ?_
    obtain ⟨g17, h⟩ := h
    refine aw_callV (M' := M_X3_becomeLike) 51 269 3 (hR X9 l0 0) [.ref _] [] dX4_goBack_48 lk_RX4_269 mv_X3_becomeLike mp_X3_becomeLike rfl ⟨leb rfl, leb rfl⟩ rfl (ltb rfl) g17 rfl (leb rfl) (leb rfl) (leb rfl) rfl (am_X3_becomeLike hG h) (kkV fun X16 h => ?_) (kxN KrV.no)
    refine aw_widen (cc' := 1) (ss' := 6) (leb rfl) (leb rfl) ?_
    exact aw_return dX4_goBack_51 rfl (leb rfl) (leb rfl) (Or.inl ⟨rfl, h⟩)
  · replace h := h.2 c5
    exact aw_throw xcS 60 275 64 rfl th_xcS (by decide) (Or.inr ⟨dX4_goBack_14, dX4_goBack_17, dX4_goBack_18, dX4_goBack_21, dX4_goBack_24⟩) rfl (ltb rfl) (leb rfl) (leb rfl) (leb rfl) (Or.inr ⟨_, rfl, h⟩))
set_option maxRecDepth 20000 in
theorem am_L_goBack {G : GG} (hG : G.1.stackTraces = false) {l0 : Nat} {l1 : Int32} {X : XH} {K : Int32 → XH → Prop} (h : w_L_goBack l0 l1 X K) : AM G M_L_goBack X [.ref l0, .int l1] (KrI K) := AM_ofH (by decide +kernel) (0, 5, 8, 15) [(0, 5, 11, 17)] rfl (leb rfl) hG (by
  show AW G M_L_goBack 0 [(0, .ref l0), (1, .int l1)] [] X 0 0 _
  unfold w_L_goBack at h
  refine aw_aload_n 1 dL_goBack_0 rfl 0 rfl rfl ?_
  refine aw_iload_n 2 dL_goBack_1 rfl 1 rfl rfl ?_
  obtain ⟨g2, h⟩ := h
  refine aw_callV (M' := M_X4_goBack) 5 68 4 l0 [.int _] [] dL_goBack_2 lk_RL_68 mv_X4_goBack mp_X4_goBack rfl ⟨leb rfl, leb rfl⟩ rfl (ltb rfl) g2 rfl (leb rfl) (leb rfl) (leb rfl) rfl (am_X4_goBack hG h) (kkT (kkV fun X1 h => ?_)) (kxT KrV.no fun E X1 h => ?_)
  · refine aw_widen (cc' := 2) (ss' := 12) (leb rfl) (leb rfl) ?_
    refine aw_goto 14 dL_goBack_5 rfl ?_
    refine aw_iconst 15 (v := 0) dL_goBack_14 kI_0 rfl ?_
    exact aw_ireturn (ty := .int) dL_goBack_15 rfl rfl (leb rfl) (leb rfl) ⟨_, rfl, h⟩
  · obtain ⟨hE, h⟩ := h
    rcases hE with rfl | rfl
    · refine aw_atc (lv' := [(0, .ref _), (1, .int _)]) [] (0, 5, 8, 15) [(0, 5, 11, 17)] rfl (fun z hz => nomatch hz) (by decide) (by decide) (tk3 (i := 62) (by decide +kernel) rfl) (by decide) 2 1 9 (Or.inl ⟨2, rfl, dL_goBack_8, rfl⟩) (ltb rfl) rfl ?_
      refine aw_widen (cc' := 2) (ss' := 12) (leb rfl) (leb rfl) ?_
      replace h := h.1 rfl
      refine aw_iconst 10 (v := 1) dL_goBack_9 kI_1 rfl ?_
      exact aw_ireturn (ty := .int) dL_goBack_10 rfl rfl (leb rfl) (leb rfl) ⟨_, rfl, h⟩
    · refine aw_atc (lv' := [(0, .ref _), (1, .int _)]) [(0, 5, 8, 15)] (0, 5, 11, 17) [] rfl (by intro z hz; simp only [List.mem_cons, List.not_mem_nil, or_false] at hz; rcases hz with rfl <;> first | exact ⟨by decide, xcA, tk3 (i := 62) (by decide +kernel) rfl, by decide⟩) (by decide) (by decide) (tk3 (i := 63) (by decide +kernel) rfl) (by decide) 2 1 12 (Or.inl ⟨2, rfl, dL_goBack_11, rfl⟩) (ltb rfl) rfl ?_
      refine aw_widen (cc' := 2) (ss' := 12) (leb rfl) (leb rfl) ?_
      replace h := h.2 rfl
      refine aw_iconst 13 (v := 2) dL_goBack_12 kI_2 rfl ?_
      exact aw_ireturn (ty := .int) dL_goBack_13 rfl rfl (leb rfl) (leb rfl) ⟨_, rfl, h⟩)
set_option maxRecDepth 20000 in
theorem am_X3_hasSignature {G : GG} (hG : G.1.stackTraces = false) {l0 : Nat} {l1 : Int32} {l2 : Int32} {l3 : Int32} {X : XH} {K : Int32 → XH → Prop} (h : w_X3_hasSignature l0 l1 l2 l3 X K) : AM G M_X3_hasSignature X [.ref l0, .int l1, .int l2, .int l3] (KrI K) := AM_of (by decide +kernel) rfl (leb rfl) hG (by
  show AW G M_X3_hasSignature 0 [(0, .ref l0), (1, .int l1), (2, .int l2), (3, .int l3)] [] X 0 0 _
  unfold w_X3_hasSignature at h
  refine aw_aload_n 1 dX3_hasSignature_0 rfl 0 rfl rfl ?_
  obtain ⟨g1, h⟩ := h
  obtain ⟨g2, h⟩ := h
  refine aw_getR 4 dX3_hasSignature_1 fl_RX3_42 rfl g1 g2 rfl ?_
  refine aw_iload_n 5 dX3_hasSignature_4 rfl 2 rfl rfl ?_
  refine aw_iload_n 6 dX3_hasSignature_5 rfl 3 rfl rfl ?_
  refine aw_callS (M' := M_X3_place) 9 73 [.int _, .int _] [.ref _] dX3_hasSignature_6 lk_RX3_73 ms_X3_place mp_X3_place rfl ⟨leb rfl, leb rfl⟩ rfl (leb rfl) (leb rfl) (leb rfl) rfl (am_X3_place hG h) (kkI fun v4 X3 h => ?_) (kxN KrI.no)
  refine aw_widen (cc' := 0) (ss' := 0) (leb rfl) (leb rfl) ?_
  refine aw_callSN (M' := M_X4_at) 12 81 [.ref _, .int _] [] dX3_hasSignature_9 (by decide) ms_X4_at mp_X4_at rfl ⟨leb rfl, leb rfl⟩ rfl (leb rfl) (leb rfl) (leb rfl) rfl (am_X4_at hG h) (kkI fun v6 X5 h => ?_) KrI.no
  refine aw_widen (cc' := 0) (ss' := 0) (leb rfl) (leb rfl) ?_
  refine aw_iload_n 13 dX3_hasSignature_12 rfl 1 rfl rfl ?_
  refine aw_ishr 14 dX3_hasSignature_13 rfl ?_
  refine aw_iconst 15 (v := 1) dX3_hasSignature_14 kI_1 rfl ?_
  refine aw_iand 16 dX3_hasSignature_15 rfl ?_
  refine aw_iconst 17 (v := 1) dX3_hasSignature_16 kI_1 rfl ?_
  refine aw_icmp_ne 24 20 dX3_hasSignature_17 rfl rfl (fun c7 => ?_) (fun c7 => ?_)
  · replace h := h.1 c7
    refine aw_iconst 25 (v := 0) dX3_hasSignature_24 kI_0 rfl ?_
    exact aw_ireturn (ty := .boolean) dX3_hasSignature_25 rfl rfl (leb rfl) (leb rfl) ⟨_, rfl, h⟩
  · replace h := h.2 c7
    refine aw_iconst 21 (v := 1) dX3_hasSignature_20 kI_1 rfl ?_
    refine aw_goto 25 dX3_hasSignature_21 rfl ?_
    exact aw_ireturn (ty := .boolean) dX3_hasSignature_25 rfl rfl (leb rfl) (leb rfl) ⟨_, rfl, h⟩)
set_option maxRecDepth 20000 in
theorem am_X4_hasSigned {G : GG} (hG : G.1.stackTraces = false) {l0 : Nat} {l1 : Int32} {l2 : Int32} {l3 : Int32} {X : XH} {K : Int32 → XH → Prop} {KX : String → XH → Prop} (h : w_X4_hasSigned l0 l1 l2 l3 X K KX) : AM G M_X4_hasSigned X [.ref l0, .int l1, .int l2, .int l3] (KxT (KrI K) KX) := AM_of (by decide +kernel) rfl (leb rfl) hG (by
  show AW G M_X4_hasSigned 0 [(0, .ref l0), (1, .int l1), (2, .int l2), (3, .int l3)] [] X 0 0 _
  unfold w_X4_hasSigned at h
  refine aw_iload_n 1 dX4_hasSigned_0 rfl 1 rfl rfl ?_
  refine aw_callS (M' := M_X4_checkState) 4 49 [.int _] [] dX4_hasSigned_1 lk_RX4_49 ms_X4_checkState mp_X4_checkState rfl ⟨leb rfl, leb rfl⟩ rfl (leb rfl) (leb rfl) (leb rfl) rfl (am_X4_checkState hG h) (kkT (kkV fun X1 h => ?_)) (kxT KrV.no fun E X h => at_out rfl (leb rfl) (leb rfl) (Or.inr ⟨_, rfl, h⟩))
  refine aw_widen (cc' := 1) (ss' := 6) (leb rfl) (leb rfl) ?_
  refine aw_iload_n 5 dX4_hasSigned_4 rfl 2 rfl rfl ?_
  refine aw_callS (M' := M_X4_checkReel) 8 45 [.int _] [] dX4_hasSigned_5 lk_RX4_45 ms_X4_checkReel mp_X4_checkReel rfl ⟨leb rfl, leb rfl⟩ rfl (leb rfl) (leb rfl) (leb rfl) rfl (am_X4_checkReel hG h) (kkT (kkV fun X2 h => ?_)) (kxT KrV.no fun E X h => at_out rfl (leb rfl) (leb rfl) (Or.inr ⟨_, rfl, h⟩))
  refine aw_widen (cc' := 2) (ss' := 12) (leb rfl) (leb rfl) ?_
  refine aw_iload_n 9 dX4_hasSigned_8 rfl 3 rfl rfl ?_
  refine aw_callS (M' := M_X4_checkTongue) 12 195 [.int _] [] dX4_hasSigned_9 lk_RX4_195 ms_X4_checkTongue mp_X4_checkTongue rfl ⟨leb rfl, leb rfl⟩ rfl (leb rfl) (leb rfl) (leb rfl) rfl (am_X4_checkTongue hG h) (kkT (kkV fun X3 h => ?_)) (kxT KrV.no fun E X h => at_out rfl (leb rfl) (leb rfl) (Or.inr ⟨_, rfl, h⟩))
  refine aw_widen (cc' := 3) (ss' := 18) (leb rfl) (leb rfl) ?_
  refine aw_aload_n 13 dX4_hasSigned_12 rfl 0 rfl rfl ?_
  obtain ⟨g4, h⟩ := h
  obtain ⟨g5, h⟩ := h
  refine aw_getR 16 dX4_hasSigned_13 fl_RX4_10 rfl g4 g5 rfl ?_
  refine aw_iload_n 17 dX4_hasSigned_16 rfl 1 rfl rfl ?_
  refine aw_iload_n 18 dX4_hasSigned_17 rfl 2 rfl rfl ?_
  refine aw_iload_n 19 dX4_hasSigned_18 rfl 3 rfl rfl ?_
  obtain ⟨g8, h⟩ := h
  refine aw_callV (M' := M_X3_hasSignature) 22 215 3 (hR X3 l0 0) [.int _, .int _, .int _] [] dX4_hasSigned_19 lk_RX4_215 mv_X3_hasSignature mp_X3_hasSignature rfl ⟨leb rfl, leb rfl⟩ rfl (ltb rfl) g8 rfl (leb rfl) (leb rfl) (leb rfl) rfl (am_X3_hasSignature hG h) (kkI fun v7 X6 h => ?_) (kxN KrI.no)
  refine aw_widen (cc' := 3) (ss' := 18) (leb rfl) (leb rfl) ?_
  obtain ⟨g9, h⟩ := h
  exact aw_ireturn (ty := .boolean) dX4_hasSigned_22 rfl (narZ g9) (leb rfl) (leb rfl) (Or.inl ⟨_, rfl, h⟩))
set_option maxRecDepth 20000 in
theorem am_L_hasSigned {G : GG} (hG : G.1.stackTraces = false) {l0 : Nat} {l1 : Int32} {l2 : Int32} {l3 : Int32} {l4 : Nat} {X : XH} {K : Int32 → XH → Prop} (h : w_L_hasSigned l0 l1 l2 l3 l4 X K) : AM G M_L_hasSigned X [.ref l0, .int l1, .int l2, .int l3, .ref l4] (KrI K) := AM_ofH (by decide +kernel) (0, 19, 22, 13) [] rfl (leb rfl) hG (by
  show AW G M_L_hasSigned 0 [(0, .ref l0), (1, .int l1), (2, .int l2), (3, .int l3), (4, .ref l4)] [] X 0 0 _
  unfold w_L_hasSigned at h
  refine aw_aload 2 dL_hasSigned_0 4 rfl rfl ?_
  refine aw_iconst 3 (v := 0) dL_hasSigned_2 kI_0 rfl ?_
  refine aw_aload_n 4 dL_hasSigned_3 rfl 0 rfl rfl ?_
  refine aw_iload_n 5 dL_hasSigned_4 rfl 1 rfl rfl ?_
  refine aw_iload_n 6 dL_hasSigned_5 rfl 2 rfl rfl ?_
  refine aw_iload_n 7 dL_hasSigned_6 rfl 3 rfl rfl ?_
  obtain ⟨g3, h⟩ := h
  refine aw_callV (M' := M_X4_hasSigned) 10 144 4 l0 [.int _, .int _, .int _] [.int _, .ref _] dL_hasSigned_7 lk_RL_144 mv_X4_hasSigned mp_X4_hasSigned rfl ⟨leb rfl, leb rfl⟩ rfl (ltb rfl) g3 rfl (leb rfl) (leb rfl) (leb rfl) rfl (am_X4_hasSigned hG h) (kkT (kkI fun v2 X1 h => ?_)) (kxT KrI.no fun E X1 h => ?_)
  · refine aw_widen (cc' := 3) (ss' := 18) (leb rfl) (leb rfl) ?_
    refine aw_if_eq 17 13 dL_hasSigned_10 rfl rfl (fun c4 => ?_) (fun c4 => ?_)
    · replace h := h.1 c4
      refine aw_lconst 18 (v := 0) dL_hasSigned_17 kL_0 rfl ?_
      obtain ⟨g5, h⟩ := h
      obtain ⟨g6, h⟩ := h
      refine aw_lastore 19 dL_hasSigned_18 g5 g6 rfl ?_
      refine aw_goto 26 dL_hasSigned_19 rfl ?_
      refine aw_iconst 27 (v := 0) dL_hasSigned_26 kI_0 rfl ?_
      exact aw_ireturn (ty := .int) dL_hasSigned_27 rfl rfl (leb rfl) (leb rfl) ⟨_, rfl, h⟩
    · replace h := h.2 c4
      refine aw_lconst 14 (v := 1) dL_hasSigned_13 kL_1 rfl ?_
      refine aw_goto 18 dL_hasSigned_14 rfl ?_
      obtain ⟨g7, h⟩ := h
      obtain ⟨g8, h⟩ := h
      refine aw_lastore 19 dL_hasSigned_18 g7 g8 rfl ?_
      refine aw_goto 26 dL_hasSigned_19 rfl ?_
      refine aw_iconst 27 (v := 0) dL_hasSigned_26 kI_0 rfl ?_
      exact aw_ireturn (ty := .int) dL_hasSigned_27 rfl rfl (leb rfl) (leb rfl) ⟨_, rfl, h⟩
  · obtain ⟨hE, h⟩ := h
    rcases hE with rfl
    refine aw_atc (lv' := [(0, .ref _), (1, .int _), (2, .int _), (3, .int _), (4, .ref _)]) [] (0, 19, 22, 13) [] rfl (fun z hz => nomatch hz) (by decide) (by decide) (tk3 (i := 61) (by decide +kernel) rfl) (by decide) 5 2 24 (Or.inr ⟨dL_hasSigned_22, rfl⟩) (ltb rfl) rfl ?_
    refine aw_widen (cc' := 3) (ss' := 18) (leb rfl) (leb rfl) ?_
    replace h := h rfl
    refine aw_iconst 25 (v := 1) dL_hasSigned_24 kI_1 rfl ?_
    exact aw_ireturn (ty := .int) dL_hasSigned_25 rfl rfl (leb rfl) (leb rfl) ⟨_, rfl, h⟩)
set_option maxRecDepth 20000 in
theorem am_X3_hundredthsAt {G : GG} (hG : G.1.stackTraces = false) {l0 : Nat} {l1 : Int32} {l2 : Int32} {X : XH} {K : Int32 → XH → Prop} (h : w_X3_hundredthsAt l0 l1 l2 X K) : AM G M_X3_hundredthsAt X [.ref l0, .int l1, .int l2] (KrI K) := AM_of (by decide +kernel) rfl (leb rfl) hG (by
  show AW G M_X3_hundredthsAt 0 [(0, .ref l0), (1, .int l1), (2, .int l2)] [] X 0 0 _
  unfold w_X3_hundredthsAt at h
  refine aw_aload_n 1 dX3_hundredthsAt_0 rfl 0 rfl rfl ?_
  refine aw_iload_n 2 dX3_hundredthsAt_1 rfl 1 rfl rfl ?_
  obtain ⟨g3, h⟩ := h
  refine aw_callV (M' := M_X3_lipsAt) 5 102 3 l0 [.int _] [] dX3_hundredthsAt_2 lk_RX3_102 mv_X3_lipsAt mp_X3_lipsAt rfl ⟨leb rfl, leb rfl⟩ rfl (ltb rfl) g3 rfl (leb rfl) (leb rfl) (leb rfl) rfl (am_X3_lipsAt hG h) (kkI fun v2 X1 h => ?_) (kxN KrI.no)
  refine aw_widen (cc' := 0) (ss' := 0) (leb rfl) (leb rfl) ?_
  refine aw_istore_n 6 (lv' := [(3, _), (0, _), (1, _), (2, _)]) dX3_hundredthsAt_5 rfl (ltb rfl) rfl rfl ?_
  refine aw_iload_n 7 dX3_hundredthsAt_6 rfl 0 rfl rfl ?_
  refine aw_if_le 24 10 dX3_hundredthsAt_7 rfl rfl (fun c4 => ?_) (fun c4 => ?_)
  · replace h := h.1 c4
    refine aw_iconst 25 (v := 0) dX3_hundredthsAt_24 kI_0 rfl ?_
    exact aw_ireturn (ty := .int) dX3_hundredthsAt_25 rfl rfl (leb rfl) (leb rfl) ⟨_, rfl, h⟩
  · replace h := h.2 c4
    refine aw_aload_n 11 dX3_hundredthsAt_10 rfl 1 rfl rfl ?_
    refine aw_iload_n 12 dX3_hundredthsAt_11 rfl 2 rfl rfl ?_
    refine aw_iload_n 13 dX3_hundredthsAt_12 rfl 3 rfl rfl ?_
    obtain ⟨g7, h⟩ := h
    refine aw_callV (M' := M_X3_spokenAt) 16 85 3 l0 [.int _, .int _] [] dX3_hundredthsAt_13 lk_RX3_85 mv_X3_spokenAt mp_X3_spokenAt rfl ⟨leb rfl, leb rfl⟩ rfl (ltb rfl) g7 rfl (leb rfl) (leb rfl) (leb rfl) rfl (am_X3_spokenAt hG h) (kkI fun v6 X5 h => ?_) (kxN KrI.no)
    refine aw_widen (cc' := 0) (ss' := 0) (leb rfl) (leb rfl) ?_
    refine aw_bipush 18 (v := 100) dX3_hundredthsAt_16 kB_100 rfl ?_
    refine aw_imul 19 dX3_hundredthsAt_18 rfl ?_
    refine aw_iload_n 20 dX3_hundredthsAt_19 rfl 0 rfl rfl ?_
    obtain ⟨g8, h⟩ := h
    refine aw_idiv 21 dX3_hundredthsAt_20 g8 rfl ?_
    refine aw_goto 25 dX3_hundredthsAt_21 rfl ?_
    exact aw_ireturn (ty := .int) dX3_hundredthsAt_25 rfl rfl (leb rfl) (leb rfl) ⟨_, rfl, h⟩)
set_option maxRecDepth 20000 in
theorem am_X4_hundredthsOf {G : GG} (hG : G.1.stackTraces = false) {l0 : Nat} {l1 : Int32} {l2 : Int32} {X : XH} {K : Int32 → XH → Prop} {KX : String → XH → Prop} (h : w_X4_hundredthsOf l0 l1 l2 X K KX) : AM G M_X4_hundredthsOf X [.ref l0, .int l1, .int l2] (KxT (KrI K) KX) := AM_of (by decide +kernel) rfl (leb rfl) hG (by
  show AW G M_X4_hundredthsOf 0 [(0, .ref l0), (1, .int l1), (2, .int l2)] [] X 0 0 _
  unfold w_X4_hundredthsOf at h
  refine aw_aload_n 1 dX4_hundredthsOf_0 rfl 0 rfl rfl ?_
  refine aw_iload_n 2 dX4_hundredthsOf_1 rfl 1 rfl rfl ?_
  refine aw_iload_n 3 dX4_hundredthsOf_2 rfl 2 rfl rfl ?_
  obtain ⟨g2, h⟩ := h
  refine aw_callV (M' := M_X4_checkTranslation) 6 115 4 l0 [.int _, .int _] [] dX4_hundredthsOf_3 lk_RX4_115 mv_X4_checkTranslation mp_X4_checkTranslation rfl ⟨leb rfl, leb rfl⟩ rfl (ltb rfl) g2 rfl (leb rfl) (leb rfl) (leb rfl) rfl (am_X4_checkTranslation hG h) (kkT (kkV fun X1 h => ?_)) (kxT KrV.no fun E X h => at_out rfl (leb rfl) (leb rfl) (Or.inr ⟨_, rfl, h⟩))
  refine aw_widen (cc' := 2) (ss' := 12) (leb rfl) (leb rfl) ?_
  refine aw_aload_n 7 dX4_hundredthsOf_6 rfl 0 rfl rfl ?_
  refine aw_iload_n 8 dX4_hundredthsOf_7 rfl 1 rfl rfl ?_
  refine aw_iload_n 9 dX4_hundredthsOf_8 rfl 2 rfl rfl ?_
  obtain ⟨g4, h⟩ := h
  refine aw_callV (M' := M_X4_checkTranslated) 12 286 4 l0 [.int _, .int _] [] dX4_hundredthsOf_9 lk_RX4_286 mv_X4_checkTranslated mp_X4_checkTranslated rfl ⟨leb rfl, leb rfl⟩ rfl (ltb rfl) g4 rfl (leb rfl) (leb rfl) (leb rfl) rfl (am_X4_checkTranslated hG h) (kkT (kkV fun X3 h => ?_)) (kxT KrV.no fun E X h => at_out rfl (leb rfl) (leb rfl) (Or.inr ⟨_, rfl, h⟩))
  refine aw_widen (cc' := 3) (ss' := 18) (leb rfl) (leb rfl) ?_
  refine aw_aload_n 13 dX4_hundredthsOf_12 rfl 0 rfl rfl ?_
  obtain ⟨g5, h⟩ := h
  obtain ⟨g6, h⟩ := h
  refine aw_getR 16 dX4_hundredthsOf_13 fl_RX4_10 rfl g5 g6 rfl ?_
  refine aw_iload_n 17 dX4_hundredthsOf_16 rfl 1 rfl rfl ?_
  refine aw_iload_n 18 dX4_hundredthsOf_17 rfl 2 rfl rfl ?_
  obtain ⟨g9, h⟩ := h
  refine aw_callV (M' := M_X3_hundredthsAt) 21 292 3 (hR X3 l0 0) [.int _, .int _] [] dX4_hundredthsOf_18 lk_RX4_292 mv_X3_hundredthsAt mp_X3_hundredthsAt rfl ⟨leb rfl, leb rfl⟩ rfl (ltb rfl) g9 rfl (leb rfl) (leb rfl) (leb rfl) rfl (am_X3_hundredthsAt hG h) (kkI fun v8 X7 h => ?_) (kxN KrI.no)
  refine aw_widen (cc' := 3) (ss' := 18) (leb rfl) (leb rfl) ?_
  exact aw_ireturn (ty := .int) dX4_hundredthsOf_21 rfl rfl (leb rfl) (leb rfl) (Or.inl ⟨_, rfl, h⟩))
set_option maxRecDepth 20000 in
theorem am_L_hundredthsOf {G : GG} (hG : G.1.stackTraces = false) {l0 : Nat} {l1 : Int32} {l2 : Int32} {l3 : Nat} {X : XH} {K : Int32 → XH → Prop} (h : w_L_hundredthsOf l0 l1 l2 l3 X K) : AM G M_L_hundredthsOf X [.ref l0, .int l1, .int l2, .ref l3] (KrI K) := AM_ofH (by decide +kernel) (0, 10, 13, 13) [(0, 10, 17, 17)] rfl (leb rfl) hG (by
  show AW G M_L_hundredthsOf 0 [(0, .ref l0), (1, .int l1), (2, .int l2), (3, .ref l3)] [] X 0 0 _
  unfold w_L_hundredthsOf at h
  refine aw_aload_n 1 dL_hundredthsOf_0 rfl 3 rfl rfl ?_
  refine aw_iconst 2 (v := 0) dL_hundredthsOf_1 kI_0 rfl ?_
  refine aw_aload_n 3 dL_hundredthsOf_2 rfl 0 rfl rfl ?_
  refine aw_iload_n 4 dL_hundredthsOf_3 rfl 1 rfl rfl ?_
  refine aw_iload_n 5 dL_hundredthsOf_4 rfl 2 rfl rfl ?_
  obtain ⟨g3, h⟩ := h
  refine aw_callV (M' := M_X4_hundredthsOf) 8 108 4 l0 [.int _, .int _] [.int _, .ref _] dL_hundredthsOf_5 lk_RL_108 mv_X4_hundredthsOf mp_X4_hundredthsOf rfl ⟨leb rfl, leb rfl⟩ rfl (ltb rfl) g3 rfl (leb rfl) (leb rfl) (leb rfl) rfl (am_X4_hundredthsOf hG h) (kkT (kkI fun v2 X1 h => ?_)) (kxT KrI.no fun E X1 h => ?_)
  · refine aw_widen (cc' := 3) (ss' := 18) (leb rfl) (leb rfl) ?_
    refine aw_i2l 9 dL_hundredthsOf_8 rfl ?_
    obtain ⟨g4, h⟩ := h
    obtain ⟨g5, h⟩ := h
    refine aw_lastore 10 dL_hundredthsOf_9 g4 g5 rfl ?_
    refine aw_goto 21 dL_hundredthsOf_10 rfl ?_
    refine aw_iconst 22 (v := 0) dL_hundredthsOf_21 kI_0 rfl ?_
    exact aw_ireturn (ty := .int) dL_hundredthsOf_22 rfl rfl (leb rfl) (leb rfl) ⟨_, rfl, h⟩
  · obtain ⟨hE, h⟩ := h
    rcases hE with rfl | rfl
    · refine aw_atc (lv' := [(0, .ref _), (1, .int _), (2, .int _), (3, .ref _)]) [] (0, 10, 13, 13) [(0, 10, 17, 17)] rfl (fun z hz => nomatch hz) (by decide) (by decide) (tk3 (i := 61) (by decide +kernel) rfl) (by decide) 4 2 15 (Or.inr ⟨dL_hundredthsOf_13, rfl⟩) (ltb rfl) rfl ?_
      refine aw_widen (cc' := 3) (ss' := 18) (leb rfl) (leb rfl) ?_
      replace h := h.1 rfl
      refine aw_iconst 16 (v := 1) dL_hundredthsOf_15 kI_1 rfl ?_
      exact aw_ireturn (ty := .int) dL_hundredthsOf_16 rfl rfl (leb rfl) (leb rfl) ⟨_, rfl, h⟩
    · refine aw_atc (lv' := [(0, .ref _), (1, .int _), (2, .int _), (3, .ref _)]) [(0, 10, 13, 13)] (0, 10, 17, 17) [] rfl (by intro z hz; simp only [List.mem_cons, List.not_mem_nil, or_false] at hz; rcases hz with rfl <;> first | exact ⟨by decide, xcI, tk3 (i := 61) (by decide +kernel) rfl, by decide⟩) (by decide) (by decide) (tk3 (i := 63) (by decide +kernel) rfl) (by decide) 4 2 19 (Or.inr ⟨dL_hundredthsOf_17, rfl⟩) (ltb rfl) rfl ?_
      refine aw_widen (cc' := 3) (ss' := 18) (leb rfl) (leb rfl) ?_
      replace h := h.2 rfl
      refine aw_iconst 20 (v := 2) dL_hundredthsOf_19 kI_2 rfl ?_
      exact aw_ireturn (ty := .int) dL_hundredthsOf_20 rfl rfl (leb rfl) (leb rfl) ⟨_, rfl, h⟩)
set_option maxRecDepth 20000 in
theorem aw_X3_isWholeReel_2 {G : GG} (hG : G.1.stackTraces = false)  {l0 : Nat} {l1 : Int32} {l2 : Int32} {l3 : Int32} {X : XH} {K : Int32 → XH → Prop}  (h : w_X3_isWholeReel_2  l0 l1 l2 l3 X K) : AW G M_X3_isWholeReel 2 [(0, .ref l0), (1, .int l1), (2, .int l2), (3, .int l3)] [] X 0 0 (KrI K) :=
  h (fun l0 l1 l2 l3 X => AW G M_X3_isWholeReel 2 [(0, .ref l0), (1, .int l1), (2, .int l2), (3, .int l3)] [] X 0 0 (KrI K)) (fun l0 l1 l2 l3 X h => by
    refine aw_iload_n 3 dX3_isWholeReel_2 rfl 3 rfl rfl ?_
    refine aw_aload_n 4 dX3_isWholeReel_3 rfl 0 rfl rfl ?_
    obtain ⟨g1, h⟩ := h
    refine aw_getI 7 dX3_isWholeReel_4 fl_RX3_45 rfl g1 rfl ?_
    refine aw_icmp_ge 36 10 dX3_isWholeReel_7 rfl rfl (fun c2 => ?_) (fun c2 => ?_)
    · replace h := h.1 c2
      refine aw_aload_n 37 dX3_isWholeReel_36 rfl 0 rfl rfl ?_
      refine aw_iload_n 38 dX3_isWholeReel_37 rfl 1 rfl rfl ?_
      refine aw_callV (M' := M_X3_clausesOn) 41 148 3 l0 [.int _] [] dX3_isWholeReel_38 lk_RX3_148 mv_X3_clausesOn mp_X3_clausesOn rfl ⟨leb rfl, leb rfl⟩ rfl (ltb rfl) g1 rfl (leb rfl) (leb rfl) (leb rfl) rfl (am_X3_clausesOn hG h) (kkI fun v4 X3 h => ?_) (kxN KrI.no)
      refine aw_widen (cc' := 0) (ss' := 0) (leb rfl) (leb rfl) ?_
      refine aw_if_le 48 44 dX3_isWholeReel_41 rfl rfl (fun c5 => ?_) (fun c5 => ?_)
      · replace h := h.1 c5
        refine aw_iconst 49 (v := 0) dX3_isWholeReel_48 kI_0 rfl ?_
        exact aw_ireturn (ty := .boolean) dX3_isWholeReel_49 rfl rfl (leb rfl) (leb rfl) ⟨_, rfl, h⟩
      · replace h := h.2 c5
        refine aw_iconst 45 (v := 1) dX3_isWholeReel_44 kI_1 rfl ?_
        refine aw_goto 49 dX3_isWholeReel_45 rfl ?_
        exact aw_ireturn (ty := .boolean) dX3_isWholeReel_49 rfl rfl (leb rfl) (leb rfl) ⟨_, rfl, h⟩
    · replace h := h.2 c2
      refine aw_aload_n 11 dX3_isWholeReel_10 rfl 0 rfl rfl ?_
      refine aw_iload_n 12 dX3_isWholeReel_11 rfl 3 rfl rfl ?_
      refine aw_callV (M' := M_X3_reelAt) 15 88 3 l0 [.int _] [] dX3_isWholeReel_12 lk_RX3_88 mv_X3_reelAt mp_X3_reelAt rfl ⟨leb rfl, leb rfl⟩ rfl (ltb rfl) g1 rfl (leb rfl) (leb rfl) (leb rfl) rfl (am_X3_reelAt hG h) (kkI fun v7 X6 h => ?_) (kxN KrI.no)
      refine aw_widen (cc' := 0) (ss' := 0) (leb rfl) (leb rfl) ?_
      refine aw_iload_n 16 dX3_isWholeReel_15 rfl 1 rfl rfl ?_
      refine aw_icmp_ne 30 19 dX3_isWholeReel_16 rfl rfl (fun c8 => ?_) (fun c8 => ?_)
      · replace h := h.1 c8
        refine aw_iinc 33 (v := 1) (lv' := [(3, _), (0, _), (1, _), (2, _)]) dX3_isWholeReel_30 3 rfl kI_1 (ltb rfl) rfl rfl ?_
        refine aw_goto 2 dX3_isWholeReel_33 rfl ?_
        exact aw_pick [1, 2, 3, 0] rfl h
      · replace h := h.2 c8
        refine aw_aload_n 20 dX3_isWholeReel_19 rfl 0 rfl rfl ?_
        refine aw_iload_n 21 dX3_isWholeReel_20 rfl 3 rfl rfl ?_
        refine aw_iload_n 22 dX3_isWholeReel_21 rfl 2 rfl rfl ?_
        obtain ⟨g11, h⟩ := h
        refine aw_callV (M' := M_X3_isTaken) 25 98 3 l0 [.int _, .int _] [] dX3_isWholeReel_22 lk_RX3_98 mv_X3_isTaken mp_X3_isTaken rfl ⟨leb rfl, leb rfl⟩ rfl (ltb rfl) g11 rfl (leb rfl) (leb rfl) (leb rfl) rfl (am_X3_isTaken hG h) (kkI fun v10 X9 h => ?_) (kxN KrI.no)
        refine aw_widen (cc' := 0) (ss' := 0) (leb rfl) (leb rfl) ?_
        refine aw_if_ne 30 28 dX3_isWholeReel_25 rfl rfl (fun c12 => ?_) (fun c12 => ?_)
        · replace h := h.1 c12
          refine aw_iinc 33 (v := 1) (lv' := [(3, _), (0, _), (1, _), (2, _)]) dX3_isWholeReel_30 3 rfl kI_1 (ltb rfl) rfl rfl ?_
          refine aw_goto 2 dX3_isWholeReel_33 rfl ?_
          exact aw_pick [1, 2, 3, 0] rfl h
        · replace h := h.2 c12
          refine aw_iconst 29 (v := 0) dX3_isWholeReel_28 kI_0 rfl ?_
          exact aw_ireturn (ty := .boolean) dX3_isWholeReel_29 rfl rfl (leb rfl) (leb rfl) ⟨_, rfl, h⟩)
set_option maxRecDepth 20000 in
theorem am_X3_isWholeReel {G : GG} (hG : G.1.stackTraces = false) {l0 : Nat} {l1 : Int32} {l2 : Int32} {X : XH} {K : Int32 → XH → Prop} (h : w_X3_isWholeReel l0 l1 l2 X K) : AM G M_X3_isWholeReel X [.ref l0, .int l1, .int l2] (KrI K) := AM_of (by decide +kernel) rfl (leb rfl) hG (by
  show AW G M_X3_isWholeReel 0 [(0, .ref l0), (1, .int l1), (2, .int l2)] [] X 0 0 _
  unfold w_X3_isWholeReel at h
  refine aw_iconst 1 (v := 0) dX3_isWholeReel_0 kI_0 rfl ?_
  refine aw_istore_n 2 (lv' := [(3, _), (0, _), (1, _), (2, _)]) dX3_isWholeReel_1 rfl (ltb rfl) rfl rfl ?_
  exact aw_pick [1, 2, 3, 0] rfl (aw_X3_isWholeReel_2 hG  h))
end XWK1
