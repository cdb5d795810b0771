/-! the walks of methods, as predicates -/
section XWK1
set_option maxRecDepth 20000 in
theorem am_L_translate {G : GG} (hG : G.1.stackTraces = false) {l0 : Nat} {l1 : Int32} {l2 : Int32} {l3 : Int32} {X : XH} {K : Int32 → XH → Prop} (h : w_L_translate l0 l1 l2 l3 X K) : AM G M_L_translate X [.ref l0, .int l1, .int l2, .int l3] (KrI K) := AM_ofH (by decide +kernel) (0, 7, 8, 15) [(0, 7, 14, 17), (0, 7, 20, 19)] rfl (leb rfl) hG (by
  show AW G M_L_translate 0 [(0, .ref l0), (1, .int l1), (2, .int l2), (3, .int l3)] [] X 0 0 _
  unfold w_L_translate at h
  refine aw_aload_n 1 dL_translate_0 rfl 0 rfl rfl ?_
  refine aw_iload_n 2 dL_translate_1 rfl 1 rfl rfl ?_
  refine aw_iload_n 3 dL_translate_2 rfl 2 rfl rfl ?_
  refine aw_iload_n 4 dL_translate_3 rfl 3 rfl rfl ?_
  obtain ⟨g3, h⟩ := h
  refine aw_callV (M' := M_X4_translate) 7 31 4 l0 [.int _, .int _, .int _] [] dL_translate_4 lk_RL_31 mv_X4_translate mp_X4_translate rfl ⟨leb rfl, leb rfl⟩ rfl (ltb rfl) g3 rfl (leb rfl) (leb rfl) (leb rfl) rfl (am_X4_translate hG h) (kkT (kkI fun v2 X1 h => ?_)) (kxT KrI.no fun E X1 h => ?_)
  · refine aw_widen (cc' := 4) (ss' := 24) (leb rfl) (leb rfl) ?_
    exact aw_ireturn (ty := .int) dL_translate_7 rfl rfl (leb rfl) (leb rfl) ⟨_, rfl, h⟩
  · obtain ⟨hE, h⟩ := h
    rcases hE with rfl | rfl | rfl
    · refine aw_atc (lv' := [(0, .ref _), (1, .int _), (2, .int _), (3, .int _)]) [] (0, 7, 8, 15) [(0, 7, 14, 17), (0, 7, 20, 19)] rfl (fun z hz => nomatch hz) (by decide) (by decide) (tk3 (i := 40) (by decide +kernel) rfl) (by decide) 4 2 10 (Or.inr ⟨dL_translate_8, rfl⟩) (ltb rfl) rfl ?_
      refine aw_widen (cc' := 4) (ss' := 24) (leb rfl) (leb rfl) ?_
      replace h := h.1 rfl
      refine aw_sipush 13 (v := -902) dL_translate_10 kS_m902 rfl ?_
      exact aw_ireturn (ty := .int) dL_translate_13 rfl rfl (leb rfl) (leb rfl) ⟨_, rfl, h⟩
    · refine aw_atc (lv' := [(0, .ref _), (1, .int _), (2, .int _), (3, .int _)]) [(0, 7, 8, 15)] (0, 7, 14, 17) [(0, 7, 20, 19)] rfl (by intro z hz; simp only [List.mem_cons, List.not_mem_nil, or_false] at hz; rcases hz with rfl <;> first | exact ⟨by decide, xcI, tk3 (i := 40) (by decide +kernel) rfl, by decide⟩) (by decide) (by decide) (tk3 (i := 41) (by decide +kernel) rfl) (by decide) 4 2 16 (Or.inr ⟨dL_translate_14, rfl⟩) (ltb rfl) rfl ?_
      refine aw_widen (cc' := 4) (ss' := 24) (leb rfl) (leb rfl) ?_
      replace h := h.2.1 rfl
      refine aw_sipush 19 (v := -903) dL_translate_16 kS_m903 rfl ?_
      exact aw_ireturn (ty := .int) dL_translate_19 rfl rfl (leb rfl) (leb rfl) ⟨_, rfl, h⟩
    · refine aw_atc (lv' := [(0, .ref _), (1, .int _), (2, .int _), (3, .int _)]) [(0, 7, 8, 15), (0, 7, 14, 17)] (0, 7, 20, 19) [] rfl (by intro z hz; simp only [List.mem_cons, List.not_mem_nil, or_false] at hz; rcases hz with rfl | rfl <;> first | exact ⟨by decide, xcI, tk3 (i := 40) (by decide +kernel) rfl, by decide⟩ | exact ⟨by decide, xcA, tk3 (i := 41) (by decide +kernel) rfl, by decide⟩) (by decide) (by decide) (tk3 (i := 42) (by decide +kernel) rfl) (by decide) 4 2 22 (Or.inr ⟨dL_translate_20, rfl⟩) (ltb rfl) rfl ?_
      refine aw_widen (cc' := 4) (ss' := 24) (leb rfl) (leb rfl) ?_
      replace h := h.2.2 rfl
      refine aw_sipush 25 (v := -904) dL_translate_22 kS_m904 rfl ?_
      exact aw_ireturn (ty := .int) dL_translate_25 rfl rfl (leb rfl) (leb rfl) ⟨_, rfl, h⟩)
set_option maxRecDepth 20000 in
theorem am_X3_framesAt {G : GG} (hG : G.1.stackTraces = false) {l0 : Nat} {l1 : Int32} {l2 : Int32} {X : XH} {K : Int32 → XH → Prop} (h : w_X3_framesAt l0 l1 l2 X K) : AM G M_X3_framesAt X [.ref l0, .int l1, .int l2] (KrI K) := AM_of (by decide +kernel) rfl (leb rfl) hG (by
  show AW G M_X3_framesAt 0 [(0, .ref l0), (1, .int l1), (2, .int l2)] [] X 0 0 _
  unfold w_X3_framesAt at h
  refine aw_aload_n 1 dX3_framesAt_0 rfl 0 rfl rfl ?_
  obtain ⟨g1, h⟩ := h
  obtain ⟨g2, h⟩ := h
  refine aw_getR 4 dX3_framesAt_1 fl_RX3_24 rfl g1 g2 rfl ?_
  refine aw_iload_n 5 dX3_framesAt_4 rfl 1 rfl rfl ?_
  refine aw_iload_n 6 dX3_framesAt_5 rfl 2 rfl rfl ?_
  refine aw_callS (M' := M_X3_place) 9 73 [.int _, .int _] [.ref _] dX3_framesAt_6 lk_RX3_73 ms_X3_place mp_X3_place rfl ⟨leb rfl, leb rfl⟩ rfl (leb rfl) (leb rfl) (leb rfl) rfl (am_X3_place hG h) (kkI fun v4 X3 h => ?_) (kxN KrI.no)
  refine aw_widen (cc' := 0) (ss' := 0) (leb rfl) (leb rfl) ?_
  refine aw_callSN (M' := M_X4_at) 12 81 [.ref _, .int _] [] dX3_framesAt_9 (by decide) ms_X4_at mp_X4_at rfl ⟨leb rfl, leb rfl⟩ rfl (leb rfl) (leb rfl) (leb rfl) rfl (am_X4_at hG h) (kkI fun v6 X5 h => ?_) KrI.no
  refine aw_widen (cc' := 0) (ss' := 0) (leb rfl) (leb rfl) ?_
  exact aw_ireturn (ty := .int) dX3_framesAt_12 rfl rfl (leb rfl) (leb rfl) ⟨_, rfl, h⟩)
set_option maxRecDepth 20000 in
theorem am_X3_hasTranslation {G : GG} (hG : G.1.stackTraces = false) {l0 : Nat} {l1 : Int32} {l2 : Int32} {X : XH} {K : Int32 → XH → Prop} (h : w_X3_hasTranslation l0 l1 l2 X K) : AM G M_X3_hasTranslation X [.ref l0, .int l1, .int l2] (KrI K) := AM_of (by decide +kernel) rfl (leb rfl) hG (by
  show AW G M_X3_hasTranslation 0 [(0, .ref l0), (1, .int l1), (2, .int l2)] [] X 0 0 _
  unfold w_X3_hasTranslation at h
  refine aw_aload_n 1 dX3_hasTranslation_0 rfl 0 rfl rfl ?_
  refine aw_iload_n 2 dX3_hasTranslation_1 rfl 1 rfl rfl ?_
  refine aw_iload_n 3 dX3_hasTranslation_2 rfl 2 rfl rfl ?_
  obtain ⟨g3, h⟩ := h
  refine aw_callV (M' := M_X3_framesAt) 6 95 3 l0 [.int _, .int _] [] dX3_hasTranslation_3 lk_RX3_95 mv_X3_framesAt mp_X3_framesAt rfl ⟨leb rfl, leb rfl⟩ rfl (ltb rfl) g3 rfl (leb rfl) (leb rfl) (leb rfl) rfl (am_X3_framesAt hG h) (kkI fun v2 X1 h => ?_) (kxN KrI.no)
  refine aw_widen (cc' := 0) (ss' := 0) (leb rfl) (leb rfl) ?_
  refine aw_if_le 13 9 dX3_hasTranslation_6 rfl rfl (fun c4 => ?_) (fun c4 => ?_)
  · replace h := h.1 c4
    refine aw_iconst 14 (v := 0) dX3_hasTranslation_13 kI_0 rfl ?_
    exact aw_ireturn (ty := .boolean) dX3_hasTranslation_14 rfl rfl (leb rfl) (leb rfl) ⟨_, rfl, h⟩
  · replace h := h.2 c4
    refine aw_iconst 10 (v := 1) dX3_hasTranslation_9 kI_1 rfl ?_
    refine aw_goto 14 dX3_hasTranslation_10 rfl ?_
    exact aw_ireturn (ty := .boolean) dX3_hasTranslation_14 rfl rfl (leb rfl) (leb rfl) ⟨_, rfl, h⟩)
set_option maxRecDepth 20000 in
theorem am_X3_annexedAt {G : GG} (hG : G.1.stackTraces = false) {l0 : Nat} {l1 : Int32} {l2 : Int32} {X : XH} {K : Int32 → XH → Prop} (h : w_X3_annexedAt l0 l1 l2 X K) : AM G M_X3_annexedAt X [.ref l0, .int l1, .int l2] (KrI K) := AM_of (by decide +kernel) rfl (leb rfl) hG (by
  show AW G M_X3_annexedAt 0 [(0, .ref l0), (1, .int l1), (2, .int l2)] [] X 0 0 _
  unfold w_X3_annexedAt at h
  refine aw_aload_n 1 dX3_annexedAt_0 rfl 0 rfl rfl ?_
  obtain ⟨g1, h⟩ := h
  obtain ⟨g2, h⟩ := h
  refine aw_getR 4 dX3_annexedAt_1 fl_RX3_27 rfl g1 g2 rfl ?_
  refine aw_iload_n 5 dX3_annexedAt_4 rfl 1 rfl rfl ?_
  refine aw_iload_n 6 dX3_annexedAt_5 rfl 2 rfl rfl ?_
  refine aw_callS (M' := M_X3_place) 9 73 [.int _, .int _] [.ref _] dX3_annexedAt_6 lk_RX3_73 ms_X3_place mp_X3_place rfl ⟨leb rfl, leb rfl⟩ rfl (leb rfl) (leb rfl) (leb rfl) rfl (am_X3_place hG h) (kkI fun v4 X3 h => ?_) (kxN KrI.no)
  refine aw_widen (cc' := 0) (ss' := 0) (leb rfl) (leb rfl) ?_
  refine aw_callSN (M' := M_X4_at) 12 81 [.ref _, .int _] [] dX3_annexedAt_9 (by decide) ms_X4_at mp_X4_at rfl ⟨leb rfl, leb rfl⟩ rfl (leb rfl) (leb rfl) (leb rfl) rfl (am_X4_at hG h) (kkI fun v6 X5 h => ?_) KrI.no
  refine aw_widen (cc' := 0) (ss' := 0) (leb rfl) (leb rfl) ?_
  exact aw_ireturn (ty := .int) dX3_annexedAt_12 rfl rfl (leb rfl) (leb rfl) ⟨_, rfl, h⟩)
set_option maxRecDepth 20000 in
theorem aw_X3_annexTotal_4 {G : GG} (hG : G.1.stackTraces = false)  {l0 : Nat} {l1 : Int32} {l2 : Int32} {l3 : Int32} {X : XH} {K : Int32 → XH → Prop}  (h : w_X3_annexTotal_4  l0 l1 l2 l3 X K) : AW G M_X3_annexTotal 4 [(0, .ref l0), (1, .int l1), (2, .int l2), (3, .int l3)] [] X 0 0 (KrI K) :=
  h (fun l0 l1 l2 l3 X => AW G M_X3_annexTotal 4 [(0, .ref l0), (1, .int l1), (2, .int l2), (3, .int l3)] [] X 0 0 (KrI K)) (fun l0 l1 l2 l3 X h => by
    refine aw_iload_n 5 dX3_annexTotal_4 rfl 3 rfl rfl ?_
    refine aw_aload_n 6 dX3_annexTotal_5 rfl 0 rfl rfl ?_
    obtain ⟨g1, h⟩ := h
    refine aw_getI 9 dX3_annexTotal_6 fl_RX3_45 rfl g1 rfl ?_
    refine aw_icmp_ge 27 12 dX3_annexTotal_9 rfl rfl (fun c2 => ?_) (fun c2 => ?_)
    · replace h := h.1 c2
      refine aw_iload_n 28 dX3_annexTotal_27 rfl 2 rfl rfl ?_
      exact aw_ireturn (ty := .int) dX3_annexTotal_28 rfl rfl (leb rfl) (leb rfl) ⟨_, rfl, h⟩
    · replace h := h.2 c2
      refine aw_iload_n 13 dX3_annexTotal_12 rfl 2 rfl rfl ?_
      refine aw_aload_n 14 dX3_annexTotal_13 rfl 0 rfl rfl ?_
      refine aw_iload_n 15 dX3_annexTotal_14 rfl 3 rfl rfl ?_
      refine aw_iload_n 16 dX3_annexTotal_15 rfl 1 rfl rfl ?_
      refine aw_callV (M' := M_X3_annexedAt) 19 163 3 l0 [.int _, .int _] [.int _] dX3_annexTotal_16 lk_RX3_163 mv_X3_annexedAt mp_X3_annexedAt rfl ⟨leb rfl, leb rfl⟩ rfl (ltb rfl) g1 rfl (leb rfl) (leb rfl) (leb rfl) rfl (am_X3_annexedAt hG h) (kkI fun v4 X3 h => ?_) (kxN KrI.no)
      refine aw_widen (cc' := 0) (ss' := 0) (leb rfl) (leb rfl) ?_
      refine aw_iadd 20 dX3_annexTotal_19 rfl ?_
      refine aw_istore_n 21 (lv' := [(2, _), (0, _), (1, _), (3, _)]) dX3_annexTotal_20 rfl (ltb rfl) rfl rfl ?_
      refine aw_iinc 24 (v := 1) (lv' := [(3, _), (2, _), (0, _), (1, _)]) dX3_annexTotal_21 3 rfl kI_1 (ltb rfl) rfl rfl ?_
      refine aw_goto 4 dX3_annexTotal_24 rfl ?_
      exact aw_pick [2, 3, 1, 0] rfl h)
set_option maxRecDepth 20000 in
theorem am_X3_annexTotal {G : GG} (hG : G.1.stackTraces = false) {l0 : Nat} {l1 : Int32} {X : XH} {K : Int32 → XH → Prop} (h : w_X3_annexTotal l0 l1 X K) : AM G M_X3_annexTotal X [.ref l0, .int l1] (KrI K) := AM_of (by decide +kernel) rfl (leb rfl) hG (by
  show AW G M_X3_annexTotal 0 [(0, .ref l0), (1, .int l1)] [] X 0 0 _
  unfold w_X3_annexTotal at h
  refine aw_iconst 1 (v := 0) dX3_annexTotal_0 kI_0 rfl ?_
  refine aw_istore_n 2 (lv' := [(2, _), (0, _), (1, _)]) dX3_annexTotal_1 rfl (ltb rfl) rfl rfl ?_
  refine aw_iconst 3 (v := 0) dX3_annexTotal_2 kI_0 rfl ?_
  refine aw_istore_n 4 (lv' := [(3, _), (2, _), (0, _), (1, _)]) dX3_annexTotal_3 rfl (ltb rfl) rfl rfl ?_
  exact aw_pick [2, 3, 1, 0] rfl (aw_X3_annexTotal_4 hG  h))
set_option maxRecDepth 20000 in
theorem am_X3_canAnnex {G : GG} (hG : G.1.stackTraces = false) {l0 : Nat} {l1 : Int32} {l2 : Int32} {l3 : Int32} {X : XH} {K : Int32 → XH → Prop} (h : w_X3_canAnnex l0 l1 l2 l3 X K) : AM G M_X3_canAnnex X [.ref l0, .int l1, .int l2, .int l3] (KrI K) := AM_of (by decide +kernel) rfl (leb rfl) hG (by
  show AW G M_X3_canAnnex 0 [(0, .ref l0), (1, .int l1), (2, .int l2), (3, .int l3)] [] X 0 0 _
  unfold w_X3_canAnnex at h
  refine aw_aload_n 1 dX3_canAnnex_0 rfl 0 rfl rfl ?_
  refine aw_iload_n 2 dX3_canAnnex_1 rfl 1 rfl rfl ?_
  refine aw_iload_n 3 dX3_canAnnex_2 rfl 2 rfl rfl ?_
  obtain ⟨g3, h⟩ := h
  refine aw_callV (M' := M_X3_hasTranslation) 6 108 3 l0 [.int _, .int _] [] dX3_canAnnex_3 lk_RX3_108 mv_X3_hasTranslation mp_X3_hasTranslation rfl ⟨leb rfl, leb rfl⟩ rfl (ltb rfl) g3 rfl (leb rfl) (leb rfl) (leb rfl) rfl (am_X3_hasTranslation hG h) (kkI fun v2 X1 h => ?_) (kxN KrI.no)
  refine aw_widen (cc' := 0) (ss' := 0) (leb rfl) (leb rfl) ?_
  refine aw_if_eq 46 9 dX3_canAnnex_6 rfl rfl (fun c4 => ?_) (fun c4 => ?_)
  · replace h := h.1 c4
    refine aw_iconst 47 (v := 0) dX3_canAnnex_46 kI_0 rfl ?_
    exact aw_ireturn (ty := .boolean) dX3_canAnnex_47 rfl rfl (leb rfl) (leb rfl) ⟨_, rfl, h⟩
  · replace h := h.2 c4
    refine aw_aload_n 10 dX3_canAnnex_9 rfl 0 rfl rfl ?_
    refine aw_iload_n 11 dX3_canAnnex_10 rfl 1 rfl rfl ?_
    refine aw_iload_n 12 dX3_canAnnex_11 rfl 2 rfl rfl ?_
    obtain ⟨g7, h⟩ := h
    refine aw_callV (M' := M_X3_isTaken) 15 98 3 l0 [.int _, .int _] [] dX3_canAnnex_12 lk_RX3_98 mv_X3_isTaken mp_X3_isTaken rfl ⟨leb rfl, leb rfl⟩ rfl (ltb rfl) g7 rfl (leb rfl) (leb rfl) (leb rfl) rfl (am_X3_isTaken hG h) (kkI fun v6 X5 h => ?_) (kxN KrI.no)
    refine aw_widen (cc' := 0) (ss' := 0) (leb rfl) (leb rfl) ?_
    refine aw_if_ne 46 18 dX3_canAnnex_15 rfl rfl (fun c8 => ?_) (fun c8 => ?_)
    · replace h := h.1 c8
      refine aw_iconst 47 (v := 0) dX3_canAnnex_46 kI_0 rfl ?_
      exact aw_ireturn (ty := .boolean) dX3_canAnnex_47 rfl rfl (leb rfl) (leb rfl) ⟨_, rfl, h⟩
    · replace h := h.2 c8
      refine aw_aload_n 19 dX3_canAnnex_18 rfl 0 rfl rfl ?_
      refine aw_iload_n 20 dX3_canAnnex_19 rfl 1 rfl rfl ?_
      refine aw_iload_n 21 dX3_canAnnex_20 rfl 2 rfl rfl ?_
      obtain ⟨g11, h⟩ := h
      refine aw_callV (M' := M_X3_framesAt) 24 95 3 l0 [.int _, .int _] [] dX3_canAnnex_21 lk_RX3_95 mv_X3_framesAt mp_X3_framesAt rfl ⟨leb rfl, leb rfl⟩ rfl (ltb rfl) g11 rfl (leb rfl) (leb rfl) (leb rfl) rfl (am_X3_framesAt hG h) (kkI fun v10 X9 h => ?_) (kxN KrI.no)
      refine aw_widen (cc' := 0) (ss' := 0) (leb rfl) (leb rfl) ?_
      refine aw_iload_n 25 dX3_canAnnex_24 rfl 3 rfl rfl ?_
      refine aw_isub 26 dX3_canAnnex_25 rfl ?_
      refine aw_iconst 27 (v := 1) dX3_canAnnex_26 kI_1 rfl ?_
      refine aw_icmp_lt 46 30 dX3_canAnnex_27 rfl rfl (fun c12 => ?_) (fun c12 => ?_)
      · replace h := h.1 c12
        refine aw_iconst 47 (v := 0) dX3_canAnnex_46 kI_0 rfl ?_
        exact aw_ireturn (ty := .boolean) dX3_canAnnex_47 rfl rfl (leb rfl) (leb rfl) ⟨_, rfl, h⟩
      · replace h := h.2 c12
        refine aw_aload_n 31 dX3_canAnnex_30 rfl 0 rfl rfl ?_
        refine aw_iload_n 32 dX3_canAnnex_31 rfl 2 rfl rfl ?_
        obtain ⟨g15, h⟩ := h
        refine aw_callV (M' := M_X3_annexTotal) 35 114 3 l0 [.int _] [] dX3_canAnnex_32 lk_RX3_114 mv_X3_annexTotal mp_X3_annexTotal rfl ⟨leb rfl, leb rfl⟩ rfl (ltb rfl) g15 rfl (leb rfl) (leb rfl) (leb rfl) rfl (am_X3_annexTotal hG h) (kkI fun v14 X13 h => ?_) (kxN KrI.no)
        refine aw_widen (cc' := 0) (ss' := 0) (leb rfl) (leb rfl) ?_
        refine aw_iload_n 36 dX3_canAnnex_35 rfl 3 rfl rfl ?_
        refine aw_iadd 37 dX3_canAnnex_36 rfl ?_
        refine aw_bipush 39 (v := 99) dX3_canAnnex_37 kB_99 rfl ?_
        refine aw_icmp_gt 46 42 dX3_canAnnex_39 rfl rfl (fun c16 => ?_) (fun c16 => ?_)
        · replace h := h.1 c16
          refine aw_iconst 47 (v := 0) dX3_canAnnex_46 kI_0 rfl ?_
          exact aw_ireturn (ty := .boolean) dX3_canAnnex_47 rfl rfl (leb rfl) (leb rfl) ⟨_, rfl, h⟩
        · replace h := h.2 c16
          refine aw_iconst 43 (v := 1) dX3_canAnnex_42 kI_1 rfl ?_
          refine aw_goto 47 dX3_canAnnex_43 rfl ?_
          exact aw_ireturn (ty := .boolean) dX3_canAnnex_47 rfl rfl (leb rfl) (leb rfl) ⟨_, rfl, h⟩)
set_option maxRecDepth 20000 in
theorem am_X4_annex {G : GG} (hG : G.1.stackTraces = false) {l0 : Nat} {l1 : Int32} {l2 : Int32} {l3 : Int32} {X : XH} {K : Int32 → XH → Prop} {KX : String → XH → Prop} (h : w_X4_annex l0 l1 l2 l3 X K KX) : AM G M_X4_annex X [.ref l0, .int l1, .int l2, .int l3] (KxT (KrI K) KX) := AM_of (by decide +kernel) rfl (leb rfl) hG (by
  show AW G M_X4_annex 0 [(0, .ref l0), (1, .int l1), (2, .int l2), (3, .int l3)] [] X 0 0 _
  unfold w_X4_annex at h
  refine aw_aload_n 1 dX4_annex_0 rfl 0 rfl rfl ?_
  refine aw_iload_n 2 dX4_annex_1 rfl 1 rfl rfl ?_
  refine aw_iload_n 3 dX4_annex_2 rfl 2 rfl rfl ?_
  obtain ⟨g2, h⟩ := h
  refine aw_callV (M' := M_X4_checkTranslation) 6 115 4 l0 [.int _, .int _] [] dX4_annex_3 lk_RX4_115 mv_X4_checkTranslation mp_X4_checkTranslation rfl ⟨leb rfl, leb rfl⟩ rfl (ltb rfl) g2 rfl (leb rfl) (leb rfl) (leb rfl) rfl (am_X4_checkTranslation hG h) (kkT (kkV fun X1 h => ?_)) (kxT KrV.no fun E X h => at_out rfl (leb rfl) (leb rfl) (Or.inr ⟨_, rfl, h⟩))
  refine aw_widen (cc' := 2) (ss' := 12) (leb rfl) (leb rfl) ?_
  refine aw_iload_n 7 dX4_annex_6 rfl 3 rfl rfl ?_
  refine aw_iconst 8 (v := 1) dX4_annex_7 kI_1 rfl ?_
  refine aw_bipush 10 (v := 59) dX4_annex_8 kB_59 rfl ?_
  refine aw_callS (M' := M_X4_checkRange) 13 52 [.int _, .int _, .int _] [] dX4_annex_10 lk_RX4_52 ms_X4_checkRange mp_X4_checkRange rfl ⟨leb rfl, leb rfl⟩ rfl (leb rfl) (leb rfl) (leb rfl) rfl (am_X4_checkRange hG h) (kkT (kkV fun X3 h => ?_)) (kxT KrV.no fun E X h => at_out rfl (leb rfl) (leb rfl) (Or.inr ⟨_, rfl, h⟩))
  refine aw_widen (cc' := 3) (ss' := 18) (leb rfl) (leb rfl) ?_
  refine aw_aload_n 14 dX4_annex_13 rfl 0 rfl rfl ?_
  obtain ⟨g4, h⟩ := h
  obtain ⟨g5, h⟩ := h
  refine aw_getR 17 dX4_annex_14 fl_RX4_10 rfl g4 g5 rfl ?_
  refine aw_iload_n 18 dX4_annex_17 rfl 1 rfl rfl ?_
  refine aw_iload_n 19 dX4_annex_18 rfl 2 rfl rfl ?_
  refine aw_iload_n 20 dX4_annex_19 rfl 3 rfl rfl ?_
  obtain ⟨g8, h⟩ := h
  refine aw_callV (M' := M_X3_canAnnex) 23 133 3 (hR X3 l0 0) [.int _, .int _, .int _] [] dX4_annex_20 lk_RX4_133 mv_X3_canAnnex mp_X3_canAnnex rfl ⟨leb rfl, leb rfl⟩ rfl (ltb rfl) g8 rfl (leb rfl) (leb rfl) (leb rfl) rfl (am_X3_canAnnex hG h) (kkI fun v7 X6 h => ?_) (kxN KrI.no)
  refine aw_widen (cc' := 3) (ss' := 18) (leb rfl) (leb rfl) ?_
  refine aw_if_ne 36 26 dX4_annex_23 rfl rfl (fun c9 => ?_) (fun c9 => ?_)
  · replace h := h.1 c9
    refine aw_aload_n 37 dX4_annex_36 rfl 0 rfl rfl ?_
    obtain ⟨g10, h⟩ := h
    obtain ⟨g11, h⟩ := h
    refine aw_getR 40 dX4_annex_37 fl_RX4_19 rfl g10 g11 rfl ?_
    refine aw_aload_n 41 dX4_annex_40 rfl 0 rfl rfl ?_
    obtain ⟨g12, h⟩ := h
    refine aw_getR 44 dX4_annex_41 fl_RX4_10 rfl g10 g12 rfl ?_
    obtain ⟨g14, h⟩ := h
    refine aw_callV (M' := M_X1_push) 47 67 1 (hR X6 l0 1) [.ref _] [] dX4_annex_44 lk_RX4_67 mv_X1_push mp_X1_push rfl ⟨leb rfl, leb rfl⟩ rfl (ltb rfl) g14 rfl (leb rfl) (leb rfl) (leb rfl) rfl (am_X1_push hG h) (kkV fun X13 h => ?_) (kxN KrV.no)
    refine aw_widen (cc' := 3) (ss' := 18) (leb rfl) (leb rfl) ?_
    refine aw_aload_n 48 dX4_annex_47 rfl 0 rfl rfl ?_
    obtain ⟨g15, h⟩ := h
    obtain ⟨g16, h⟩ := h
    refine aw_getR 51 dX4_annex_48 fl_RX4_10 rfl g15 g16 rfl ?_
    refine aw_iload_n 52 dX4_annex_51 rfl 1 rfl rfl ?_
    refine aw_iload_n 53 dX4_annex_52 rfl 2 rfl rfl ?_
    obtain ⟨g19, h⟩ := h
    refine aw_callV (M' := M_X3_framesAt) 56 139 3 (hR X13 l0 0) [.int _, .int _] [] dX4_annex_53 lk_RX4_139 mv_X3_framesAt mp_X3_framesAt rfl ⟨leb rfl, leb rfl⟩ rfl (ltb rfl) g19 rfl (leb rfl) (leb rfl) (leb rfl) rfl (am_X3_framesAt hG h) (kkI fun v18 X17 h => ?_) (kxN KrI.no)
    refine aw_widen (cc' := 3) (ss' := 18) (leb rfl) (leb rfl) ?_
    refine aw_iload_n 57 dX4_annex_56 rfl 3 rfl rfl ?_
    refine aw_isub 58 dX4_annex_57 rfl ?_
    refine aw_istore 60 (lv' := [(4, _), (0, _), (1, _), (2, _), (3, _)]) dX4_annex_58 (ltb rfl) rfl rfl ?_
    refine aw_aload_n 61 dX4_annex_60 rfl 1 rfl rfl ?_
    obtain ⟨g20, h⟩ := h
    obtain ⟨g21, h⟩ := h
    refine aw_getR 64 dX4_annex_61 fl_RX4_10 rfl g20 g21 rfl ?_
    refine aw_iload_n 65 dX4_annex_64 rfl 2 rfl rfl ?_
    refine aw_iload_n 66 dX4_annex_65 rfl 3 rfl rfl ?_
    refine aw_iload 68 dX4_annex_66 0 rfl rfl ?_
    refine aw_aload_n 69 dX4_annex_68 rfl 1 rfl rfl ?_
    refine aw_getR 72 dX4_annex_69 fl_RX4_10 rfl g20 g21 rfl ?_
    refine aw_iload_n 73 dX4_annex_72 rfl 2 rfl rfl ?_
    refine aw_iload_n 74 dX4_annex_73 rfl 3 rfl rfl ?_
    obtain ⟨g24, h⟩ := h
    refine aw_callV (M' := M_X3_annexedAt) 77 142 3 (hR X17 l0 0) [.int _, .int _] [.int _, .int _, .int _, .ref _] dX4_annex_74 lk_RX4_142 mv_X3_annexedAt mp_X3_annexedAt rfl ⟨leb rfl, leb rfl⟩ rfl (ltb rfl) g24 rfl (leb rfl) (leb rfl) (leb rfl) rfl (am_X3_annexedAt hG h) (kkI fun v23 X22 h => ?_) (kxN KrI.no)
    refine aw_widen (cc' := 3) (ss' := 18) (leb rfl) (leb rfl) ?_
    refine aw_iload_n 78 dX4_annex_77 rfl 4 rfl rfl ?_
    refine aw_iadd 79 dX4_annex_78 rfl ?_
    obtain ⟨g26, h⟩ := h
    refine aw_callV (M' := M_X3_putTranslation) 82 125 3 (hR X17 l0 0) [.int _, .int _, .int _, .int _] [] dX4_annex_79 lk_RX4_125 mv_X3_putTranslation mp_X3_putTranslation rfl ⟨leb rfl, leb rfl⟩ rfl (ltb rfl) g26 rfl (leb rfl) (leb rfl) (leb rfl) rfl (am_X3_putTranslation hG h) (kkV fun X25 h => ?_) (kxN KrV.no)
    refine aw_widen (cc' := 3) (ss' := 18) (leb rfl) (leb rfl) ?_
    refine aw_aload_n 83 dX4_annex_82 rfl 1 rfl rfl ?_
    obtain ⟨g27, h⟩ := h
    obtain ⟨g28, h⟩ := h
    refine aw_getR 86 dX4_annex_83 fl_RX4_10 rfl g27 g28 rfl ?_
    refine aw_iload_n 87 dX4_annex_86 rfl 3 rfl rfl ?_
    obtain ⟨g31, h⟩ := h
    refine aw_callV (M' := M_X3_annexTotal) 90 145 3 (hR X25 l0 0) [.int _] [] dX4_annex_87 lk_RX4_145 mv_X3_annexTotal mp_X3_annexTotal rfl ⟨leb rfl, leb rfl⟩ rfl (ltb rfl) g31 rfl (leb rfl) (leb rfl) (leb rfl) rfl (am_X3_annexTotal hG h) (kkI fun v30 X29 h => ?_) (kxN KrI.no)
    refine aw_widen (cc' := 3) (ss' := 18) (leb rfl) (leb rfl) ?_
    exact aw_ireturn (ty := .int) dX4_annex_90 rfl rfl (leb rfl) (leb rfl) (Or.inl ⟨_, rfl, h⟩)
  · replace h := h.2 c9
    exact aw_throw xcS 60 137 64 rfl th_xcS (by decide) (Or.inl ⟨dX4_annex_26, dX4_annex_29, dX4_annex_30, dX4_annex_32, dX4_annex_35⟩) rfl (ltb rfl) (leb rfl) (leb rfl) (leb rfl) (Or.inr ⟨_, rfl, h⟩))
set_option maxRecDepth 20000 in
theorem am_L_annex {G : GG} (hG : G.1.stackTraces = false) {l0 : Nat} {l1 : Int32} {l2 : Int32} {l3 : Int32} {X : XH} {K : Int32 → XH → Prop} (h : w_L_annex l0 l1 l2 l3 X K) : AM G M_L_annex X [.ref l0, .int l1, .int l2, .int l3] (KrI K) := AM_ofH (by decide +kernel) (0, 7, 8, 15) [(0, 7, 13, 17), (0, 7, 18, 19)] rfl (leb rfl) hG (by
  show AW G M_L_annex 0 [(0, .ref l0), (1, .int l1), (2, .int l2), (3, .int l3)] [] X 0 0 _
  unfold w_L_annex at h
  refine aw_aload_n 1 dL_annex_0 rfl 0 rfl rfl ?_
  refine aw_iload_n 2 dL_annex_1 rfl 1 rfl rfl ?_
  refine aw_iload_n 3 dL_annex_2 rfl 2 rfl rfl ?_
  refine aw_iload_n 4 dL_annex_3 rfl 3 rfl rfl ?_
  obtain ⟨g3, h⟩ := h
  refine aw_callV (M' := M_X4_annex) 7 34 4 l0 [.int _, .int _, .int _] [] dL_annex_4 lk_RL_34 mv_X4_annex mp_X4_annex rfl ⟨leb rfl, leb rfl⟩ rfl (ltb rfl) g3 rfl (leb rfl) (leb rfl) (leb rfl) rfl (am_X4_annex hG h) (kkT (kkI fun v2 X1 h => ?_)) (kxT KrI.no fun E X1 h => ?_)
  · refine aw_widen (cc' := 4) (ss' := 24) (leb rfl) (leb rfl) ?_
    exact aw_ireturn (ty := .int) dL_annex_7 rfl rfl (leb rfl) (leb rfl) ⟨_, rfl, h⟩
  · obtain ⟨hE, h⟩ := h
    rcases hE with rfl | rfl | rfl
    · refine aw_atc (lv' := [(0, .ref _), (1, .int _), (2, .int _), (3, .int _)]) [] (0, 7, 8, 15) [(0, 7, 13, 17), (0, 7, 18, 19)] rfl (fun z hz => nomatch hz) (by decide) (by decide) (tk3 (i := 40) (by decide +kernel) rfl) (by decide) 4 2 10 (Or.inr ⟨dL_annex_8, rfl⟩) (ltb rfl) rfl ?_
      refine aw_widen (cc' := 4) (ss' := 24) (leb rfl) (leb rfl) ?_
      replace h := h.1 rfl
      refine aw_bipush 12 (v := -2) dL_annex_10 kB_m2 rfl ?_
      exact aw_ireturn (ty := .int) dL_annex_12 rfl rfl (leb rfl) (leb rfl) ⟨_, rfl, h⟩
    · refine aw_atc (lv' := [(0, .ref _), (1, .int _), (2, .int _), (3, .int _)]) [(0, 7, 8, 15)] (0, 7, 13, 17) [(0, 7, 18, 19)] rfl (by intro z hz; simp only [List.mem_cons, List.not_mem_nil, or_false] at hz; rcases hz with rfl <;> first | exact ⟨by decide, xcI, tk3 (i := 40) (by decide +kernel) rfl, by decide⟩) (by decide) (by decide) (tk3 (i := 41) (by decide +kernel) rfl) (by decide) 4 2 15 (Or.inr ⟨dL_annex_13, rfl⟩) (ltb rfl) rfl ?_
      refine aw_widen (cc' := 4) (ss' := 24) (leb rfl) (leb rfl) ?_
      replace h := h.2.1 rfl
      refine aw_bipush 17 (v := -3) dL_annex_15 kB_m3 rfl ?_
      exact aw_ireturn (ty := .int) dL_annex_17 rfl rfl (leb rfl) (leb rfl) ⟨_, rfl, h⟩
    · refine aw_atc (lv' := [(0, .ref _), (1, .int _), (2, .int _), (3, .int _)]) [(0, 7, 8, 15), (0, 7, 13, 17)] (0, 7, 18, 19) [] rfl (by intro z hz; simp only [List.mem_cons, List.not_mem_nil, or_false] at hz; rcases hz with rfl | rfl <;> first | exact ⟨by decide, xcI, tk3 (i := 40) (by decide +kernel) rfl, by decide⟩ | exact ⟨by decide, xcA, tk3 (i := 41) (by decide +kernel) rfl, by decide⟩) (by decide) (by decide) (tk3 (i := 42) (by decide +kernel) rfl) (by decide) 4 2 20 (Or.inr ⟨dL_annex_18, rfl⟩) (ltb rfl) rfl ?_
      refine aw_widen (cc' := 4) (ss' := 24) (leb rfl) (leb rfl) ?_
      replace h := h.2.2 rfl
      refine aw_bipush 22 (v := -4) dL_annex_20 kB_m4 rfl ?_
      exact aw_ireturn (ty := .int) dL_annex_22 rfl rfl (leb rfl) (leb rfl) ⟨_, rfl, h⟩)
set_option maxRecDepth 20000 in
theorem am_X4_bringBack {G : GG} (hG : G.1.stackTraces = false) {l0 : Nat} {l1 : Int32} {l2 : Int32} {X : XH} {K : Int32 → XH → Prop} {KX : String → XH → Prop} (h : w_X4_bringBack l0 l1 l2 X K KX) : AM G M_X4_bringBack X [.ref l0, .int l1, .int l2] (KxT (KrI K) KX) := AM_of (by decide +kernel) rfl (leb rfl) hG (by
  show AW G M_X4_bringBack 0 [(0, .ref l0), (1, .int l1), (2, .int l2)] [] X 0 0 _
  unfold w_X4_bringBack at h
  refine aw_aload_n 1 dX4_bringBack_0 rfl 0 rfl rfl ?_
  refine aw_iload_n 2 dX4_bringBack_1 rfl 1 rfl rfl ?_
  refine aw_iload_n 3 dX4_bringBack_2 rfl 2 rfl rfl ?_
  obtain ⟨g2, h⟩ := h
  refine aw_callV (M' := M_X4_checkTranslation) 6 115 4 l0 [.int _, .int _] [] dX4_bringBack_3 lk_RX4_115 mv_X4_checkTranslation mp_X4_checkTranslation rfl ⟨leb rfl, leb rfl⟩ rfl (ltb rfl) g2 rfl (leb rfl) (leb rfl) (leb rfl) rfl (am_X4_checkTranslation hG h) (kkT (kkV fun X1 h => ?_)) (kxT KrV.no fun E X h => at_out rfl (leb rfl) (leb rfl) (Or.inr ⟨_, rfl, h⟩))
  refine aw_widen (cc' := 2) (ss' := 12) (leb rfl) (leb rfl) ?_
  refine aw_aload_n 7 dX4_bringBack_6 rfl 0 rfl rfl ?_
  obtain ⟨g3, h⟩ := h
  obtain ⟨g4, h⟩ := h
  refine aw_getR 10 dX4_bringBack_7 fl_RX4_10 rfl g3 g4 rfl ?_
  refine aw_iload_n 11 dX4_bringBack_10 rfl 1 rfl rfl ?_
  refine aw_iload_n 12 dX4_bringBack_11 rfl 2 rfl rfl ?_
  obtain ⟨g7, h⟩ := h
  refine aw_callV (M' := M_X3_annexedAt) 15 142 3 (hR X1 l0 0) [.int _, .int _] [] dX4_bringBack_12 lk_RX4_142 mv_X3_annexedAt mp_X3_annexedAt rfl ⟨leb rfl, leb rfl⟩ rfl (ltb rfl) g7 rfl (leb rfl) (leb rfl) (leb rfl) rfl (am_X3_annexedAt hG h) (kkI fun v6 X5 h => ?_) (kxN KrI.no)
  refine aw_widen (cc' := 2) (ss' := 12) (leb rfl) (leb rfl) ?_
  refine aw_istore_n 16 (lv' := [(3, _), (0, _), (1, _), (2, _)]) dX4_bringBack_15 rfl (ltb rfl) rfl rfl ?_
  refine aw_iload_n 17 dX4_bringBack_16 rfl 0 rfl rfl ?_
  refine aw_if_eq 32 20 dX4_bringBack_17 rfl rfl (fun c8 => ?_) (fun c8 => ?_)
  · replace h := h.1 c8
    exact aw_throw xcS 60 148 64 rfl th_xcS (by decide) (Or.inl ⟨dX4_bringBack_32, dX4_bringBack_35, dX4_bringBack_36, dX4_bringBack_38, dX4_bringBack_41⟩) rfl (ltb rfl) (leb rfl) (leb rfl) (leb rfl) (Or.inr ⟨_, rfl, h⟩)
  · replace h := h.2 c8
    refine aw_aload_n 21 dX4_bringBack_20 rfl 1 rfl rfl ?_
    obtain ⟨g9, h⟩ := h
    obtain ⟨g10, h⟩ := h
    refine aw_getR 24 dX4_bringBack_21 fl_RX4_10 rfl g9 g10 rfl ?_
    refine aw_iload_n 25 dX4_bringBack_24 rfl 2 rfl rfl ?_
    refine aw_iload_n 26 dX4_bringBack_25 rfl 3 rfl rfl ?_
    obtain ⟨g13, h⟩ := h
    refine aw_callV (M' := M_X3_isTaken) 29 119 3 (hR X5 l0 0) [.int _, .int _] [] dX4_bringBack_26 lk_RX4_119 mv_X3_isTaken mp_X3_isTaken rfl ⟨leb rfl, leb rfl⟩ rfl (ltb rfl) g13 rfl (leb rfl) (leb rfl) (leb rfl) rfl (am_X3_isTaken hG h) (kkI fun v12 X11 h => ?_) (kxN KrI.no)
    refine aw_widen (cc' := 2) (ss' := 12) (leb rfl) (leb rfl) ?_
    refine aw_if_eq 42 32 dX4_bringBack_29 rfl rfl (fun c14 => ?_) (fun c14 => ?_)
    · replace h := h.1 c14
      refine aw_aload_n 43 dX4_bringBack_42 rfl 1 rfl rfl ?_
      obtain ⟨g15, h⟩ := h
      obtain ⟨g16, h⟩ := h
      refine aw_getR 46 dX4_bringBack_43 fl_RX4_19 rfl g15 g16 rfl ?_
      refine aw_aload_n 47 dX4_bringBack_46 rfl 1 rfl rfl ?_
      obtain ⟨g17, h⟩ := h
      refine aw_getR 50 dX4_bringBack_47 fl_RX4_10 rfl g15 g17 rfl ?_
      obtain ⟨g19, h⟩ := h
      refine aw_callV (M' := M_X1_push) 53 67 1 (hR X11 l0 1) [.ref _] [] dX4_bringBack_50 lk_RX4_67 mv_X1_push mp_X1_push rfl ⟨leb rfl, leb rfl⟩ rfl (ltb rfl) g19 rfl (leb rfl) (leb rfl) (leb rfl) rfl (am_X1_push hG h) (kkV fun X18 h => ?_) (kxN KrV.no)
      refine aw_widen (cc' := 2) (ss' := 12) (leb rfl) (leb rfl) ?_
      refine aw_aload_n 54 dX4_bringBack_53 rfl 1 rfl rfl ?_
      obtain ⟨g20, h⟩ := h
      obtain ⟨g21, h⟩ := h
      refine aw_getR 57 dX4_bringBack_54 fl_RX4_10 rfl g20 g21 rfl ?_
      refine aw_iload_n 58 dX4_bringBack_57 rfl 2 rfl rfl ?_
      refine aw_iload_n 59 dX4_bringBack_58 rfl 3 rfl rfl ?_
      refine aw_aload_n 60 dX4_bringBack_59 rfl 1 rfl rfl ?_
      refine aw_getR 63 dX4_bringBack_60 fl_RX4_10 rfl g20 g21 rfl ?_
      refine aw_iload_n 64 dX4_bringBack_63 rfl 2 rfl rfl ?_
      refine aw_iload_n 65 dX4_bringBack_64 rfl 3 rfl rfl ?_
      obtain ⟨g24, h⟩ := h
      refine aw_callV (M' := M_X3_framesAt) 68 139 3 (hR X18 l0 0) [.int _, .int _] [.int _, .int _, .ref _] dX4_bringBack_65 lk_RX4_139 mv_X3_framesAt mp_X3_framesAt rfl ⟨leb rfl, leb rfl⟩ rfl (ltb rfl) g24 rfl (leb rfl) (leb rfl) (leb rfl) rfl (am_X3_framesAt hG h) (kkI fun v23 X22 h => ?_) (kxN KrI.no)
      refine aw_widen (cc' := 2) (ss' := 12) (leb rfl) (leb rfl) ?_
      refine aw_iload_n 69 dX4_bringBack_68 rfl 0 rfl rfl ?_
      refine aw_iadd 70 dX4_bringBack_69 rfl ?_
      refine aw_iconst 71 (v := 0) dX4_bringBack_70 kI_0 rfl ?_
      obtain ⟨g26, h⟩ := h
      refine aw_callV (M' := M_X3_putTranslation) 74 125 3 (hR X18 l0 0) [.int _, .int _, .int _, .int _] [] dX4_bringBack_71 lk_RX4_125 mv_X3_putTranslation mp_X3_putTranslation rfl ⟨leb rfl, leb rfl⟩ rfl (ltb rfl) g26 rfl (leb rfl) (leb rfl) (leb rfl) rfl (am_X3_putTranslation hG h) (kkV fun X25 h => ?_) (kxN KrV.no)
      refine aw_widen (cc' := 2) (ss' := 12) (leb rfl) (leb rfl) ?_
      refine aw_iload_n 75 dX4_bringBack_74 rfl 0 rfl rfl ?_
      exact aw_ireturn (ty := .int) dX4_bringBack_75 rfl rfl (leb rfl) (leb rfl) (Or.inl ⟨_, rfl, h⟩)
    · replace h := h.2 c14
      exact aw_throw xcS 60 148 64 rfl th_xcS (by decide) (Or.inl ⟨dX4_bringBack_32, dX4_bringBack_35, dX4_bringBack_36, dX4_bringBack_38, dX4_bringBack_41⟩) rfl (ltb rfl) (leb rfl) (leb rfl) (leb rfl) (Or.inr ⟨_, rfl, h⟩))
set_option maxRecDepth 20000 in
theorem am_L_bringBack {G : GG} (hG : G.1.stackTraces = false) {l0 : Nat} {l1 : Int32} {l2 : Int32} {X : XH} {K : Int32 → XH → Prop} (h : w_L_bringBack l0 l1 l2 X K) : AM G M_L_bringBack X [.ref l0, .int l1, .int l2] (KrI K) := AM_ofH (by decide +kernel) (0, 6, 7, 15) [(0, 6, 11, 19)] rfl (leb rfl) hG (by
  show AW G M_L_bringBack 0 [(0, .ref l0), (1, .int l1), (2, .int l2)] [] X 0 0 _
  unfold w_L_bringBack at h
  refine aw_aload_n 1 dL_bringBack_0 rfl 0 rfl rfl ?_
  refine aw_iload_n 2 dL_bringBack_1 rfl 1 rfl rfl ?_
  refine aw_iload_n 3 dL_bringBack_2 rfl 2 rfl rfl ?_
  obtain ⟨g3, h⟩ := h
  refine aw_callV (M' := M_X4_bringBack) 6 37 4 l0 [.int _, .int _] [] dL_bringBack_3 lk_RL_37 mv_X4_bringBack mp_X4_bringBack rfl ⟨leb rfl, leb rfl⟩ rfl (ltb rfl) g3 rfl (leb rfl) (leb rfl) (leb rfl) rfl (am_X4_bringBack hG h) (kkT (kkI fun v2 X1 h => ?_)) (kxT KrI.no fun E X1 h => ?_)
  · refine aw_widen (cc' := 3) (ss' := 18) (leb rfl) (leb rfl) ?_
    exact aw_ireturn (ty := .int) dL_bringBack_6 rfl rfl (leb rfl) (leb rfl) ⟨_, rfl, h⟩
  · obtain ⟨hE, h⟩ := h
    rcases hE with rfl | rfl
    · refine aw_atc (lv' := [(0, .ref _), (1, .int _), (2, .int _)]) [] (0, 6, 7, 15) [(0, 6, 11, 19)] rfl (fun z hz => nomatch hz) (by decide) (by decide) (tk3 (i := 40) (by decide +kernel) rfl) (by decide) 3 1 8 (Or.inl ⟨3, rfl, dL_bringBack_7, rfl⟩) (ltb rfl) rfl ?_
      refine aw_widen (cc' := 3) (ss' := 18) (leb rfl) (leb rfl) ?_
      replace h := h.1 rfl
      refine aw_bipush 10 (v := -2) dL_bringBack_8 kB_m2 rfl ?_
      exact aw_ireturn (ty := .int) dL_bringBack_10 rfl rfl (leb rfl) (leb rfl) ⟨_, rfl, h⟩
    · refine aw_atc (lv' := [(0, .ref _), (1, .int _), (2, .int _)]) [(0, 6, 7, 15)] (0, 6, 11, 19) [] rfl (by intro z hz; simp only [List.mem_cons, List.not_mem_nil, or_false] at hz; rcases hz with rfl <;> first | exact ⟨by decide, xcI, tk3 (i := 40) (by decide +kernel) rfl, by decide⟩) (by decide) (by decide) (tk3 (i := 42) (by decide +kernel) rfl) (by decide) 3 1 12 (Or.inl ⟨3, rfl, dL_bringBack_11, rfl⟩) (ltb rfl) rfl ?_
      refine aw_widen (cc' := 3) (ss' := 18) (leb rfl) (leb rfl) ?_
      replace h := h.2 rfl
      refine aw_bipush 14 (v := -4) dL_bringBack_12 kB_m4 rfl ?_
      exact aw_ireturn (ty := .int) dL_bringBack_14 rfl rfl (leb rfl) (leb rfl) ⟨_, rfl, h⟩)
set_option maxRecDepth 20000 in
theorem am_X4_checkVoice {G : GG} (hG : G.1.stackTraces = false) {l0 : Int32} {l1 : Int32} {X : XH} {K : XH → Prop} {KX : String → XH → Prop} (h : w_X4_checkVoice l0 l1 X K KX) : AM G M_X4_checkVoice X [.int l0, .int l1] (KxT (KrV K) KX) := AM_of (by decide +kernel) rfl (leb rfl) hG (by
  show AW G M_X4_checkVoice 0 [(0, .int l0), (1, .int l1)] [] X 0 0 _
  unfold w_X4_checkVoice at h
  refine aw_iload_n 1 dX4_checkVoice_0 rfl 0 rfl rfl ?_
  refine aw_callS (M' := M_X4_checkState) 4 49 [.int _] [] dX4_checkVoice_1 lk_RX4_49 ms_X4_checkState mp_X4_checkState rfl ⟨leb rfl, leb rfl⟩ rfl (leb rfl) (leb rfl) (leb rfl) rfl (am_X4_checkState hG h) (kkT (kkV fun X1 h => ?_)) (kxT KrV.no fun E X h => at_out rfl (leb rfl) (leb rfl) (Or.inr ⟨_, rfl, h⟩))
  refine aw_widen (cc' := 1) (ss' := 6) (leb rfl) (leb rfl) ?_
  refine aw_iload_n 5 dX4_checkVoice_4 rfl 1 rfl rfl ?_
  refine aw_callS (M' := M_X4_checkTongue) 8 195 [.int _] [] dX4_checkVoice_5 lk_RX4_195 ms_X4_checkTongue mp_X4_checkTongue rfl ⟨leb rfl, leb rfl⟩ rfl (leb rfl) (leb rfl) (leb rfl) rfl (am_X4_checkTongue hG h) (kkT (kkV fun X2 h => ?_)) (kxT KrV.no fun E X h => at_out rfl (leb rfl) (leb rfl) (Or.inr ⟨_, rfl, h⟩))
  refine aw_widen (cc' := 2) (ss' := 12) (leb rfl) (leb rfl) ?_
  exact aw_return dX4_checkVoice_8 rfl (leb rfl) (leb rfl) (Or.inl ⟨rfl, h⟩))
set_option maxRecDepth 20000 in
theorem am_X3_usedBy {G : GG} (hG : G.1.stackTraces = false) {l0 : Nat} {l1 : Int32} {l2 : Int32} {X : XH} {K : Int32 → XH → Prop} (h : w_X3_usedBy l0 l1 l2 X K) : AM G M_X3_usedBy X [.ref l0, .int l1, .int l2] (KrI K) := AM_of (by decide +kernel) rfl (leb rfl) hG (by
  show AW G M_X3_usedBy 0 [(0, .ref l0), (1, .int l1), (2, .int l2)] [] X 0 0 _
  unfold w_X3_usedBy at h
  refine aw_aload_n 1 dX3_usedBy_0 rfl 0 rfl rfl ?_
  obtain ⟨g1, h⟩ := h
  obtain ⟨g2, h⟩ := h
  refine aw_getR 4 dX3_usedBy_1 fl_RX3_36 rfl g1 g2 rfl ?_
  refine aw_iload_n 5 dX3_usedBy_4 rfl 1 rfl rfl ?_
  refine aw_iload_n 6 dX3_usedBy_5 rfl 2 rfl rfl ?_
  refine aw_callS (M' := M_X3_place) 9 73 [.int _, .int _] [.ref _] dX3_usedBy_6 lk_RX3_73 ms_X3_place mp_X3_place rfl ⟨leb rfl, leb rfl⟩ rfl (leb rfl) (leb rfl) (leb rfl) rfl (am_X3_place hG h) (kkI fun v4 X3 h => ?_) (kxN KrI.no)
  refine aw_widen (cc' := 0) (ss' := 0) (leb rfl) (leb rfl) ?_
  refine aw_callSN (M' := M_X4_at) 12 81 [.ref _, .int _] [] dX3_usedBy_9 (by decide) ms_X4_at mp_X4_at rfl ⟨leb rfl, leb rfl⟩ rfl (leb rfl) (leb rfl) (leb rfl) rfl (am_X4_at hG h) (kkI fun v6 X5 h => ?_) KrI.no
  refine aw_widen (cc' := 0) (ss' := 0) (leb rfl) (leb rfl) ?_
  exact aw_ireturn (ty := .int) dX3_usedBy_12 rfl rfl (leb rfl) (leb rfl) ⟨_, rfl, h⟩)
set_option maxRecDepth 20000 in
theorem am_X3_staminaAt {G : GG} (hG : G.1.stackTraces = false) {l0 : Nat} {l1 : Int32} {l2 : Int32} {X : XH} {K : Int32 → XH → Prop} (h : w_X3_staminaAt l0 l1 l2 X K) : AM G M_X3_staminaAt X [.ref l0, .int l1, .int l2] (KrI K) := AM_of (by decide +kernel) rfl (leb rfl) hG (by
  show AW G M_X3_staminaAt 0 [(0, .ref l0), (1, .int l1), (2, .int l2)] [] X 0 0 _
  unfold w_X3_staminaAt at h
  refine aw_aload_n 1 dX3_staminaAt_0 rfl 0 rfl rfl ?_
  obtain ⟨g1, h⟩ := h
  obtain ⟨g2, h⟩ := h
  refine aw_getR 4 dX3_staminaAt_1 fl_RX3_33 rfl g1 g2 rfl ?_
  refine aw_iload_n 5 dX3_staminaAt_4 rfl 1 rfl rfl ?_
  refine aw_iload_n 6 dX3_staminaAt_5 rfl 2 rfl rfl ?_
  refine aw_callS (M' := M_X3_place) 9 73 [.int _, .int _] [.ref _] dX3_staminaAt_6 lk_RX3_73 ms_X3_place mp_X3_place rfl ⟨leb rfl, leb rfl⟩ rfl (leb rfl) (leb rfl) (leb rfl) rfl (am_X3_place hG h) (kkI fun v4 X3 h => ?_) (kxN KrI.no)
  refine aw_widen (cc' := 0) (ss' := 0) (leb rfl) (leb rfl) ?_
  refine aw_callSN (M' := M_X4_at) 12 81 [.ref _, .int _] [] dX3_staminaAt_9 (by decide) ms_X4_at mp_X4_at rfl ⟨leb rfl, leb rfl⟩ rfl (leb rfl) (leb rfl) (leb rfl) rfl (am_X4_at hG h) (kkI fun v6 X5 h => ?_) KrI.no
  refine aw_widen (cc' := 0) (ss' := 0) (leb rfl) (leb rfl) ?_
  exact aw_ireturn (ty := .int) dX3_staminaAt_12 rfl rfl (leb rfl) (leb rfl) ⟨_, rfl, h⟩)
set_option maxRecDepth 20000 in
theorem am_X3_putStamina {G : GG} (hG : G.1.stackTraces = false) {l0 : Nat} {l1 : Int32} {l2 : Int32} {l3 : Int32} {X : XH} {K : XH → Prop} (h : w_X3_putStamina l0 l1 l2 l3 X K) : AM G M_X3_putStamina X [.ref l0, .int l1, .int l2, .int l3] (KrV K) := AM_of (by decide +kernel) rfl (leb rfl) hG (by
  show AW G M_X3_putStamina 0 [(0, .ref l0), (1, .int l1), (2, .int l2), (3, .int l3)] [] X 0 0 _
  unfold w_X3_putStamina at h
  refine aw_aload_n 1 dX3_putStamina_0 rfl 0 rfl rfl ?_
  obtain ⟨g1, h⟩ := h
  obtain ⟨g2, h⟩ := h
  refine aw_getR 4 dX3_putStamina_1 fl_RX3_33 rfl g1 g2 rfl ?_
  refine aw_iload_n 5 dX3_putStamina_4 rfl 1 rfl rfl ?_
  refine aw_iload_n 6 dX3_putStamina_5 rfl 2 rfl rfl ?_
  refine aw_callS (M' := M_X3_place) 9 73 [.int _, .int _] [.ref _] dX3_putStamina_6 lk_RX3_73 ms_X3_place mp_X3_place rfl ⟨leb rfl, leb rfl⟩ rfl (leb rfl) (leb rfl) (leb rfl) rfl (am_X3_place hG h) (kkI fun v4 X3 h => ?_) (kxN KrI.no)
  refine aw_widen (cc' := 0) (ss' := 0) (leb rfl) (leb rfl) ?_
  refine aw_iload_n 10 dX3_putStamina_9 rfl 3 rfl rfl ?_
  refine aw_callSN (M' := M_X4_put) 13 65 [.ref _, .int _, .int _] [] dX3_putStamina_10 (by decide) ms_X4_put mp_X4_put rfl ⟨leb rfl, leb rfl⟩ rfl (leb rfl) (leb rfl) (leb rfl) rfl (am_X4_put hG h) (kkV fun X5 h => ?_) KrV.no
  refine aw_widen (cc' := 0) (ss' := 0) (leb rfl) (leb rfl) ?_
  exact aw_return dX3_putStamina_13 rfl (leb rfl) (leb rfl) ⟨rfl, h⟩)
set_option maxRecDepth 20000 in
theorem am_X4_cast {G : GG} (hG : G.1.stackTraces = false) {l0 : Nat} {l1 : Int32} {l2 : Int32} {l3 : Int32} {X : XH} {K : Int32 → XH → Prop} {KX : String → XH → Prop} (h : w_X4_cast l0 l1 l2 l3 X K KX) : AM G M_X4_cast X [.ref l0, .int l1, .int l2, .int l3] (KxT (KrI K) KX) := AM_of (by decide +kernel) rfl (leb rfl) hG (by
  show AW G M_X4_cast 0 [(0, .ref l0), (1, .int l1), (2, .int l2), (3, .int l3)] [] X 0 0 _
  unfold w_X4_cast at h
  refine aw_iload_n 1 dX4_cast_0 rfl 1 rfl rfl ?_
  refine aw_iload_n 2 dX4_cast_1 rfl 2 rfl rfl ?_
  refine aw_callS (M' := M_X4_checkVoice) 5 150 [.int _, .int _] [] dX4_cast_2 lk_RX4_150 ms_X4_checkVoice mp_X4_checkVoice rfl ⟨leb rfl, leb rfl⟩ rfl (leb rfl) (leb rfl) (leb rfl) rfl (am_X4_checkVoice hG h) (kkT (kkV fun X1 h => ?_)) (kxT KrV.no fun E X h => at_out rfl (leb rfl) (leb rfl) (Or.inr ⟨_, rfl, h⟩))
  refine aw_widen (cc' := 2) (ss' := 12) (leb rfl) (leb rfl) ?_
  refine aw_iload_n 6 dX4_cast_5 rfl 3 rfl rfl ?_
  refine aw_bipush 8 (v := 20) dX4_cast_6 kB_20 rfl ?_
  refine aw_bipush 10 (v := 120) dX4_cast_8 kB_120 rfl ?_
  refine aw_callS (M' := M_X4_checkRange) 13 52 [.int _, .int _, .int _] [] dX4_cast_10 lk_RX4_52 ms_X4_checkRange mp_X4_checkRange rfl ⟨leb rfl, leb rfl⟩ rfl (leb rfl) (leb rfl) (leb rfl) rfl (am_X4_checkRange hG h) (kkT (kkV fun X2 h => ?_)) (kxT KrV.no fun E X h => at_out rfl (leb rfl) (leb rfl) (Or.inr ⟨_, rfl, h⟩))
  refine aw_widen (cc' := 3) (ss' := 18) (leb rfl) (leb rfl) ?_
  refine aw_aload_n 14 dX4_cast_13 rfl 0 rfl rfl ?_
  obtain ⟨g3, h⟩ := h
  obtain ⟨g4, h⟩ := h
  refine aw_getR 17 dX4_cast_14 fl_RX4_10 rfl g3 g4 rfl ?_
  refine aw_iload_n 18 dX4_cast_17 rfl 1 rfl rfl ?_
  refine aw_iload_n 19 dX4_cast_18 rfl 2 rfl rfl ?_
  obtain ⟨g7, h⟩ := h
  refine aw_callV (M' := M_X3_usedBy) 22 153 3 (hR X2 l0 0) [.int _, .int _] [] dX4_cast_19 lk_RX4_153 mv_X3_usedBy mp_X3_usedBy rfl ⟨leb rfl, leb rfl⟩ rfl (ltb rfl) g7 rfl (leb rfl) (leb rfl) (leb rfl) rfl (am_X3_usedBy hG h) (kkI fun v6 X5 h => ?_) (kxN KrI.no)
  refine aw_widen (cc' := 3) (ss' := 18) (leb rfl) (leb rfl) ?_
  refine aw_iload_n 23 dX4_cast_22 rfl 3 rfl rfl ?_
  refine aw_icmp_le 36 26 dX4_cast_23 rfl rfl (fun c8 => ?_) (fun c8 => ?_)
  · replace h := h.1 c8
    refine aw_aload_n 37 dX4_cast_36 rfl 0 rfl rfl ?_
    obtain ⟨g9, h⟩ := h
    obtain ⟨g10, h⟩ := h
    refine aw_getR 40 dX4_cast_37 fl_RX4_19 rfl g9 g10 rfl ?_
    refine aw_aload_n 41 dX4_cast_40 rfl 0 rfl rfl ?_
    obtain ⟨g11, h⟩ := h
    refine aw_getR 44 dX4_cast_41 fl_RX4_10 rfl g9 g11 rfl ?_
    obtain ⟨g13, h⟩ := h
    refine aw_callV (M' := M_X1_push) 47 67 1 (hR X5 l0 1) [.ref _] [] dX4_cast_44 lk_RX4_67 mv_X1_push mp_X1_push rfl ⟨leb rfl, leb rfl⟩ rfl (ltb rfl) g13 rfl (leb rfl) (leb rfl) (leb rfl) rfl (am_X1_push hG h) (kkV fun X12 h => ?_) (kxN KrV.no)
    refine aw_widen (cc' := 3) (ss' := 18) (leb rfl) (leb rfl) ?_
    refine aw_aload_n 48 dX4_cast_47 rfl 0 rfl rfl ?_
    obtain ⟨g14, h⟩ := h
    obtain ⟨g15, h⟩ := h
    refine aw_getR 51 dX4_cast_48 fl_RX4_10 rfl g14 g15 rfl ?_
    refine aw_iload_n 52 dX4_cast_51 rfl 1 rfl rfl ?_
    refine aw_iload_n 53 dX4_cast_52 rfl 2 rfl rfl ?_
    obtain ⟨g18, h⟩ := h
    refine aw_callV (M' := M_X3_staminaAt) 56 158 3 (hR X12 l0 0) [.int _, .int _] [] dX4_cast_53 lk_RX4_158 mv_X3_staminaAt mp_X3_staminaAt rfl ⟨leb rfl, leb rfl⟩ rfl (ltb rfl) g18 rfl (leb rfl) (leb rfl) (leb rfl) rfl (am_X3_staminaAt hG h) (kkI fun v17 X16 h => ?_) (kxN KrI.no)
    refine aw_widen (cc' := 3) (ss' := 18) (leb rfl) (leb rfl) ?_
    refine aw_istore 58 (lv' := [(4, _), (0, _), (1, _), (2, _), (3, _)]) dX4_cast_56 (ltb rfl) rfl rfl ?_
    refine aw_aload_n 59 dX4_cast_58 rfl 1 rfl rfl ?_
    obtain ⟨g19, h⟩ := h
    obtain ⟨g20, h⟩ := h
    refine aw_getR 62 dX4_cast_59 fl_RX4_10 rfl g19 g20 rfl ?_
    refine aw_iload_n 63 dX4_cast_62 rfl 2 rfl rfl ?_
    refine aw_iload_n 64 dX4_cast_63 rfl 3 rfl rfl ?_
    refine aw_iload_n 65 dX4_cast_64 rfl 4 rfl rfl ?_
    obtain ⟨g22, h⟩ := h
    refine aw_callV (M' := M_X3_putStamina) 68 161 3 (hR X16 l0 0) [.int _, .int _, .int _] [] dX4_cast_65 lk_RX4_161 mv_X3_putStamina mp_X3_putStamina rfl ⟨leb rfl, leb rfl⟩ rfl (ltb rfl) g22 rfl (leb rfl) (leb rfl) (leb rfl) rfl (am_X3_putStamina hG h) (kkV fun X21 h => ?_) (kxN KrV.no)
    refine aw_widen (cc' := 3) (ss' := 18) (leb rfl) (leb rfl) ?_
    refine aw_iload 70 dX4_cast_68 0 rfl rfl ?_
    exact aw_ireturn (ty := .int) dX4_cast_70 rfl rfl (leb rfl) (leb rfl) (Or.inl ⟨_, rfl, h⟩)
  · replace h := h.2 c8
    exact aw_throw xcS 60 156 64 rfl th_xcS (by decide) (Or.inl ⟨dX4_cast_26, dX4_cast_29, dX4_cast_30, dX4_cast_32, dX4_cast_35⟩) rfl (ltb rfl) (leb rfl) (leb rfl) (leb rfl) (Or.inr ⟨_, rfl, h⟩))
set_option maxRecDepth 20000 in
theorem am_L_cast {G : GG} (hG : G.1.stackTraces = false) {l0 : Nat} {l1 : Int32} {l2 : Int32} {l3 : Int32} {X : XH} {K : Int32 → XH → Prop} (h : w_L_cast l0 l1 l2 l3 X K) : AM G M_L_cast X [.ref l0, .int l1, .int l2, .int l3] (KrI K) := AM_ofH (by decide +kernel) (0, 7, 8, 15) [(0, 7, 13, 17), (0, 7, 18, 19)] rfl (leb rfl) hG (by
  show AW G M_L_cast 0 [(0, .ref l0), (1, .int l1), (2, .int l2), (3, .int l3)] [] X 0 0 _
  unfold w_L_cast at h
  refine aw_aload_n 1 dL_cast_0 rfl 0 rfl rfl ?_
  refine aw_iload_n 2 dL_cast_1 rfl 1 rfl rfl ?_
  refine aw_iload_n 3 dL_cast_2 rfl 2 rfl rfl ?_
  refine aw_iload_n 4 dL_cast_3 rfl 3 rfl rfl ?_
  obtain ⟨g3, h⟩ := h
  refine aw_callV (M' := M_X4_cast) 7 40 4 l0 [.int _, .int _, .int _] [] dL_cast_4 lk_RL_40 mv_X4_cast mp_X4_cast rfl ⟨leb rfl, leb rfl⟩ rfl (ltb rfl) g3 rfl (leb rfl) (leb rfl) (leb rfl) rfl (am_X4_cast hG h) (kkT (kkI fun v2 X1 h => ?_)) (kxT KrI.no fun E X1 h => ?_)
  · refine aw_widen (cc' := 4) (ss' := 24) (leb rfl) (leb rfl) ?_
    exact aw_ireturn (ty := .int) dL_cast_7 rfl rfl (leb rfl) (leb rfl) ⟨_, rfl, h⟩
  · obtain ⟨hE, h⟩ := h
    rcases hE with rfl | rfl | rfl
    · refine aw_atc (lv' := [(0, .ref _), (1, .int _), (2, .int _), (3, .int _)]) [] (0, 7, 8, 15) [(0, 7, 13, 17), (0, 7, 18, 19)] rfl (fun z hz => nomatch hz) (by decide) (by decide) (tk3 (i := 40) (by decide +kernel) rfl) (by decide) 4 2 10 (Or.inr ⟨dL_cast_8, rfl⟩) (ltb rfl) rfl ?_
      refine aw_widen (cc' := 4) (ss' := 24) (leb rfl) (leb rfl) ?_
      replace h := h.1 rfl
      refine aw_bipush 12 (v := -2) dL_cast_10 kB_m2 rfl ?_
      exact aw_ireturn (ty := .int) dL_cast_12 rfl rfl (leb rfl) (leb rfl) ⟨_, rfl, h⟩
    · refine aw_atc (lv' := [(0, .ref _), (1, .int _), (2, .int _), (3, .int _)]) [(0, 7, 8, 15)] (0, 7, 13, 17) [(0, 7, 18, 19)] rfl (by intro z hz; simp only [List.mem_cons, List.not_mem_nil, or_false] at hz; rcases hz with rfl <;> first | exact ⟨by decide, xcI, tk3 (i := 40) (by decide +kernel) rfl, by decide⟩) (by decide) (by decide) (tk3 (i := 41) (by decide +kernel) rfl) (by decide) 4 2 15 (Or.inr ⟨dL_cast_13, rfl⟩) (ltb rfl) rfl ?_
      refine aw_widen (cc' := 4) (ss' := 24) (leb rfl) (leb rfl) ?_
      replace h := h.2.1 rfl
      refine aw_bipush 17 (v := -3) dL_cast_15 kB_m3 rfl ?_
      exact aw_ireturn (ty := .int) dL_cast_17 rfl rfl (leb rfl) (leb rfl) ⟨_, rfl, h⟩
    · refine aw_atc (lv' := [(0, .ref _), (1, .int _), (2, .int _), (3, .int _)]) [(0, 7, 8, 15), (0, 7, 13, 17)] (0, 7, 18, 19) [] rfl (by intro z hz; simp only [List.mem_cons, List.not_mem_nil, or_false] at hz; rcases hz with rfl | rfl <;> first | exact ⟨by decide, xcI, tk3 (i := 40) (by decide +kernel) rfl, by decide⟩ | exact ⟨by decide, xcA, tk3 (i := 41) (by decide +kernel) rfl, by decide⟩) (by decide) (by decide) (tk3 (i := 42) (by decide +kernel) rfl) (by decide) 4 2 20 (Or.inr ⟨dL_cast_18, rfl⟩) (ltb rfl) rfl ?_
      refine aw_widen (cc' := 4) (ss' := 24) (leb rfl) (leb rfl) ?_
      replace h := h.2.2 rfl
      refine aw_bipush 22 (v := -4) dL_cast_20 kB_m4 rfl ?_
      exact aw_ireturn (ty := .int) dL_cast_22 rfl rfl (leb rfl) (leb rfl) ⟨_, rfl, h⟩)
set_option maxRecDepth 20000 in
theorem aw_X3_beginSession_12 {G : GG} (hG : G.1.stackTraces = false)  {l0 : Nat} {l1 : Int32} {X : XH} {K : XH → Prop}  (h : w_X3_beginSession_12  l0 l1 X K) : AW G M_X3_beginSession 12 [(0, .ref l0), (1, .int l1)] [] X 0 0 (KrV K) :=
  h (fun l0 l1 X => AW G M_X3_beginSession 12 [(0, .ref l0), (1, .int l1)] [] X 0 0 (KrV K)) (fun l0 l1 X h => by
    refine aw_iload_n 13 dX3_beginSession_12 rfl 1 rfl rfl ?_
    refine aw_aload_n 14 dX3_beginSession_13 rfl 0 rfl rfl ?_
    obtain ⟨g1, h⟩ := h
    obtain ⟨g2, h⟩ := h
    refine aw_getR 17 dX3_beginSession_14 fl_RX3_36 rfl g1 g2 rfl ?_
    obtain ⟨g3, h⟩ := h
    refine aw_alen 18 dX3_beginSession_17 g3 rfl ?_
    refine aw_icmp_ge 34 21 dX3_beginSession_18 rfl rfl (fun c4 => ?_) (fun c4 => ?_)
    · replace h := h.1 c4
      exact aw_return dX3_beginSession_34 rfl (leb rfl) (leb rfl) ⟨rfl, h⟩
    · replace h := h.2 c4
      refine aw_aload_n 22 dX3_beginSession_21 rfl 0 rfl rfl ?_
      refine aw_getR 25 dX3_beginSession_22 fl_RX3_36 rfl g1 g2 rfl ?_
      refine aw_iload_n 26 dX3_beginSession_25 rfl 1 rfl rfl ?_
      refine aw_iconst 27 (v := 0) dX3_beginSession_26 kI_0 rfl ?_
      obtain ⟨g5, h⟩ := h
      obtain ⟨g6, h⟩ := h
      refine aw_iastore 28 dX3_beginSession_27 g5 g6 rfl ?_
      refine aw_iinc 31 (v := 1) (lv' := [(1, _), (0, _)]) dX3_beginSession_28 1 rfl kI_1 (ltb rfl) rfl rfl ?_
      refine aw_goto 12 dX3_beginSession_31 rfl ?_
      exact aw_pick [1, 0] rfl h)
set_option maxRecDepth 20000 in
theorem am_X3_beginSession {G : GG} (hG : G.1.stackTraces = false) {l0 : Nat} {X : XH} {K : XH → Prop} (h : w_X3_beginSession l0 X K) : AM G M_X3_beginSession X [.ref l0] (KrV K) := AM_of (by decide +kernel) rfl (leb rfl) hG (by
  show AW G M_X3_beginSession 0 [(0, .ref l0)] [] X 0 0 _
  unfold w_X3_beginSession at h
  refine aw_aload_n 1 dX3_beginSession_0 rfl 0 rfl rfl ?_
  refine aw_dup 2 dX3_beginSession_1 rfl rfl ?_
  obtain ⟨g1, h⟩ := h
  refine aw_getI 5 dX3_beginSession_2 fl_RX3_53 rfl g1 rfl ?_
  refine aw_iconst 6 (v := 1) dX3_beginSession_5 kI_1 rfl ?_
  refine aw_iadd 7 dX3_beginSession_6 rfl ?_
  refine aw_putI 10 dX3_beginSession_7 fl_RX3_53 rfl rfl rfl rfl g1 rfl ?_
  refine aw_iconst 11 (v := 0) dX3_beginSession_10 kI_0 rfl ?_
  refine aw_istore_n 12 (lv' := [(1, _), (0, _)]) dX3_beginSession_11 rfl (ltb rfl) rfl rfl ?_
  exact aw_pick [1, 0] rfl (aw_X3_beginSession_12 hG  h))
set_option maxRecDepth 20000 in
theorem am_X4_nextSession {G : GG} (hG : G.1.stackTraces = false) {l0 : Nat} {X : XH} {K : Int32 → XH → Prop} {KX : String → XH → Prop} (h : w_X4_nextSession l0 X K KX) : AM G M_X4_nextSession X [.ref l0] (KxT (KrI K) KX) := AM_of (by decide +kernel) rfl (leb rfl) hG (by
  show AW G M_X4_nextSession 0 [(0, .ref l0)] [] X 0 0 _
  unfold w_X4_nextSession at h
  refine aw_aload_n 1 dX4_nextSession_0 rfl 0 rfl rfl ?_
  obtain ⟨g1, h⟩ := h
  obtain ⟨g2, h⟩ := h
  refine aw_getR 4 dX4_nextSession_1 fl_RX4_10 rfl g1 g2 rfl ?_
  obtain ⟨g3, h⟩ := h
  refine aw_getI 7 dX4_nextSession_4 fl_RX4_187 rfl g3 rfl ?_
  refine aw_sipush 10 (v := 999) dX4_nextSession_7 kS_999 rfl ?_
  refine aw_icmp_lt 23 13 dX4_nextSession_10 rfl rfl (fun c4 => ?_) (fun c4 => ?_)
  · replace h := h.1 c4
    refine aw_aload_n 24 dX4_nextSession_23 rfl 0 rfl rfl ?_
    obtain ⟨g5, h⟩ := h
    refine aw_getR 27 dX4_nextSession_24 fl_RX4_19 rfl g1 g5 rfl ?_
    refine aw_aload_n 28 dX4_nextSession_27 rfl 0 rfl rfl ?_
    refine aw_getR 31 dX4_nextSession_28 fl_RX4_10 rfl g1 g2 rfl ?_
    obtain ⟨g7, h⟩ := h
    refine aw_callV (M' := M_X1_push) 34 67 1 (hR X l0 1) [.ref _] [] dX4_nextSession_31 lk_RX4_67 mv_X1_push mp_X1_push rfl ⟨leb rfl, leb rfl⟩ rfl (ltb rfl) g7 rfl (leb rfl) (leb rfl) (leb rfl) rfl (am_X1_push hG h) (kkV fun X6 h => ?_) (kxN KrV.no)
    refine aw_widen (cc' := 0) (ss' := 0) (leb rfl) (leb rfl) ?_
    refine aw_aload_n 35 dX4_nextSession_34 rfl 0 rfl rfl ?_
    obtain ⟨g8, h⟩ := h
    obtain ⟨g9, h⟩ := h
    refine aw_getR 38 dX4_nextSession_35 fl_RX4_10 rfl g8 g9 rfl ?_
    obtain ⟨g11, h⟩ := h
    refine aw_callV (M' := M_X3_beginSession) 41 192 3 (hR X6 l0 0) [] [] dX4_nextSession_38 lk_RX4_192 mv_X3_beginSession mp_X3_beginSession rfl ⟨leb rfl, leb rfl⟩ rfl (ltb rfl) g11 rfl (leb rfl) (leb rfl) (leb rfl) rfl (am_X3_beginSession hG h) (kkV fun X10 h => ?_) (kxN KrV.no)
    refine aw_widen (cc' := 0) (ss' := 0) (leb rfl) (leb rfl) ?_
    refine aw_aload_n 42 dX4_nextSession_41 rfl 0 rfl rfl ?_
    obtain ⟨g12, h⟩ := h
    obtain ⟨g13, h⟩ := h
    refine aw_getR 45 dX4_nextSession_42 fl_RX4_10 rfl g12 g13 rfl ?_
    obtain ⟨g14, h⟩ := h
    refine aw_getI 48 dX4_nextSession_45 fl_RX4_187 rfl g14 rfl ?_
    exact aw_ireturn (ty := .int) dX4_nextSession_48 rfl rfl (leb rfl) (leb rfl) (Or.inl ⟨_, rfl, h⟩)
  · replace h := h.2 c4
    exact aw_throw xcS 60 190 64 rfl th_xcS (by decide) (Or.inl ⟨dX4_nextSession_13, dX4_nextSession_16, dX4_nextSession_17, dX4_nextSession_19, dX4_nextSession_22⟩) rfl (ltb rfl) (leb rfl) (leb rfl) (leb rfl) (Or.inr ⟨_, rfl, h⟩))
set_option maxRecDepth 20000 in
theorem am_L_nextSession {G : GG} (hG : G.1.stackTraces = false) {l0 : Nat} {X : XH} {K : Int32 → XH → Prop} (h : w_L_nextSession l0 X K) : AM G M_L_nextSession X [.ref l0] (KrI K) := AM_ofH (by decide +kernel) (0, 4, 5, 19) [] rfl (leb rfl) hG (by
  show AW G M_L_nextSession 0 [(0, .ref l0)] [] X 0 0 _
  unfold w_L_nextSession at h
  refine aw_aload_n 1 dL_nextSession_0 rfl 0 rfl rfl ?_
  obtain ⟨g3, h⟩ := h
  refine aw_callV (M' := M_X4_nextSession) 4 49 4 l0 [] [] dL_nextSession_1 lk_RL_49 mv_X4_nextSession mp_X4_nextSession rfl ⟨leb rfl, leb rfl⟩ rfl (ltb rfl) g3 rfl (leb rfl) (leb rfl) (leb rfl) rfl (am_X4_nextSession hG h) (kkT (kkI fun v2 X1 h => ?_)) (kxT KrI.no fun E X1 h => ?_)
  · refine aw_widen (cc' := 1) (ss' := 6) (leb rfl) (leb rfl) ?_
    exact aw_ireturn (ty := .int) dL_nextSession_4 rfl rfl (leb rfl) (leb rfl) ⟨_, rfl, h⟩
  · obtain ⟨hE, h⟩ := h
    rcases hE with rfl
    refine aw_atc (lv' := [(0, .ref _)]) [] (0, 4, 5, 19) [] rfl (fun z hz => nomatch hz) (by decide) (by decide) (tk3 (i := 42) (by decide +kernel) rfl) (by decide) 1 1 6 (Or.inl ⟨1, rfl, dL_nextSession_5, rfl⟩) (ltb rfl) rfl ?_
    refine aw_widen (cc' := 1) (ss' := 6) (leb rfl) (leb rfl) ?_
    replace h := h rfl
    refine aw_bipush 8 (v := -4) dL_nextSession_6 kB_m4 rfl ?_
    exact aw_ireturn (ty := .int) dL_nextSession_8 rfl rfl (leb rfl) (leb rfl) ⟨_, rfl, h⟩)
set_option maxRecDepth 20000 in
theorem am_X4_checkTaken {G : GG} (hG : G.1.stackTraces = false) {l0 : Nat} {l1 : Int32} {l2 : Int32} {X : XH} {K : XH → Prop} {KX : String → XH → Prop} (h : w_X4_checkTaken l0 l1 l2 X K KX) : AM G M_X4_checkTaken X [.ref l0, .int l1, .int l2] (KxT (KrV K) KX) := AM_of (by decide +kernel) rfl (leb rfl) hG (by
  show AW G M_X4_checkTaken 0 [(0, .ref l0), (1, .int l1), (2, .int l2)] [] X 0 0 _
  unfold w_X4_checkTaken at h
  refine aw_aload_n 1 dX4_checkTaken_0 rfl 0 rfl rfl ?_
  obtain ⟨g1, h⟩ := h
  obtain ⟨g2, h⟩ := h
  refine aw_getR 4 dX4_checkTaken_1 fl_RX4_10 rfl g1 g2 rfl ?_
  refine aw_iload_n 5 dX4_checkTaken_4 rfl 1 rfl rfl ?_
  refine aw_iload_n 6 dX4_checkTaken_5 rfl 2 rfl rfl ?_
  obtain ⟨g5, h⟩ := h
  refine aw_callV (M' := M_X3_isTaken) 9 119 3 (hR X l0 0) [.int _, .int _] [] dX4_checkTaken_6 lk_RX4_119 mv_X3_isTaken mp_X3_isTaken rfl ⟨leb rfl, leb rfl⟩ rfl (ltb rfl) g5 rfl (leb rfl) (leb rfl) (leb rfl) rfl (am_X3_isTaken hG h) (kkI fun v4 X3 h => ?_) (kxN KrI.no)
  refine aw_widen (cc' := 0) (ss' := 0) (leb rfl) (leb rfl) ?_
  refine aw_if_ne 23 12 dX4_checkTaken_9 rfl rfl (fun c6 => ?_) (fun c6 => ?_)
  · replace h := h.1 c6
    exact aw_return dX4_checkTaken_23 rfl (leb rfl) (leb rfl) (Or.inl ⟨rfl, h⟩)
  · replace h := h.2 c6
    exact aw_throw xcS 60 436 64 rfl th_xcS (by decide) (Or.inr ⟨dX4_checkTaken_12, dX4_checkTaken_15, dX4_checkTaken_16, dX4_checkTaken_19, dX4_checkTaken_22⟩) rfl (ltb rfl) (leb rfl) (leb rfl) (leb rfl) (Or.inr ⟨_, rfl, h⟩))
set_option maxRecDepth 20000 in
theorem am_X3_takenIn {G : GG} (hG : G.1.stackTraces = false) {l0 : Nat} {l1 : Int32} {l2 : Int32} {X : XH} {K : Int32 → XH → Prop} (h : w_X3_takenIn l0 l1 l2 X K) : AM G M_X3_takenIn X [.ref l0, .int l1, .int l2] (KrI K) := AM_of (by decide +kernel) rfl (leb rfl) hG (by
  show AW G M_X3_takenIn 0 [(0, .ref l0), (1, .int l1), (2, .int l2)] [] X 0 0 _
  unfold w_X3_takenIn at h
  refine aw_aload_n 1 dX3_takenIn_0 rfl 0 rfl rfl ?_
  obtain ⟨g1, h⟩ := h
  obtain ⟨g2, h⟩ := h
  refine aw_getR 4 dX3_takenIn_1 fl_RX3_30 rfl g1 g2 rfl ?_
  refine aw_iload_n 5 dX3_takenIn_4 rfl 1 rfl rfl ?_
  refine aw_iload_n 6 dX3_takenIn_5 rfl 2 rfl rfl ?_
  refine aw_callS (M' := M_X3_place) 9 73 [.int _, .int _] [.ref _] dX3_takenIn_6 lk_RX3_73 ms_X3_place mp_X3_place rfl ⟨leb rfl, leb rfl⟩ rfl (leb rfl) (leb rfl) (leb rfl) rfl (am_X3_place hG h) (kkI fun v4 X3 h => ?_) (kxN KrI.no)
  refine aw_widen (cc' := 0) (ss' := 0) (leb rfl) (leb rfl) ?_
  refine aw_callSN (M' := M_X4_at) 12 81 [.ref _, .int _] [] dX3_takenIn_9 (by decide) ms_X4_at mp_X4_at rfl ⟨leb rfl, leb rfl⟩ rfl (leb rfl) (leb rfl) (leb rfl) rfl (am_X4_at hG h) (kkI fun v6 X5 h => ?_) KrI.no
  refine aw_widen (cc' := 0) (ss' := 0) (leb rfl) (leb rfl) ?_
  refine aw_iconst 13 (v := 1) dX3_takenIn_12 kI_1 rfl ?_
  refine aw_isub 14 dX3_takenIn_13 rfl ?_
  exact aw_ireturn (ty := .int) dX3_takenIn_14 rfl rfl (leb rfl) (leb rfl) ⟨_, rfl, h⟩)
set_option maxRecDepth 20000 in
theorem am_X3_dropTaken {G : GG} (hG : G.1.stackTraces = false) {l0 : Nat} {l1 : Int32} {l2 : Int32} {X : XH} {K : XH → Prop} (h : w_X3_dropTaken l0 l1 l2 X K) : AM G M_X3_dropTaken X [.ref l0, .int l1, .int l2] (KrV K) := AM_of (by decide +kernel) rfl (leb rfl) hG (by
  show AW G M_X3_dropTaken 0 [(0, .ref l0), (1, .int l1), (2, .int l2)] [] X 0 0 _
  unfold w_X3_dropTaken at h
  refine aw_aload_n 1 dX3_dropTaken_0 rfl 0 rfl rfl ?_
  obtain ⟨g1, h⟩ := h
  obtain ⟨g2, h⟩ := h
  refine aw_getR 4 dX3_dropTaken_1 fl_RX3_30 rfl g1 g2 rfl ?_
  refine aw_iload_n 5 dX3_dropTaken_4 rfl 1 rfl rfl ?_
  refine aw_iload_n 6 dX3_dropTaken_5 rfl 2 rfl rfl ?_
  refine aw_callS (M' := M_X3_place) 9 73 [.int _, .int _] [.ref _] dX3_dropTaken_6 lk_RX3_73 ms_X3_place mp_X3_place rfl ⟨leb rfl, leb rfl⟩ rfl (leb rfl) (leb rfl) (leb rfl) rfl (am_X3_place hG h) (kkI fun v4 X3 h => ?_) (kxN KrI.no)
  refine aw_widen (cc' := 0) (ss' := 0) (leb rfl) (leb rfl) ?_
  refine aw_iconst 10 (v := 0) dX3_dropTaken_9 kI_0 rfl ?_
  refine aw_callSN (M' := M_X4_put) 13 65 [.ref _, .int _, .int _] [] dX3_dropTaken_10 (by decide) ms_X4_put mp_X4_put rfl ⟨leb rfl, leb rfl⟩ rfl (leb rfl) (leb rfl) (leb rfl) rfl (am_X4_put hG h) (kkV fun X5 h => ?_) KrV.no
  refine aw_widen (cc' := 0) (ss' := 0) (leb rfl) (leb rfl) ?_
  refine aw_aload_n 14 dX3_dropTaken_13 rfl 0 rfl rfl ?_
  refine aw_dup 15 dX3_dropTaken_14 rfl rfl ?_
  obtain ⟨g6, h⟩ := h
  refine aw_getI 18 dX3_dropTaken_15 fl_RX3_59 rfl g6 rfl ?_
  refine aw_iconst 19 (v := 1) dX3_dropTaken_18 kI_1 rfl ?_
  refine aw_iadd 20 dX3_dropTaken_19 rfl ?_
  refine aw_putI 23 dX3_dropTaken_20 fl_RX3_59 rfl rfl rfl rfl g6 rfl ?_
  refine aw_aload_n 24 dX3_dropTaken_23 rfl 0 rfl rfl ?_
  refine aw_aload_n 25 dX3_dropTaken_24 rfl 0 rfl rfl ?_
  refine aw_iload_n 26 dX3_dropTaken_25 rfl 1 rfl rfl ?_
  refine aw_callV (M' := M_X3_reelAt) 29 88 3 l0 [.int _] [.ref _] dX3_dropTaken_26 lk_RX3_88 mv_X3_reelAt mp_X3_reelAt rfl ⟨leb rfl, leb rfl⟩ rfl (ltb rfl) g6 rfl (leb rfl) (leb rfl) (leb rfl) rfl (am_X3_reelAt hG h) (kkI fun v8 X7 h => ?_) (kxN KrI.no)
  refine aw_widen (cc' := 0) (ss' := 0) (leb rfl) (leb rfl) ?_
  refine aw_iload_n 30 dX3_dropTaken_29 rfl 2 rfl rfl ?_
  obtain ⟨g10, h⟩ := h
  refine aw_callV (M' := M_X3_unmix) 33 91 3 l0 [.int _, .int _] [] dX3_dropTaken_30 lk_RX3_91 mv_X3_unmix mp_X3_unmix rfl ⟨leb rfl, leb rfl⟩ rfl (ltb rfl) g10 rfl (leb rfl) (leb rfl) (leb rfl) rfl (am_X3_unmix hG h) (kkV fun X9 h => ?_) (kxN KrV.no)
  refine aw_widen (cc' := 0) (ss' := 0) (leb rfl) (leb rfl) ?_
  exact aw_return dX3_dropTaken_33 rfl (leb rfl) (leb rfl) ⟨rfl, h⟩)
set_option maxRecDepth 20000 in
theorem am_X4_wipe {G : GG} (hG : G.1.stackTraces = false) {l0 : Nat} {l1 : Int32} {l2 : Int32} {X : XH} {K : Int32 → XH → Prop} {KX : String → XH → Prop} (h : w_X4_wipe l0 l1 l2 X K KX) : AM G M_X4_wipe X [.ref l0, .int l1, .int l2] (KxT (KrI K) KX) := AM_of (by decide +kernel) rfl (leb rfl) hG (by
  show AW G M_X4_wipe 0 [(0, .ref l0), (1, .int l1), (2, .int l2)] [] X 0 0 _
  unfold w_X4_wipe at h
  refine aw_aload_n 1 dX4_wipe_0 rfl 0 rfl rfl ?_
  refine aw_iload_n 2 dX4_wipe_1 rfl 1 rfl rfl ?_
  refine aw_iload_n 3 dX4_wipe_2 rfl 2 rfl rfl ?_
  obtain ⟨g2, h⟩ := h
  refine aw_callV (M' := M_X4_checkTranslation) 6 115 4 l0 [.int _, .int _] [] dX4_wipe_3 lk_RX4_115 mv_X4_checkTranslation mp_X4_checkTranslation rfl ⟨leb rfl, leb rfl⟩ rfl (ltb rfl) g2 rfl (leb rfl) (leb rfl) (leb rfl) rfl (am_X4_checkTranslation hG h) (kkT (kkV fun X1 h => ?_)) (kxT KrV.no fun E X h => at_out rfl (leb rfl) (leb rfl) (Or.inr ⟨_, rfl, h⟩))
  refine aw_widen (cc' := 2) (ss' := 12) (leb rfl) (leb rfl) ?_
  refine aw_aload_n 7 dX4_wipe_6 rfl 0 rfl rfl ?_
  refine aw_iload_n 8 dX4_wipe_7 rfl 1 rfl rfl ?_
  refine aw_iload_n 9 dX4_wipe_8 rfl 2 rfl rfl ?_
  obtain ⟨g4, h⟩ := h
  refine aw_callV (M' := M_X4_checkTaken) 12 178 4 l0 [.int _, .int _] [] dX4_wipe_9 lk_RX4_178 mv_X4_checkTaken mp_X4_checkTaken rfl ⟨leb rfl, leb rfl⟩ rfl (ltb rfl) g4 rfl (leb rfl) (leb rfl) (leb rfl) rfl (am_X4_checkTaken hG h) (kkT (kkV fun X3 h => ?_)) (kxT KrV.no fun E X h => at_out rfl (leb rfl) (leb rfl) (Or.inr ⟨_, rfl, h⟩))
  refine aw_widen (cc' := 3) (ss' := 18) (leb rfl) (leb rfl) ?_
  refine aw_aload_n 13 dX4_wipe_12 rfl 0 rfl rfl ?_
  obtain ⟨g5, h⟩ := h
  obtain ⟨g6, h⟩ := h
  refine aw_getR 16 dX4_wipe_13 fl_RX4_19 rfl g5 g6 rfl ?_
  refine aw_aload_n 17 dX4_wipe_16 rfl 0 rfl rfl ?_
  obtain ⟨g7, h⟩ := h
  refine aw_getR 20 dX4_wipe_17 fl_RX4_10 rfl g5 g7 rfl ?_
  obtain ⟨g9, h⟩ := h
  refine aw_callV (M' := M_X1_push) 23 67 1 (hR X3 l0 1) [.ref _] [] dX4_wipe_20 lk_RX4_67 mv_X1_push mp_X1_push rfl ⟨leb rfl, leb rfl⟩ rfl (ltb rfl) g9 rfl (leb rfl) (leb rfl) (leb rfl) rfl (am_X1_push hG h) (kkV fun X8 h => ?_) (kxN KrV.no)
  refine aw_widen (cc' := 3) (ss' := 18) (leb rfl) (leb rfl) ?_
  refine aw_aload_n 24 dX4_wipe_23 rfl 0 rfl rfl ?_
  obtain ⟨g10, h⟩ := h
  obtain ⟨g11, h⟩ := h
  refine aw_getR 27 dX4_wipe_24 fl_RX4_10 rfl g10 g11 rfl ?_
  refine aw_iload_n 28 dX4_wipe_27 rfl 1 rfl rfl ?_
  refine aw_iload_n 29 dX4_wipe_28 rfl 2 rfl rfl ?_
  obtain ⟨g14, h⟩ := h
  refine aw_callV (M' := M_X3_takenIn) 32 181 3 (hR X8 l0 0) [.int _, .int _] [] dX4_wipe_29 lk_RX4_181 mv_X3_takenIn mp_X3_takenIn rfl ⟨leb rfl, leb rfl⟩ rfl (ltb rfl) g14 rfl (leb rfl) (leb rfl) (leb rfl) rfl (am_X3_takenIn hG h) (kkI fun v13 X12 h => ?_) (kxN KrI.no)
  refine aw_widen (cc' := 3) (ss' := 18) (leb rfl) (leb rfl) ?_
  refine aw_istore_n 33 (lv' := [(3, _), (0, _), (1, _), (2, _)]) dX4_wipe_32 rfl (ltb rfl) rfl rfl ?_
  refine aw_aload_n 34 dX4_wipe_33 rfl 1 rfl rfl ?_
  obtain ⟨g15, h⟩ := h
  obtain ⟨g16, h⟩ := h
  refine aw_getR 37 dX4_wipe_34 fl_RX4_10 rfl g15 g16 rfl ?_
  refine aw_iload_n 38 dX4_wipe_37 rfl 2 rfl rfl ?_
  refine aw_iload_n 39 dX4_wipe_38 rfl 3 rfl rfl ?_
  obtain ⟨g18, h⟩ := h
  refine aw_callV (M' := M_X3_dropTaken) 42 184 3 (hR X12 l0 0) [.int _, .int _] [] dX4_wipe_39 lk_RX4_184 mv_X3_dropTaken mp_X3_dropTaken rfl ⟨leb rfl, leb rfl⟩ rfl (ltb rfl) g18 rfl (leb rfl) (leb rfl) (leb rfl) rfl (am_X3_dropTaken hG h) (kkV fun X17 h => ?_) (kxN KrV.no)
  refine aw_widen (cc' := 3) (ss' := 18) (leb rfl) (leb rfl) ?_
  refine aw_iload_n 43 dX4_wipe_42 rfl 0 rfl rfl ?_
  exact aw_ireturn (ty := .int) dX4_wipe_43 rfl rfl (leb rfl) (leb rfl) (Or.inl ⟨_, rfl, h⟩))
set_option maxRecDepth 20000 in
theorem am_L_wipe {G : GG} (hG : G.1.stackTraces = false) {l0 : Nat} {l1 : Int32} {l2 : Int32} {X : XH} {K : Int32 → XH → Prop} (h : w_L_wipe l0 l1 l2 X K) : AM G M_L_wipe X [.ref l0, .int l1, .int l2] (KrI K) := AM_ofH (by decide +kernel) (0, 6, 7, 15) [(0, 6, 11, 19)] rfl (leb rfl) hG (by
  show AW G M_L_wipe 0 [(0, .ref l0), (1, .int l1), (2, .int l2)] [] X 0 0 _
  unfold w_L_wipe at h
  refine aw_aload_n 1 dL_wipe_0 rfl 0 rfl rfl ?_
  refine aw_iload_n 2 dL_wipe_1 rfl 1 rfl rfl ?_
  refine aw_iload_n 3 dL_wipe_2 rfl 2 rfl rfl ?_
  obtain ⟨g3, h⟩ := h
  refine aw_callV (M' := M_X4_wipe) 6 46 4 l0 [.int _, .int _] [] dL_wipe_3 lk_RL_46 mv_X4_wipe mp_X4_wipe rfl ⟨leb rfl, leb rfl⟩ rfl (ltb rfl) g3 rfl (leb rfl) (leb rfl) (leb rfl) rfl (am_X4_wipe hG h) (kkT (kkI fun v2 X1 h => ?_)) (kxT KrI.no fun E X1 h => ?_)
  · refine aw_widen (cc' := 3) (ss' := 18) (leb rfl) (leb rfl) ?_
    exact aw_ireturn (ty := .int) dL_wipe_6 rfl rfl (leb rfl) (leb rfl) ⟨_, rfl, h⟩
  · obtain ⟨hE, h⟩ := h
    rcases hE with rfl | rfl
    · refine aw_atc (lv' := [(0, .ref _), (1, .int _), (2, .int _)]) [] (0, 6, 7, 15) [(0, 6, 11, 19)] rfl (fun z hz => nomatch hz) (by decide) (by decide) (tk3 (i := 40) (by decide +kernel) rfl) (by decide) 3 1 8 (Or.inl ⟨3, rfl, dL_wipe_7, rfl⟩) (ltb rfl) rfl ?_
      refine aw_widen (cc' := 3) (ss' := 18) (leb rfl) (leb rfl) ?_
      replace h := h.1 rfl
      refine aw_bipush 10 (v := -2) dL_wipe_8 kB_m2 rfl ?_
      exact aw_ireturn (ty := .int) dL_wipe_10 rfl rfl (leb rfl) (leb rfl) ⟨_, rfl, h⟩
    · refine aw_atc (lv' := [(0, .ref _), (1, .int _), (2, .int _)]) [(0, 6, 7, 15)] (0, 6, 11, 19) [] rfl (by intro z hz; simp only [List.mem_cons, List.not_mem_nil, or_false] at hz; rcases hz with rfl <;> first | exact ⟨by decide, xcI, tk3 (i := 40) (by decide +kernel) rfl, by decide⟩) (by decide) (by decide) (tk3 (i := 42) (by decide +kernel) rfl) (by decide) 3 1 12 (Or.inl ⟨3, rfl, dL_wipe_11, rfl⟩) (ltb rfl) rfl ?_
      refine aw_widen (cc' := 3) (ss' := 18) (leb rfl) (leb rfl) ?_
      replace h := h.2 rfl
      refine aw_bipush 14 (v := -4) dL_wipe_12 kB_m4 rfl ?_
      exact aw_ireturn (ty := .int) dL_wipe_14 rfl rfl (leb rfl) (leb rfl) ⟨_, rfl, h⟩)
set_option maxRecDepth 20000 in
theorem am_X3_hasMix {G : GG} (hG : G.1.stackTraces = false) {l0 : Nat} {l1 : Int32} {l2 : Int32} {X : XH} {K : Int32 → XH → Prop} (h : w_X3_hasMix l0 l1 l2 X K) : AM G M_X3_hasMix X [.ref l0, .int l1, .int l2] (KrI K) := AM_of (by decide +kernel) rfl (leb rfl) hG (by
  show AW G M_X3_hasMix 0 [(0, .ref l0), (1, .int l1), (2, .int l2)] [] X 0 0 _
  unfold w_X3_hasMix at h
  refine aw_aload_n 1 dX3_hasMix_0 rfl 0 rfl rfl ?_
  obtain ⟨g1, h⟩ := h
  obtain ⟨g2, h⟩ := h
  refine aw_getR 4 dX3_hasMix_1 fl_RX3_39 rfl g1 g2 rfl ?_
  refine aw_iload_n 5 dX3_hasMix_4 rfl 1 rfl rfl ?_
  refine aw_iload_n 6 dX3_hasMix_5 rfl 2 rfl rfl ?_
  refine aw_callS (M' := M_X3_place) 9 73 [.int _, .int _] [.ref _] dX3_hasMix_6 lk_RX3_73 ms_X3_place mp_X3_place rfl ⟨leb rfl, leb rfl⟩ rfl (leb rfl) (leb rfl) (leb rfl) rfl (am_X3_place hG h) (kkI fun v4 X3 h => ?_) (kxN KrI.no)
  refine aw_widen (cc' := 0) (ss' := 0) (leb rfl) (leb rfl) ?_
  refine aw_callSN (M' := M_X4_at) 12 81 [.ref _, .int _] [] dX3_hasMix_9 (by decide) ms_X4_at mp_X4_at rfl ⟨leb rfl, leb rfl⟩ rfl (leb rfl) (leb rfl) (leb rfl) rfl (am_X4_at hG h) (kkI fun v6 X5 h => ?_) KrI.no
  refine aw_widen (cc' := 0) (ss' := 0) (leb rfl) (leb rfl) ?_
  refine aw_iconst 13 (v := 1) dX3_hasMix_12 kI_1 rfl ?_
  refine aw_icmp_ne 20 16 dX3_hasMix_13 rfl rfl (fun c7 => ?_) (fun c7 => ?_)
  · replace h := h.1 c7
    refine aw_iconst 21 (v := 0) dX3_hasMix_20 kI_0 rfl ?_
    exact aw_ireturn (ty := .boolean) dX3_hasMix_21 rfl rfl (leb rfl) (leb rfl) ⟨_, rfl, h⟩
  · replace h := h.2 c7
    refine aw_iconst 17 (v := 1) dX3_hasMix_16 kI_1 rfl ?_
    refine aw_goto 21 dX3_hasMix_17 rfl ?_
    exact aw_ireturn (ty := .boolean) dX3_hasMix_21 rfl rfl (leb rfl) (leb rfl) ⟨_, rfl, h⟩)
set_option maxRecDepth 20000 in
theorem aw_X3_clausesOn_4 {G : GG} (hG : G.1.stackTraces = false)  {l0 : Nat} {l1 : Int32} {l2 : Int32} {l3 : Int32} {X : XH} {K : Int32 → XH → Prop}  (h : w_X3_clausesOn_4  l0 l1 l2 l3 X K) : AW G M_X3_clausesOn 4 [(0, .ref l0), (1, .int l1), (2, .int l2), (3, .int l3)] [] X 0 0 (KrI K) :=
  h (fun l0 l1 l2 l3 X => AW G M_X3_clausesOn 4 [(0, .ref l0), (1, .int l1), (2, .int l2), (3, .int l3)] [] X 0 0 (KrI K)) (fun l0 l1 l2 l3 X h => by
    refine aw_iload_n 5 dX3_clausesOn_4 rfl 3 rfl rfl ?_
    refine aw_aload_n 6 dX3_clausesOn_5 rfl 0 rfl rfl ?_
    obtain ⟨g1, h⟩ := h
    refine aw_getI 9 dX3_clausesOn_6 fl_RX3_45 rfl g1 rfl ?_
    refine aw_icmp_ge 30 12 dX3_clausesOn_9 rfl rfl (fun c2 => ?_) (fun c2 => ?_)
    · replace h := h.1 c2
      refine aw_iload_n 31 dX3_clausesOn_30 rfl 2 rfl rfl ?_
      exact aw_ireturn (ty := .int) dX3_clausesOn_31 rfl rfl (leb rfl) (leb rfl) ⟨_, rfl, h⟩
    · replace h := h.2 c2
      refine aw_aload_n 13 dX3_clausesOn_12 rfl 0 rfl rfl ?_
      refine aw_iload_n 14 dX3_clausesOn_13 rfl 3 rfl rfl ?_
      refine aw_callV (M' := M_X3_reelAt) 17 88 3 l0 [.int _] [] dX3_clausesOn_14 lk_RX3_88 mv_X3_reelAt mp_X3_reelAt rfl ⟨leb rfl, leb rfl⟩ rfl (ltb rfl) g1 rfl (leb rfl) (leb rfl) (leb rfl) rfl (am_X3_reelAt hG h) (kkI fun v4 X3 h => ?_) (kxN KrI.no)
      refine aw_widen (cc' := 0) (ss' := 0) (leb rfl) (leb rfl) ?_
      refine aw_iload_n 18 dX3_clausesOn_17 rfl 1 rfl rfl ?_
      refine aw_icmp_ne 24 21 dX3_clausesOn_18 rfl rfl (fun c5 => ?_) (fun c5 => ?_)
      · replace h := h.1 c5
        refine aw_iinc 27 (v := 1) (lv' := [(3, _), (0, _), (1, _), (2, _)]) dX3_clausesOn_24 3 rfl kI_1 (ltb rfl) rfl rfl ?_
        refine aw_goto 4 dX3_clausesOn_27 rfl ?_
        exact aw_pick [1, 2, 3, 0] rfl h
      · replace h := h.2 c5
        refine aw_iinc 24 (v := 1) (lv' := [(2, _), (0, _), (1, _), (3, _)]) dX3_clausesOn_21 2 rfl kI_1 (ltb rfl) rfl rfl ?_
        refine aw_iinc 27 (v := 1) (lv' := [(3, _), (2, _), (0, _), (1, _)]) dX3_clausesOn_24 3 rfl kI_1 (ltb rfl) rfl rfl ?_
        refine aw_goto 4 dX3_clausesOn_27 rfl ?_
        exact aw_pick [2, 3, 1, 0] rfl h)
set_option maxRecDepth 20000 in
theorem am_X3_clausesOn {G : GG} (hG : G.1.stackTraces = false) {l0 : Nat} {l1 : Int32} {X : XH} {K : Int32 → XH → Prop} (h : w_X3_clausesOn l0 l1 X K) : AM G M_X3_clausesOn X [.ref l0, .int l1] (KrI K) := AM_of (by decide +kernel) rfl (leb rfl) hG (by
  show AW G M_X3_clausesOn 0 [(0, .ref l0), (1, .int l1)] [] X 0 0 _
  unfold w_X3_clausesOn at h
  refine aw_iconst 1 (v := 0) dX3_clausesOn_0 kI_0 rfl ?_
  refine aw_istore_n 2 (lv' := [(2, _), (0, _), (1, _)]) dX3_clausesOn_1 rfl (ltb rfl) rfl rfl ?_
  refine aw_iconst 3 (v := 0) dX3_clausesOn_2 kI_0 rfl ?_
  refine aw_istore_n 4 (lv' := [(3, _), (2, _), (0, _), (1, _)]) dX3_clausesOn_3 rfl (ltb rfl) rfl rfl ?_
  exact aw_pick [2, 3, 1, 0] rfl (aw_X3_clausesOn_4 hG  h))
set_option maxRecDepth 20000 in
theorem aw_X3_isWholeReel_2 {G : GG} (hG : G.1.stackTraces = false)  {l0 : Nat} {l1 : Int32} {l2 : Int32} {l3 : Int32} {X : XH} {K : Int32 → XH → Prop}  (h : w_X3_isWholeReel_2  l0 l1 l2 l3 X K) : AW G M_X3_isWholeReel 2 [(0, .ref l0), (1, .int l1), (2, .int l2), (3, .int l3)] [] X 0 0 (KrI K) :=
  h (fun l0 l1 l2 l3 X => AW G M_X3_isWholeReel 2 [(0, .ref l0), (1, .int l1), (2, .int l2), (3, .int l3)] [] X 0 0 (KrI K)) (fun l0 l1 l2 l3 X h => by
    refine aw_iload_n 3 dX3_isWholeReel_2 rfl 3 rfl rfl ?_
    refine aw_aload_n 4 dX3_isWholeReel_3 rfl 0 rfl rfl ?_
    obtain ⟨g1, h⟩ := h
    refine aw_getI 7 dX3_isWholeReel_4 fl_RX3_45 rfl g1 rfl ?_
    refine aw_icmp_ge 36 10 dX3_isWholeReel_7 rfl rfl (fun c2 => ?_) (fun c2 => ?_)
    · replace h := h.1 c2
      refine aw_aload_n 37 dX3_isWholeReel_36 rfl 0 rfl rfl ?_
      refine aw_iload_n 38 dX3_isWholeReel_37 rfl 1 rfl rfl ?_
      refine aw_callV (M' := M_X3_clausesOn) 41 148 3 l0 [.int _] [] dX3_isWholeReel_38 lk_RX3_148 mv_X3_clausesOn mp_X3_clausesOn rfl ⟨leb rfl, leb rfl⟩ rfl (ltb rfl) g1 rfl (leb rfl) (leb rfl) (leb rfl) rfl (am_X3_clausesOn hG h) (kkI fun v4 X3 h => ?_) (kxN KrI.no)
      refine aw_widen (cc' := 0) (ss' := 0) (leb rfl) (leb rfl) ?_
      refine aw_if_le 48 44 dX3_isWholeReel_41 rfl rfl (fun c5 => ?_) (fun c5 => ?_)
      · replace h := h.1 c5
        refine aw_iconst 49 (v := 0) dX3_isWholeReel_48 kI_0 rfl ?_
        exact aw_ireturn (ty := .boolean) dX3_isWholeReel_49 rfl rfl (leb rfl) (leb rfl) ⟨_, rfl, h⟩
      · replace h := h.2 c5
        refine aw_iconst 45 (v := 1) dX3_isWholeReel_44 kI_1 rfl ?_
        refine aw_goto 49 dX3_isWholeReel_45 rfl ?_
        exact aw_ireturn (ty := .boolean) dX3_isWholeReel_49 rfl rfl (leb rfl) (leb rfl) ⟨_, rfl, h⟩
    · replace h := h.2 c2
      refine aw_aload_n 11 dX3_isWholeReel_10 rfl 0 rfl rfl ?_
      refine aw_iload_n 12 dX3_isWholeReel_11 rfl 3 rfl rfl ?_
      refine aw_callV (M' := M_X3_reelAt) 15 88 3 l0 [.int _] [] dX3_isWholeReel_12 lk_RX3_88 mv_X3_reelAt mp_X3_reelAt rfl ⟨leb rfl, leb rfl⟩ rfl (ltb rfl) g1 rfl (leb rfl) (leb rfl) (leb rfl) rfl (am_X3_reelAt hG h) (kkI fun v7 X6 h => ?_) (kxN KrI.no)
      refine aw_widen (cc' := 0) (ss' := 0) (leb rfl) (leb rfl) ?_
      refine aw_iload_n 16 dX3_isWholeReel_15 rfl 1 rfl rfl ?_
      refine aw_icmp_ne 30 19 dX3_isWholeReel_16 rfl rfl (fun c8 => ?_) (fun c8 => ?_)
      · replace h := h.1 c8
        refine aw_iinc 33 (v := 1) (lv' := [(3, _), (0, _), (1, _), (2, _)]) dX3_isWholeReel_30 3 rfl kI_1 (ltb rfl) rfl rfl ?_
        refine aw_goto 2 dX3_isWholeReel_33 rfl ?_
        exact aw_pick [1, 2, 3, 0] rfl h
      · replace h := h.2 c8
        refine aw_aload_n 20 dX3_isWholeReel_19 rfl 0 rfl rfl ?_
        refine aw_iload_n 21 dX3_isWholeReel_20 rfl 3 rfl rfl ?_
        refine aw_iload_n 22 dX3_isWholeReel_21 rfl 2 rfl rfl ?_
        obtain ⟨g11, h⟩ := h
        refine aw_callV (M' := M_X3_isTaken) 25 98 3 l0 [.int _, .int _] [] dX3_isWholeReel_22 lk_RX3_98 mv_X3_isTaken mp_X3_isTaken rfl ⟨leb rfl, leb rfl⟩ rfl (ltb rfl) g11 rfl (leb rfl) (leb rfl) (leb rfl) rfl (am_X3_isTaken hG h) (kkI fun v10 X9 h => ?_) (kxN KrI.no)
        refine aw_widen (cc' := 0) (ss' := 0) (leb rfl) (leb rfl) ?_
        refine aw_if_ne 30 28 dX3_isWholeReel_25 rfl rfl (fun c12 => ?_) (fun c12 => ?_)
        · replace h := h.1 c12
          refine aw_iinc 33 (v := 1) (lv' := [(3, _), (0, _), (1, _), (2, _)]) dX3_isWholeReel_30 3 rfl kI_1 (ltb rfl) rfl rfl ?_
          refine aw_goto 2 dX3_isWholeReel_33 rfl ?_
          exact aw_pick [1, 2, 3, 0] rfl h
        · replace h := h.2 c12
          refine aw_iconst 29 (v := 0) dX3_isWholeReel_28 kI_0 rfl ?_
          exact aw_ireturn (ty := .boolean) dX3_isWholeReel_29 rfl rfl (leb rfl) (leb rfl) ⟨_, rfl, h⟩)
set_option maxRecDepth 20000 in
theorem am_X3_isWholeReel {G : GG} (hG : G.1.stackTraces = false) {l0 : Nat} {l1 : Int32} {l2 : Int32} {X : XH} {K : Int32 → XH → Prop} (h : w_X3_isWholeReel l0 l1 l2 X K) : AM G M_X3_isWholeReel X [.ref l0, .int l1, .int l2] (KrI K) := AM_of (by decide +kernel) rfl (leb rfl) hG (by
  show AW G M_X3_isWholeReel 0 [(0, .ref l0), (1, .int l1), (2, .int l2)] [] X 0 0 _
  unfold w_X3_isWholeReel at h
  refine aw_iconst 1 (v := 0) dX3_isWholeReel_0 kI_0 rfl ?_
  refine aw_istore_n 2 (lv' := [(3, _), (0, _), (1, _), (2, _)]) dX3_isWholeReel_1 rfl (ltb rfl) rfl rfl ?_
  exact aw_pick [1, 2, 3, 0] rfl (aw_X3_isWholeReel_2 hG  h))
set_option maxRecDepth 20000 in
theorem am_X3_putMix {G : GG} (hG : G.1.stackTraces = false) {l0 : Nat} {l1 : Int32} {l2 : Int32} {X : XH} {K : XH → Prop} (h : w_X3_putMix l0 l1 l2 X K) : AM G M_X3_putMix X [.ref l0, .int l1, .int l2] (KrV K) := AM_of (by decide +kernel) rfl (leb rfl) hG (by
  show AW G M_X3_putMix 0 [(0, .ref l0), (1, .int l1), (2, .int l2)] [] X 0 0 _
  unfold w_X3_putMix at h
  refine aw_aload_n 1 dX3_putMix_0 rfl 0 rfl rfl ?_
  obtain ⟨g1, h⟩ := h
  obtain ⟨g2, h⟩ := h
  refine aw_getR 4 dX3_putMix_1 fl_RX3_39 rfl g1 g2 rfl ?_
  refine aw_iload_n 5 dX3_putMix_4 rfl 1 rfl rfl ?_
  refine aw_iload_n 6 dX3_putMix_5 rfl 2 rfl rfl ?_
  refine aw_callS (M' := M_X3_place) 9 73 [.int _, .int _] [.ref _] dX3_putMix_6 lk_RX3_73 ms_X3_place mp_X3_place rfl ⟨leb rfl, leb rfl⟩ rfl (leb rfl) (leb rfl) (leb rfl) rfl (am_X3_place hG h) (kkI fun v4 X3 h => ?_) (kxN KrI.no)
  refine aw_widen (cc' := 0) (ss' := 0) (leb rfl) (leb rfl) ?_
  refine aw_iconst 10 (v := 1) dX3_putMix_9 kI_1 rfl ?_
  refine aw_callSN (M' := M_X4_put) 13 65 [.ref _, .int _, .int _] [] dX3_putMix_10 (by decide) ms_X4_put mp_X4_put rfl ⟨leb rfl, leb rfl⟩ rfl (leb rfl) (leb rfl) (leb rfl) rfl (am_X4_put hG h) (kkV fun X5 h => ?_) KrV.no
  refine aw_widen (cc' := 0) (ss' := 0) (leb rfl) (leb rfl) ?_
  refine aw_aload_n 14 dX3_putMix_13 rfl 0 rfl rfl ?_
  refine aw_dup 15 dX3_putMix_14 rfl rfl ?_
  obtain ⟨g6, h⟩ := h
  refine aw_getI 18 dX3_putMix_15 fl_RX3_62 rfl g6 rfl ?_
  refine aw_iconst 19 (v := 1) dX3_putMix_18 kI_1 rfl ?_
  refine aw_iadd 20 dX3_putMix_19 rfl ?_
  refine aw_putI 23 dX3_putMix_20 fl_RX3_62 rfl rfl rfl rfl g6 rfl ?_
  exact aw_return dX3_putMix_23 rfl (leb rfl) (leb rfl) ⟨rfl, h⟩)
set_option maxRecDepth 20000 in
theorem aw_X3_silenceIn_5 {G : GG} (hG : G.1.stackTraces = false)  {l0 : Nat} {l1 : Int32} {l2 : Int32} {l3 : Int32} {l4 : Int32} {X : XH} {K : Int32 → XH → Prop}  (h : w_X3_silenceIn_5  l0 l1 l2 l3 l4 X K) : AW G M_X3_silenceIn 5 [(0, .ref l0), (1, .int l1), (2, .int l2), (3, .int l3), (4, .int l4)] [] X 0 0 (KrI K) :=
  h (fun l0 l1 l2 l3 l4 X => AW G M_X3_silenceIn 5 [(0, .ref l0), (1, .int l1), (2, .int l2), (3, .int l3), (4, .int l4)] [] X 0 0 (KrI K)) (fun l0 l1 l2 l3 l4 X h => by
    refine aw_iload 7 dX3_silenceIn_5 4 rfl rfl ?_
    refine aw_aload_n 8 dX3_silenceIn_7 rfl 0 rfl rfl ?_
    obtain ⟨g1, h⟩ := h
    refine aw_getI 11 dX3_silenceIn_8 fl_RX3_45 rfl g1 rfl ?_
    refine aw_icmp_ge 40 14 dX3_silenceIn_11 rfl rfl (fun c2 => ?_) (fun c2 => ?_)
    · replace h := h.1 c2
      refine aw_iload_n 41 dX3_silenceIn_40 rfl 3 rfl rfl ?_
      exact aw_ireturn (ty := .int) dX3_silenceIn_41 rfl rfl (leb rfl) (leb rfl) ⟨_, rfl, h⟩
    · replace h := h.2 c2
      refine aw_aload_n 15 dX3_silenceIn_14 rfl 0 rfl rfl ?_
      refine aw_iload 17 dX3_silenceIn_15 4 rfl rfl ?_
      refine aw_callV (M' := M_X3_reelAt) 20 88 3 l0 [.int _] [] dX3_silenceIn_17 lk_RX3_88 mv_X3_reelAt mp_X3_reelAt rfl ⟨leb rfl, leb rfl⟩ rfl (ltb rfl) g1 rfl (leb rfl) (leb rfl) (leb rfl) rfl (am_X3_reelAt hG h) (kkI fun v4 X3 h => ?_) (kxN KrI.no)
      refine aw_widen (cc' := 0) (ss' := 0) (leb rfl) (leb rfl) ?_
      refine aw_iload_n 21 dX3_silenceIn_20 rfl 1 rfl rfl ?_
      refine aw_icmp_ne 34 24 dX3_silenceIn_21 rfl rfl (fun c5 => ?_) (fun c5 => ?_)
      · replace h := h.1 c5
        refine aw_iinc 37 (v := 1) (lv' := [(4, _), (0, _), (1, _), (2, _), (3, _)]) dX3_silenceIn_34 4 rfl kI_1 (ltb rfl) rfl rfl ?_
        refine aw_goto 5 dX3_silenceIn_37 rfl ?_
        exact aw_pick [1, 2, 3, 4, 0] rfl h
      · replace h := h.2 c5
        refine aw_iload_n 25 dX3_silenceIn_24 rfl 3 rfl rfl ?_
        refine aw_aload_n 26 dX3_silenceIn_25 rfl 0 rfl rfl ?_
        refine aw_iload 28 dX3_silenceIn_26 4 rfl rfl ?_
        refine aw_iload_n 29 dX3_silenceIn_28 rfl 2 rfl rfl ?_
        obtain ⟨g8, h⟩ := h
        refine aw_callV (M' := M_X3_roomAt) 32 117 3 l0 [.int _, .int _] [.int _] dX3_silenceIn_29 lk_RX3_117 mv_X3_roomAt mp_X3_roomAt rfl ⟨leb rfl, leb rfl⟩ rfl (ltb rfl) g8 rfl (leb rfl) (leb rfl) (leb rfl) rfl (am_X3_roomAt hG h) (kkI fun v7 X6 h => ?_) (kxN KrI.no)
        refine aw_widen (cc' := 0) (ss' := 0) (leb rfl) (leb rfl) ?_
        refine aw_iadd 33 dX3_silenceIn_32 rfl ?_
        refine aw_istore_n 34 (lv' := [(3, _), (0, _), (1, _), (2, _), (4, _)]) dX3_silenceIn_33 rfl (ltb rfl) rfl rfl ?_
        refine aw_iinc 37 (v := 1) (lv' := [(4, _), (3, _), (0, _), (1, _), (2, _)]) dX3_silenceIn_34 4 rfl kI_1 (ltb rfl) rfl rfl ?_
        refine aw_goto 5 dX3_silenceIn_37 rfl ?_
        exact aw_pick [2, 3, 4, 1, 0] rfl h)
set_option maxRecDepth 20000 in
theorem am_X3_silenceIn {G : GG} (hG : G.1.stackTraces = false) {l0 : Nat} {l1 : Int32} {l2 : Int32} {X : XH} {K : Int32 → XH → Prop} (h : w_X3_silenceIn l0 l1 l2 X K) : AM G M_X3_silenceIn X [.ref l0, .int l1, .int l2] (KrI K) := AM_of (by decide +kernel) rfl (leb rfl) hG (by
  show AW G M_X3_silenceIn 0 [(0, .ref l0), (1, .int l1), (2, .int l2)] [] X 0 0 _
  unfold w_X3_silenceIn at h
  refine aw_iconst 1 (v := 0) dX3_silenceIn_0 kI_0 rfl ?_
  refine aw_istore_n 2 (lv' := [(3, _), (0, _), (1, _), (2, _)]) dX3_silenceIn_1 rfl (ltb rfl) rfl rfl ?_
  refine aw_iconst 3 (v := 0) dX3_silenceIn_2 kI_0 rfl ?_
  refine aw_istore 5 (lv' := [(4, _), (3, _), (0, _), (1, _), (2, _)]) dX3_silenceIn_3 (ltb rfl) rfl rfl ?_
  exact aw_pick [2, 3, 4, 1, 0] rfl (aw_X3_silenceIn_5 hG  h))
set_option maxRecDepth 20000 in
theorem am_X4_mix {G : GG} (hG : G.1.stackTraces = false) {l0 : Nat} {l1 : Int32} {l2 : Int32} {X : XH} {K : Int32 → XH → Prop} {KX : String → XH → Prop} (h : w_X4_mix l0 l1 l2 X K KX) : AM G M_X4_mix X [.ref l0, .int l1, .int l2] (KxT (KrI K) KX) := AM_of (by decide +kernel) rfl (leb rfl) hG (by
  show AW G M_X4_mix 0 [(0, .ref l0), (1, .int l1), (2, .int l2)] [] X 0 0 _
  unfold w_X4_mix at h
  refine aw_iload_n 1 dX4_mix_0 rfl 1 rfl rfl ?_
  refine aw_callS (M' := M_X4_checkReel) 4 45 [.int _] [] dX4_mix_1 lk_RX4_45 ms_X4_checkReel mp_X4_checkReel rfl ⟨leb rfl, leb rfl⟩ rfl (leb rfl) (leb rfl) (leb rfl) rfl (am_X4_checkReel hG h) (kkT (kkV fun X1 h => ?_)) (kxT KrV.no fun E X h => at_out rfl (leb rfl) (leb rfl) (Or.inr ⟨_, rfl, h⟩))
  refine aw_widen (cc' := 1) (ss' := 6) (leb rfl) (leb rfl) ?_
  refine aw_iload_n 5 dX4_mix_4 rfl 2 rfl rfl ?_
  refine aw_callS (M' := M_X4_checkTongue) 8 195 [.int _] [] dX4_mix_5 lk_RX4_195 ms_X4_checkTongue mp_X4_checkTongue rfl ⟨leb rfl, leb rfl⟩ rfl (leb rfl) (leb rfl) (leb rfl) rfl (am_X4_checkTongue hG h) (kkT (kkV fun X2 h => ?_)) (kxT KrV.no fun E X h => at_out rfl (leb rfl) (leb rfl) (Or.inr ⟨_, rfl, h⟩))
  refine aw_widen (cc' := 2) (ss' := 12) (leb rfl) (leb rfl) ?_
  refine aw_aload_n 9 dX4_mix_8 rfl 0 rfl rfl ?_
  obtain ⟨g3, h⟩ := h
  obtain ⟨g4, h⟩ := h
  refine aw_getR 12 dX4_mix_9 fl_RX4_10 rfl g3 g4 rfl ?_
  refine aw_iload_n 13 dX4_mix_12 rfl 1 rfl rfl ?_
  refine aw_iload_n 14 dX4_mix_13 rfl 2 rfl rfl ?_
  obtain ⟨g7, h⟩ := h
  refine aw_callV (M' := M_X3_hasMix) 17 198 3 (hR X2 l0 0) [.int _, .int _] [] dX4_mix_14 lk_RX4_198 mv_X3_hasMix mp_X3_hasMix rfl ⟨leb rfl, leb rfl⟩ rfl (ltb rfl) g7 rfl (leb rfl) (leb rfl) (leb rfl) rfl (am_X3_hasMix hG h) (kkI fun v6 X5 h => ?_) (kxN KrI.no)
  refine aw_widen (cc' := 2) (ss' := 12) (leb rfl) (leb rfl) ?_
  refine aw_if_ne 32 20 dX4_mix_17 rfl rfl (fun c8 => ?_) (fun c8 => ?_)
  · replace h := h.1 c8
    exact aw_throw xcS 60 204 64 rfl th_xcS (by decide) (Or.inl ⟨dX4_mix_32, dX4_mix_35, dX4_mix_36, dX4_mix_38, dX4_mix_41⟩) rfl (ltb rfl) (leb rfl) (leb rfl) (leb rfl) (Or.inr ⟨_, rfl, h⟩)
  · replace h := h.2 c8
    refine aw_aload_n 21 dX4_mix_20 rfl 0 rfl rfl ?_
    obtain ⟨g9, h⟩ := h
    obtain ⟨g10, h⟩ := h
    refine aw_getR 24 dX4_mix_21 fl_RX4_10 rfl g9 g10 rfl ?_
    refine aw_iload_n 25 dX4_mix_24 rfl 1 rfl rfl ?_
    refine aw_iload_n 26 dX4_mix_25 rfl 2 rfl rfl ?_
    obtain ⟨g13, h⟩ := h
    refine aw_callV (M' := M_X3_isWholeReel) 29 201 3 (hR X5 l0 0) [.int _, .int _] [] dX4_mix_26 lk_RX4_201 mv_X3_isWholeReel mp_X3_isWholeReel rfl ⟨leb rfl, leb rfl⟩ rfl (ltb rfl) g13 rfl (leb rfl) (leb rfl) (leb rfl) rfl (am_X3_isWholeReel hG h) (kkI fun v12 X11 h => ?_) (kxN KrI.no)
    refine aw_widen (cc' := 2) (ss' := 12) (leb rfl) (leb rfl) ?_
    refine aw_if_ne 42 32 dX4_mix_29 rfl rfl (fun c14 => ?_) (fun c14 => ?_)
    · replace h := h.1 c14
      refine aw_aload_n 43 dX4_mix_42 rfl 0 rfl rfl ?_
      obtain ⟨g15, h⟩ := h
      obtain ⟨g16, h⟩ := h
      refine aw_getR 46 dX4_mix_43 fl_RX4_19 rfl g15 g16 rfl ?_
      refine aw_aload_n 47 dX4_mix_46 rfl 0 rfl rfl ?_
      obtain ⟨g17, h⟩ := h
      refine aw_getR 50 dX4_mix_47 fl_RX4_10 rfl g15 g17 rfl ?_
      obtain ⟨g19, h⟩ := h
      refine aw_callV (M' := M_X1_push) 53 67 1 (hR X11 l0 1) [.ref _] [] dX4_mix_50 lk_RX4_67 mv_X1_push mp_X1_push rfl ⟨leb rfl, leb rfl⟩ rfl (ltb rfl) g19 rfl (leb rfl) (leb rfl) (leb rfl) rfl (am_X1_push hG h) (kkV fun X18 h => ?_) (kxN KrV.no)
      refine aw_widen (cc' := 2) (ss' := 12) (leb rfl) (leb rfl) ?_
      refine aw_aload_n 54 dX4_mix_53 rfl 0 rfl rfl ?_
      obtain ⟨g20, h⟩ := h
      obtain ⟨g21, h⟩ := h
      refine aw_getR 57 dX4_mix_54 fl_RX4_10 rfl g20 g21 rfl ?_
      refine aw_iload_n 58 dX4_mix_57 rfl 1 rfl rfl ?_
      refine aw_iload_n 59 dX4_mix_58 rfl 2 rfl rfl ?_
      obtain ⟨g23, h⟩ := h
      refine aw_callV (M' := M_X3_putMix) 62 206 3 (hR X18 l0 0) [.int _, .int _] [] dX4_mix_59 lk_RX4_206 mv_X3_putMix mp_X3_putMix rfl ⟨leb rfl, leb rfl⟩ rfl (ltb rfl) g23 rfl (leb rfl) (leb rfl) (leb rfl) rfl (am_X3_putMix hG h) (kkV fun X22 h => ?_) (kxN KrV.no)
      refine aw_widen (cc' := 2) (ss' := 12) (leb rfl) (leb rfl) ?_
      refine aw_aload_n 63 dX4_mix_62 rfl 0 rfl rfl ?_
      obtain ⟨g24, h⟩ := h
      obtain ⟨g25, h⟩ := h
      refine aw_getR 66 dX4_mix_63 fl_RX4_10 rfl g24 g25 rfl ?_
      refine aw_iload_n 67 dX4_mix_66 rfl 1 rfl rfl ?_
      refine aw_iload_n 68 dX4_mix_67 rfl 2 rfl rfl ?_
      obtain ⟨g28, h⟩ := h
      refine aw_callV (M' := M_X3_silenceIn) 71 209 3 (hR X22 l0 0) [.int _, .int _] [] dX4_mix_68 lk_RX4_209 mv_X3_silenceIn mp_X3_silenceIn rfl ⟨leb rfl, leb rfl⟩ rfl (ltb rfl) g28 rfl (leb rfl) (leb rfl) (leb rfl) rfl (am_X3_silenceIn hG h) (kkI fun v27 X26 h => ?_) (kxN KrI.no)
      refine aw_widen (cc' := 2) (ss' := 12) (leb rfl) (leb rfl) ?_
      exact aw_ireturn (ty := .int) dX4_mix_71 rfl rfl (leb rfl) (leb rfl) (Or.inl ⟨_, rfl, h⟩)
    · replace h := h.2 c14
      exact aw_throw xcS 60 204 64 rfl th_xcS (by decide) (Or.inl ⟨dX4_mix_32, dX4_mix_35, dX4_mix_36, dX4_mix_38, dX4_mix_41⟩) rfl (ltb rfl) (leb rfl) (leb rfl) (leb rfl) (Or.inr ⟨_, rfl, h⟩))
set_option maxRecDepth 20000 in
theorem am_L_mix {G : GG} (hG : G.1.stackTraces = false) {l0 : Nat} {l1 : Int32} {l2 : Int32} {X : XH} {K : Int32 → XH → Prop} (h : w_L_mix l0 l1 l2 X K) : AM G M_L_mix X [.ref l0, .int l1, .int l2] (KrI K) := AM_ofH (by decide +kernel) (0, 6, 7, 15) [(0, 6, 11, 19)] rfl (leb rfl) hG (by
  show AW G M_L_mix 0 [(0, .ref l0), (1, .int l1), (2, .int l2)] [] X 0 0 _
  unfold w_L_mix at h
  refine aw_aload_n 1 dL_mix_0 rfl 0 rfl rfl ?_
  refine aw_iload_n 2 dL_mix_1 rfl 1 rfl rfl ?_
  refine aw_iload_n 3 dL_mix_2 rfl 2 rfl rfl ?_
  obtain ⟨g3, h⟩ := h
  refine aw_callV (M' := M_X4_mix) 6 53 4 l0 [.int _, .int _] [] dL_mix_3 lk_RL_53 mv_X4_mix mp_X4_mix rfl ⟨leb rfl, leb rfl⟩ rfl (ltb rfl) g3 rfl (leb rfl) (leb rfl) (leb rfl) rfl (am_X4_mix hG h) (kkT (kkI fun v2 X1 h => ?_)) (kxT KrI.no fun E X1 h => ?_)
  · refine aw_widen (cc' := 3) (ss' := 18) (leb rfl) (leb rfl) ?_
    exact aw_ireturn (ty := .int) dL_mix_6 rfl rfl (leb rfl) (leb rfl) ⟨_, rfl, h⟩
  · obtain ⟨hE, h⟩ := h
    rcases hE with rfl | rfl
    · refine aw_atc (lv' := [(0, .ref _), (1, .int _), (2, .int _)]) [] (0, 6, 7, 15) [(0, 6, 11, 19)] rfl (fun z hz => nomatch hz) (by decide) (by decide) (tk3 (i := 40) (by decide +kernel) rfl) (by decide) 3 1 8 (Or.inl ⟨3, rfl, dL_mix_7, rfl⟩) (ltb rfl) rfl ?_
      refine aw_widen (cc' := 3) (ss' := 18) (leb rfl) (leb rfl) ?_
      replace h := h.1 rfl
      refine aw_bipush 10 (v := -2) dL_mix_8 kB_m2 rfl ?_
      exact aw_ireturn (ty := .int) dL_mix_10 rfl rfl (leb rfl) (leb rfl) ⟨_, rfl, h⟩
    · refine aw_atc (lv' := [(0, .ref _), (1, .int _), (2, .int _)]) [(0, 6, 7, 15)] (0, 6, 11, 19) [] rfl (by intro z hz; simp only [List.mem_cons, List.not_mem_nil, or_false] at hz; rcases hz with rfl <;> first | exact ⟨by decide, xcI, tk3 (i := 40) (by decide +kernel) rfl, by decide⟩) (by decide) (by decide) (tk3 (i := 42) (by decide +kernel) rfl) (by decide) 3 1 12 (Or.inl ⟨3, rfl, dL_mix_11, rfl⟩) (ltb rfl) rfl ?_
      refine aw_widen (cc' := 3) (ss' := 18) (leb rfl) (leb rfl) ?_
      replace h := h.2 rfl
      refine aw_bipush 14 (v := -4) dL_mix_12 kB_m4 rfl ?_
      exact aw_ireturn (ty := .int) dL_mix_14 rfl rfl (leb rfl) (leb rfl) ⟨_, rfl, h⟩)
set_option maxRecDepth 20000 in
theorem am_X3_speakerAt {G : GG} (hG : G.1.stackTraces = false) {l0 : Nat} {l1 : Int32} {X : XH} {K : Int32 → XH → Prop} (h : w_X3_speakerAt l0 l1 X K) : AM G M_X3_speakerAt X [.ref l0, .int l1] (KrI K) := AM_of (by decide +kernel) rfl (leb rfl) hG (by
  show AW G M_X3_speakerAt 0 [(0, .ref l0), (1, .int l1)] [] X 0 0 _
  unfold w_X3_speakerAt at h
  refine aw_aload_n 1 dX3_speakerAt_0 rfl 0 rfl rfl ?_
  obtain ⟨g1, h⟩ := h
  obtain ⟨g2, h⟩ := h
  refine aw_getR 4 dX3_speakerAt_1 fl_RX3_15 rfl g1 g2 rfl ?_
  refine aw_iload_n 5 dX3_speakerAt_4 rfl 1 rfl rfl ?_
  refine aw_callSN (M' := M_X4_at) 8 81 [.ref _, .int _] [] dX3_speakerAt_5 (by decide) ms_X4_at mp_X4_at rfl ⟨leb rfl, leb rfl⟩ rfl (leb rfl) (leb rfl) (leb rfl) rfl (am_X4_at hG h) (kkI fun v4 X3 h => ?_) KrI.no
  refine aw_widen (cc' := 0) (ss' := 0) (leb rfl) (leb rfl) ?_
  exact aw_ireturn (ty := .int) dX3_speakerAt_8 rfl rfl (leb rfl) (leb rfl) ⟨_, rfl, h⟩)
set_option maxRecDepth 20000 in
theorem aw_X3_isHeardIn_2 {G : GG} (hG : G.1.stackTraces = false)  {l0 : Nat} {l1 : Int32} {l2 : Int32} {l3 : Int32} {X : XH} {K : Int32 → XH → Prop}  (h : w_X3_isHeardIn_2  l0 l1 l2 l3 X K) : AW G M_X3_isHeardIn 2 [(0, .ref l0), (1, .int l1), (2, .int l2), (3, .int l3)] [] X 0 0 (KrI K) :=
  h (fun l0 l1 l2 l3 X => AW G M_X3_isHeardIn 2 [(0, .ref l0), (1, .int l1), (2, .int l2), (3, .int l3)] [] X 0 0 (KrI K)) (fun l0 l1 l2 l3 X h => by
    refine aw_iload_n 3 dX3_isHeardIn_2 rfl 3 rfl rfl ?_
    refine aw_aload_n 4 dX3_isHeardIn_3 rfl 0 rfl rfl ?_
    obtain ⟨g1, h⟩ := h
    refine aw_getI 7 dX3_isHeardIn_4 fl_RX3_45 rfl g1 rfl ?_
    refine aw_icmp_ge 36 10 dX3_isHeardIn_7 rfl rfl (fun c2 => ?_) (fun c2 => ?_)
    · replace h := h.1 c2
      refine aw_iconst 37 (v := 0) dX3_isHeardIn_36 kI_0 rfl ?_
      exact aw_ireturn (ty := .boolean) dX3_isHeardIn_37 rfl rfl (leb rfl) (leb rfl) ⟨_, rfl, h⟩
    · replace h := h.2 c2
      refine aw_aload_n 11 dX3_isHeardIn_10 rfl 0 rfl rfl ?_
      refine aw_iload_n 12 dX3_isHeardIn_11 rfl 3 rfl rfl ?_
      refine aw_callV (M' := M_X3_reelAt) 15 88 3 l0 [.int _] [] dX3_isHeardIn_12 lk_RX3_88 mv_X3_reelAt mp_X3_reelAt rfl ⟨leb rfl, leb rfl⟩ rfl (ltb rfl) g1 rfl (leb rfl) (leb rfl) (leb rfl) rfl (am_X3_reelAt hG h) (kkI fun v4 X3 h => ?_) (kxN KrI.no)
      refine aw_widen (cc' := 0) (ss' := 0) (leb rfl) (leb rfl) ?_
      refine aw_iload_n 16 dX3_isHeardIn_15 rfl 2 rfl rfl ?_
      refine aw_icmp_ne 30 19 dX3_isHeardIn_16 rfl rfl (fun c5 => ?_) (fun c5 => ?_)
      · replace h := h.1 c5
        refine aw_iinc 33 (v := 1) (lv' := [(3, _), (0, _), (1, _), (2, _)]) dX3_isHeardIn_30 3 rfl kI_1 (ltb rfl) rfl rfl ?_
        refine aw_goto 2 dX3_isHeardIn_33 rfl ?_
        exact aw_pick [1, 2, 3, 0] rfl h
      · replace h := h.2 c5
        refine aw_aload_n 20 dX3_isHeardIn_19 rfl 0 rfl rfl ?_
        refine aw_iload_n 21 dX3_isHeardIn_20 rfl 3 rfl rfl ?_
        obtain ⟨g8, h⟩ := h
        refine aw_callV (M' := M_X3_speakerAt) 24 77 3 l0 [.int _] [] dX3_isHeardIn_21 lk_RX3_77 mv_X3_speakerAt mp_X3_speakerAt rfl ⟨leb rfl, leb rfl⟩ rfl (ltb rfl) g8 rfl (leb rfl) (leb rfl) (leb rfl) rfl (am_X3_speakerAt hG h) (kkI fun v7 X6 h => ?_) (kxN KrI.no)
        refine aw_widen (cc' := 0) (ss' := 0) (leb rfl) (leb rfl) ?_
        refine aw_iload_n 25 dX3_isHeardIn_24 rfl 1 rfl rfl ?_
        refine aw_icmp_ne 30 28 dX3_isHeardIn_25 rfl rfl (fun c9 => ?_) (fun c9 => ?_)
        · replace h := h.1 c9
          refine aw_iinc 33 (v := 1) (lv' := [(3, _), (0, _), (1, _), (2, _)]) dX3_isHeardIn_30 3 rfl kI_1 (ltb rfl) rfl rfl ?_
          refine aw_goto 2 dX3_isHeardIn_33 rfl ?_
          exact aw_pick [1, 2, 3, 0] rfl h
        · replace h := h.2 c9
          refine aw_iconst 29 (v := 1) dX3_isHeardIn_28 kI_1 rfl ?_
          exact aw_ireturn (ty := .boolean) dX3_isHeardIn_29 rfl rfl (leb rfl) (leb rfl) ⟨_, rfl, h⟩)
set_option maxRecDepth 20000 in
theorem am_X3_isHeardIn {G : GG} (hG : G.1.stackTraces = false) {l0 : Nat} {l1 : Int32} {l2 : Int32} {X : XH} {K : Int32 → XH → Prop} (h : w_X3_isHeardIn l0 l1 l2 X K) : AM G M_X3_isHeardIn X [.ref l0, .int l1, .int l2] (KrI K) := AM_of (by decide +kernel) rfl (leb rfl) hG (by
  show AW G M_X3_isHeardIn 0 [(0, .ref l0), (1, .int l1), (2, .int l2)] [] X 0 0 _
  unfold w_X3_isHeardIn at h
  refine aw_iconst 1 (v := 0) dX3_isHeardIn_0 kI_0 rfl ?_
  refine aw_istore_n 2 (lv' := [(3, _), (0, _), (1, _), (2, _)]) dX3_isHeardIn_1 rfl (ltb rfl) rfl rfl ?_
  exact aw_pick [1, 2, 3, 0] rfl (aw_X3_isHeardIn_2 hG  h))
set_option maxRecDepth 20000 in
theorem am_X3_hasSignature {G : GG} (hG : G.1.stackTraces = false) {l0 : Nat} {l1 : Int32} {l2 : Int32} {l3 : Int32} {X : XH} {K : Int32 → XH → Prop} (h : w_X3_hasSignature l0 l1 l2 l3 X K) : AM G M_X3_hasSignature X [.ref l0, .int l1, .int l2, .int l3] (KrI K) := AM_of (by decide +kernel) rfl (leb rfl) hG (by
  show AW G M_X3_hasSignature 0 [(0, .ref l0), (1, .int l1), (2, .int l2), (3, .int l3)] [] X 0 0 _
  unfold w_X3_hasSignature at h
  refine aw_aload_n 1 dX3_hasSignature_0 rfl 0 rfl rfl ?_
  obtain ⟨g1, h⟩ := h
  obtain ⟨g2, h⟩ := h
  refine aw_getR 4 dX3_hasSignature_1 fl_RX3_42 rfl g1 g2 rfl ?_
  refine aw_iload_n 5 dX3_hasSignature_4 rfl 2 rfl rfl ?_
  refine aw_iload_n 6 dX3_hasSignature_5 rfl 3 rfl rfl ?_
  refine aw_callS (M' := M_X3_place) 9 73 [.int _, .int _] [.ref _] dX3_hasSignature_6 lk_RX3_73 ms_X3_place mp_X3_place rfl ⟨leb rfl, leb rfl⟩ rfl (leb rfl) (leb rfl) (leb rfl) rfl (am_X3_place hG h) (kkI fun v4 X3 h => ?_) (kxN KrI.no)
  refine aw_widen (cc' := 0) (ss' := 0) (leb rfl) (leb rfl) ?_
  refine aw_callSN (M' := M_X4_at) 12 81 [.ref _, .int _] [] dX3_hasSignature_9 (by decide) ms_X4_at mp_X4_at rfl ⟨leb rfl, leb rfl⟩ rfl (leb rfl) (leb rfl) (leb rfl) rfl (am_X4_at hG h) (kkI fun v6 X5 h => ?_) KrI.no
  refine aw_widen (cc' := 0) (ss' := 0) (leb rfl) (leb rfl) ?_
  refine aw_iload_n 13 dX3_hasSignature_12 rfl 1 rfl rfl ?_
  refine aw_ishr 14 dX3_hasSignature_13 rfl ?_
  refine aw_iconst 15 (v := 1) dX3_hasSignature_14 kI_1 rfl ?_
  refine aw_iand 16 dX3_hasSignature_15 rfl ?_
  refine aw_iconst 17 (v := 1) dX3_hasSignature_16 kI_1 rfl ?_
  refine aw_icmp_ne 24 20 dX3_hasSignature_17 rfl rfl (fun c7 => ?_) (fun c7 => ?_)
  · replace h := h.1 c7
    refine aw_iconst 25 (v := 0) dX3_hasSignature_24 kI_0 rfl ?_
    exact aw_ireturn (ty := .boolean) dX3_hasSignature_25 rfl rfl (leb rfl) (leb rfl) ⟨_, rfl, h⟩
  · replace h := h.2 c7
    refine aw_iconst 21 (v := 1) dX3_hasSignature_20 kI_1 rfl ?_
    refine aw_goto 25 dX3_hasSignature_21 rfl ?_
    exact aw_ireturn (ty := .boolean) dX3_hasSignature_25 rfl rfl (leb rfl) (leb rfl) ⟨_, rfl, h⟩)
set_option maxRecDepth 20000 in
theorem am_X3_putSignature {G : GG} (hG : G.1.stackTraces = false) {l0 : Nat} {l1 : Int32} {l2 : Int32} {l3 : Int32} {X : XH} {K : XH → Prop} (h : w_X3_putSignature l0 l1 l2 l3 X K) : AM G M_X3_putSignature X [.ref l0, .int l1, .int l2, .int l3] (KrV K) := AM_of (by decide +kernel) rfl (leb rfl) hG (by
  show AW G M_X3_putSignature 0 [(0, .ref l0), (1, .int l1), (2, .int l2), (3, .int l3)] [] X 0 0 _
  unfold w_X3_putSignature at h
  refine aw_iload_n 1 dX3_putSignature_0 rfl 2 rfl rfl ?_
  refine aw_iload_n 2 dX3_putSignature_1 rfl 3 rfl rfl ?_
  refine aw_callS (M' := M_X3_place) 5 73 [.int _, .int _] [] dX3_putSignature_2 lk_RX3_73 ms_X3_place mp_X3_place rfl ⟨leb rfl, leb rfl⟩ rfl (leb rfl) (leb rfl) (leb rfl) rfl (am_X3_place hG h) (kkI fun v2 X1 h => ?_) (kxN KrI.no)
  refine aw_widen (cc' := 0) (ss' := 0) (leb rfl) (leb rfl) ?_
  refine aw_istore 7 (lv' := [(4, _), (0, _), (1, _), (2, _), (3, _)]) dX3_putSignature_5 (ltb rfl) rfl rfl ?_
  refine aw_aload_n 8 dX3_putSignature_7 rfl 1 rfl rfl ?_
  obtain ⟨g3, h⟩ := h
  obtain ⟨g4, h⟩ := h
  refine aw_getR 11 dX3_putSignature_8 fl_RX3_42 rfl g3 g4 rfl ?_
  refine aw_iload 13 dX3_putSignature_11 0 rfl rfl ?_
  refine aw_aload_n 14 dX3_putSignature_13 rfl 1 rfl rfl ?_
  refine aw_getR 17 dX3_putSignature_14 fl_RX3_42 rfl g3 g4 rfl ?_
  refine aw_iload 19 dX3_putSignature_17 0 rfl rfl ?_
  refine aw_callSN (M' := M_X4_at) 22 81 [.ref _, .int _] [.int _, .ref _] dX3_putSignature_19 (by decide) ms_X4_at mp_X4_at rfl ⟨leb rfl, leb rfl⟩ rfl (leb rfl) (leb rfl) (leb rfl) rfl (am_X4_at hG h) (kkI fun v6 X5 h => ?_) KrI.no
  refine aw_widen (cc' := 0) (ss' := 0) (leb rfl) (leb rfl) ?_
  refine aw_iconst 23 (v := 1) dX3_putSignature_22 kI_1 rfl ?_
  refine aw_iload_n 24 dX3_putSignature_23 rfl 2 rfl rfl ?_
  refine aw_ishl 25 dX3_putSignature_24 rfl ?_
  refine aw_ior 26 dX3_putSignature_25 rfl ?_
  refine aw_callSN (M' := M_X4_put) 29 65 [.ref _, .int _, .int _] [] dX3_putSignature_26 (by decide) ms_X4_put mp_X4_put rfl ⟨leb rfl, leb rfl⟩ rfl (leb rfl) (leb rfl) (leb rfl) rfl (am_X4_put hG h) (kkV fun X7 h => ?_) KrV.no
  refine aw_widen (cc' := 0) (ss' := 0) (leb rfl) (leb rfl) ?_
  exact aw_return dX3_putSignature_29 rfl (leb rfl) (leb rfl) ⟨rfl, h⟩)
set_option maxRecDepth 20000 in
theorem aw_X3_signaturesMissing_5 {G : GG} (hG : G.1.stackTraces = false)  {l0 : Nat} {l1 : Int32} {l2 : Int32} {l3 : Int32} {l4 : Int32} {X : XH} {K : Int32 → XH → Prop}  (h : w_X3_signaturesMissing_5  l0 l1 l2 l3 l4 X K) : AW G M_X3_signaturesMissing 5 [(0, .ref l0), (1, .int l1), (2, .int l2), (3, .int l3), (4, .int l4)] [] X 0 0 (KrI K) :=
  h (fun l0 l1 l2 l3 l4 X => AW G M_X3_signaturesMissing 5 [(0, .ref l0), (1, .int l1), (2, .int l2), (3, .int l3), (4, .int l4)] [] X 0 0 (KrI K)) (fun l0 l1 l2 l3 l4 X h => by
    refine aw_iload 7 dX3_signaturesMissing_5 4 rfl rfl ?_
    refine aw_iconst 8 (v := 5) dX3_signaturesMissing_7 kI_5 rfl ?_
    refine aw_icmp_ge 41 11 dX3_signaturesMissing_8 rfl rfl (fun c1 => ?_) (fun c1 => ?_)
    · replace h := h.1 c1
      refine aw_iload_n 42 dX3_signaturesMissing_41 rfl 3 rfl rfl ?_
      exact aw_ireturn (ty := .int) dX3_signaturesMissing_42 rfl rfl (leb rfl) (leb rfl) ⟨_, rfl, h⟩
    · replace h := h.2 c1
      refine aw_aload_n 12 dX3_signaturesMissing_11 rfl 0 rfl rfl ?_
      refine aw_iload 14 dX3_signaturesMissing_12 4 rfl rfl ?_
      refine aw_iload_n 15 dX3_signaturesMissing_14 rfl 1 rfl rfl ?_
      obtain ⟨g4, h⟩ := h
      refine aw_callV (M' := M_X3_isHeardIn) 18 156 3 l0 [.int _, .int _] [] dX3_signaturesMissing_15 lk_RX3_156 mv_X3_isHeardIn mp_X3_isHeardIn rfl ⟨leb rfl, leb rfl⟩ rfl (ltb rfl) g4 rfl (leb rfl) (leb rfl) (leb rfl) rfl (am_X3_isHeardIn hG h) (kkI fun v3 X2 h => ?_) (kxN KrI.no)
      refine aw_widen (cc' := 0) (ss' := 0) (leb rfl) (leb rfl) ?_
      refine aw_if_eq 35 21 dX3_signaturesMissing_18 rfl rfl (fun c5 => ?_) (fun c5 => ?_)
      · replace h := h.1 c5
        refine aw_iinc 38 (v := 1) (lv' := [(4, _), (0, _), (1, _), (2, _), (3, _)]) dX3_signaturesMissing_35 4 rfl kI_1 (ltb rfl) rfl rfl ?_
        refine aw_goto 5 dX3_signaturesMissing_38 rfl ?_
        exact aw_pick [1, 2, 3, 4, 0] rfl h
      · replace h := h.2 c5
        refine aw_aload_n 22 dX3_signaturesMissing_21 rfl 0 rfl rfl ?_
        refine aw_iload 24 dX3_signaturesMissing_22 4 rfl rfl ?_
        refine aw_iload_n 25 dX3_signaturesMissing_24 rfl 1 rfl rfl ?_
        refine aw_iload_n 26 dX3_signaturesMissing_25 rfl 2 rfl rfl ?_
        obtain ⟨g8, h⟩ := h
        refine aw_callV (M' := M_X3_hasSignature) 29 159 3 l0 [.int _, .int _, .int _] [] dX3_signaturesMissing_26 lk_RX3_159 mv_X3_hasSignature mp_X3_hasSignature rfl ⟨leb rfl, leb rfl⟩ rfl (ltb rfl) g8 rfl (leb rfl) (leb rfl) (leb rfl) rfl (am_X3_hasSignature hG h) (kkI fun v7 X6 h => ?_) (kxN KrI.no)
        refine aw_widen (cc' := 0) (ss' := 0) (leb rfl) (leb rfl) ?_
        refine aw_if_ne 35 32 dX3_signaturesMissing_29 rfl rfl (fun c9 => ?_) (fun c9 => ?_)
        · replace h := h.1 c9
          refine aw_iinc 38 (v := 1) (lv' := [(4, _), (0, _), (1, _), (2, _), (3, _)]) dX3_signaturesMissing_35 4 rfl kI_1 (ltb rfl) rfl rfl ?_
          refine aw_goto 5 dX3_signaturesMissing_38 rfl ?_
          exact aw_pick [1, 2, 3, 4, 0] rfl h
        · replace h := h.2 c9
          refine aw_iinc 35 (v := 1) (lv' := [(3, _), (0, _), (1, _), (2, _), (4, _)]) dX3_signaturesMissing_32 3 rfl kI_1 (ltb rfl) rfl rfl ?_
          refine aw_iinc 38 (v := 1) (lv' := [(4, _), (3, _), (0, _), (1, _), (2, _)]) dX3_signaturesMissing_35 4 rfl kI_1 (ltb rfl) rfl rfl ?_
          refine aw_goto 5 dX3_signaturesMissing_38 rfl ?_
          exact aw_pick [2, 3, 4, 1, 0] rfl h)
set_option maxRecDepth 20000 in
theorem am_X3_signaturesMissing {G : GG} (hG : G.1.stackTraces = false) {l0 : Nat} {l1 : Int32} {l2 : Int32} {X : XH} {K : Int32 → XH → Prop} (h : w_X3_signaturesMissing l0 l1 l2 X K) : AM G M_X3_signaturesMissing X [.ref l0, .int l1, .int l2] (KrI K) := AM_of (by decide +kernel) rfl (leb rfl) hG (by
  show AW G M_X3_signaturesMissing 0 [(0, .ref l0), (1, .int l1), (2, .int l2)] [] X 0 0 _
  unfold w_X3_signaturesMissing at h
  refine aw_iconst 1 (v := 0) dX3_signaturesMissing_0 kI_0 rfl ?_
  refine aw_istore_n 2 (lv' := [(3, _), (0, _), (1, _), (2, _)]) dX3_signaturesMissing_1 rfl (ltb rfl) rfl rfl ?_
  refine aw_iconst 3 (v := 0) dX3_signaturesMissing_2 kI_0 rfl ?_
  refine aw_istore 5 (lv' := [(4, _), (3, _), (0, _), (1, _), (2, _)]) dX3_signaturesMissing_3 (ltb rfl) rfl rfl ?_
  exact aw_pick [2, 3, 4, 1, 0] rfl (aw_X3_signaturesMissing_5 hG  h))
set_option maxRecDepth 20000 in
theorem am_X4_sign {G : GG} (hG : G.1.stackTraces = false) {l0 : Nat} {l1 : Int32} {l2 : Int32} {l3 : Int32} {X : XH} {K : Int32 → XH → Prop} {KX : String → XH → Prop} (h : w_X4_sign l0 l1 l2 l3 X K KX) : AM G M_X4_sign X [.ref l0, .int l1, .int l2, .int l3] (KxT (KrI K) KX) := AM_of (by decide +kernel) rfl (leb rfl) hG (by
  show AW G M_X4_sign 0 [(0, .ref l0), (1, .int l1), (2, .int l2), (3, .int l3)] [] X 0 0 _
  unfold w_X4_sign at h
  refine aw_iload_n 1 dX4_sign_0 rfl 1 rfl rfl ?_
  refine aw_callS (M' := M_X4_checkState) 4 49 [.int _] [] dX4_sign_1 lk_RX4_49 ms_X4_checkState mp_X4_checkState rfl ⟨leb rfl, leb rfl⟩ rfl (leb rfl) (leb rfl) (leb rfl) rfl (am_X4_checkState hG h) (kkT (kkV fun X1 h => ?_)) (kxT KrV.no fun E X h => at_out rfl (leb rfl) (leb rfl) (Or.inr ⟨_, rfl, h⟩))
  refine aw_widen (cc' := 1) (ss' := 6) (leb rfl) (leb rfl) ?_
  refine aw_iload_n 5 dX4_sign_4 rfl 2 rfl rfl ?_
  refine aw_callS (M' := M_X4_checkReel) 8 45 [.int _] [] dX4_sign_5 lk_RX4_45 ms_X4_checkReel mp_X4_checkReel rfl ⟨leb rfl, leb rfl⟩ rfl (leb rfl) (leb rfl) (leb rfl) rfl (am_X4_checkReel hG h) (kkT (kkV fun X2 h => ?_)) (kxT KrV.no fun E X h => at_out rfl (leb rfl) (leb rfl) (Or.inr ⟨_, rfl, h⟩))
  refine aw_widen (cc' := 2) (ss' := 12) (leb rfl) (leb rfl) ?_
  refine aw_iload_n 9 dX4_sign_8 rfl 3 rfl rfl ?_
  refine aw_callS (M' := M_X4_checkTongue) 12 195 [.int _] [] dX4_sign_9 lk_RX4_195 ms_X4_checkTongue mp_X4_checkTongue rfl ⟨leb rfl, leb rfl⟩ rfl (leb rfl) (leb rfl) (leb rfl) rfl (am_X4_checkTongue hG h) (kkT (kkV fun X3 h => ?_)) (kxT KrV.no fun E X h => at_out rfl (leb rfl) (leb rfl) (Or.inr ⟨_, rfl, h⟩))
  refine aw_widen (cc' := 3) (ss' := 18) (leb rfl) (leb rfl) ?_
  refine aw_aload_n 13 dX4_sign_12 rfl 0 rfl rfl ?_
  obtain ⟨g4, h⟩ := h
  obtain ⟨g5, h⟩ := h
  refine aw_getR 16 dX4_sign_13 fl_RX4_10 rfl g4 g5 rfl ?_
  refine aw_iload_n 17 dX4_sign_16 rfl 2 rfl rfl ?_
  refine aw_iload_n 18 dX4_sign_17 rfl 3 rfl rfl ?_
  obtain ⟨g8, h⟩ := h
  refine aw_callV (M' := M_X3_hasMix) 21 198 3 (hR X3 l0 0) [.int _, .int _] [] dX4_sign_18 lk_RX4_198 mv_X3_hasMix mp_X3_hasMix rfl ⟨leb rfl, leb rfl⟩ rfl (ltb rfl) g8 rfl (leb rfl) (leb rfl) (leb rfl) rfl (am_X3_hasMix hG h) (kkI fun v7 X6 h => ?_) (kxN KrI.no)
  refine aw_widen (cc' := 3) (ss' := 18) (leb rfl) (leb rfl) ?_
  refine aw_if_eq 49 24 dX4_sign_21 rfl rfl (fun c9 => ?_) (fun c9 => ?_)
  · replace h := h.1 c9
    exact aw_throw xcS 60 218 64 rfl th_xcS (by decide) (Or.inl ⟨dX4_sign_49, dX4_sign_52, dX4_sign_53, dX4_sign_55, dX4_sign_58⟩) rfl (ltb rfl) (leb rfl) (leb rfl) (leb rfl) (Or.inr ⟨_, rfl, h⟩)
  · replace h := h.2 c9
    refine aw_aload_n 25 dX4_sign_24 rfl 0 rfl rfl ?_
    obtain ⟨g10, h⟩ := h
    obtain ⟨g11, h⟩ := h
    refine aw_getR 28 dX4_sign_25 fl_RX4_10 rfl g10 g11 rfl ?_
    refine aw_iload_n 29 dX4_sign_28 rfl 1 rfl rfl ?_
    refine aw_iload_n 30 dX4_sign_29 rfl 2 rfl rfl ?_
    obtain ⟨g14, h⟩ := h
    refine aw_callV (M' := M_X3_isHeardIn) 33 212 3 (hR X6 l0 0) [.int _, .int _] [] dX4_sign_30 lk_RX4_212 mv_X3_isHeardIn mp_X3_isHeardIn rfl ⟨leb rfl, leb rfl⟩ rfl (ltb rfl) g14 rfl (leb rfl) (leb rfl) (leb rfl) rfl (am_X3_isHeardIn hG h) (kkI fun v13 X12 h => ?_) (kxN KrI.no)
    refine aw_widen (cc' := 3) (ss' := 18) (leb rfl) (leb rfl) ?_
    refine aw_if_eq 49 36 dX4_sign_33 rfl rfl (fun c15 => ?_) (fun c15 => ?_)
    · replace h := h.1 c15
      exact aw_throw xcS 60 218 64 rfl th_xcS (by decide) (Or.inl ⟨dX4_sign_49, dX4_sign_52, dX4_sign_53, dX4_sign_55, dX4_sign_58⟩) rfl (ltb rfl) (leb rfl) (leb rfl) (leb rfl) (Or.inr ⟨_, rfl, h⟩)
    · replace h := h.2 c15
      refine aw_aload_n 37 dX4_sign_36 rfl 0 rfl rfl ?_
      obtain ⟨g16, h⟩ := h
      obtain ⟨g17, h⟩ := h
      refine aw_getR 40 dX4_sign_37 fl_RX4_10 rfl g16 g17 rfl ?_
      refine aw_iload_n 41 dX4_sign_40 rfl 1 rfl rfl ?_
      refine aw_iload_n 42 dX4_sign_41 rfl 2 rfl rfl ?_
      refine aw_iload_n 43 dX4_sign_42 rfl 3 rfl rfl ?_
      obtain ⟨g20, h⟩ := h
      refine aw_callV (M' := M_X3_hasSignature) 46 215 3 (hR X12 l0 0) [.int _, .int _, .int _] [] dX4_sign_43 lk_RX4_215 mv_X3_hasSignature mp_X3_hasSignature rfl ⟨leb rfl, leb rfl⟩ rfl (ltb rfl) g20 rfl (leb rfl) (leb rfl) (leb rfl) rfl (am_X3_hasSignature hG h) (kkI fun v19 X18 h => ?_) (kxN KrI.no)
      refine aw_widen (cc' := 3) (ss' := 18) (leb rfl) (leb rfl) ?_
      refine aw_if_eq 59 49 dX4_sign_46 rfl rfl (fun c21 => ?_) (fun c21 => ?_)
      · replace h := h.1 c21
        refine aw_aload_n 60 dX4_sign_59 rfl 0 rfl rfl ?_
        obtain ⟨g22, h⟩ := h
        obtain ⟨g23, h⟩ := h
        refine aw_getR 63 dX4_sign_60 fl_RX4_19 rfl g22 g23 rfl ?_
        refine aw_aload_n 64 dX4_sign_63 rfl 0 rfl rfl ?_
        obtain ⟨g24, h⟩ := h
        refine aw_getR 67 dX4_sign_64 fl_RX4_10 rfl g22 g24 rfl ?_
        obtain ⟨g26, h⟩ := h
        refine aw_callV (M' := M_X1_push) 70 67 1 (hR X18 l0 1) [.ref _] [] dX4_sign_67 lk_RX4_67 mv_X1_push mp_X1_push rfl ⟨leb rfl, leb rfl⟩ rfl (ltb rfl) g26 rfl (leb rfl) (leb rfl) (leb rfl) rfl (am_X1_push hG h) (kkV fun X25 h => ?_) (kxN KrV.no)
        refine aw_widen (cc' := 3) (ss' := 18) (leb rfl) (leb rfl) ?_
        refine aw_aload_n 71 dX4_sign_70 rfl 0 rfl rfl ?_
        obtain ⟨g27, h⟩ := h
        obtain ⟨g28, h⟩ := h
        refine aw_getR 74 dX4_sign_71 fl_RX4_10 rfl g27 g28 rfl ?_
        refine aw_iload_n 75 dX4_sign_74 rfl 1 rfl rfl ?_
        refine aw_iload_n 76 dX4_sign_75 rfl 2 rfl rfl ?_
        refine aw_iload_n 77 dX4_sign_76 rfl 3 rfl rfl ?_
        obtain ⟨g30, h⟩ := h
        refine aw_callV (M' := M_X3_putSignature) 80 220 3 (hR X25 l0 0) [.int _, .int _, .int _] [] dX4_sign_77 lk_RX4_220 mv_X3_putSignature mp_X3_putSignature rfl ⟨leb rfl, leb rfl⟩ rfl (ltb rfl) g30 rfl (leb rfl) (leb rfl) (leb rfl) rfl (am_X3_putSignature hG h) (kkV fun X29 h => ?_) (kxN KrV.no)
        refine aw_widen (cc' := 3) (ss' := 18) (leb rfl) (leb rfl) ?_
        refine aw_aload_n 81 dX4_sign_80 rfl 0 rfl rfl ?_
        obtain ⟨g31, h⟩ := h
        obtain ⟨g32, h⟩ := h
        refine aw_getR 84 dX4_sign_81 fl_RX4_10 rfl g31 g32 rfl ?_
        refine aw_iload_n 85 dX4_sign_84 rfl 2 rfl rfl ?_
        refine aw_iload_n 86 dX4_sign_85 rfl 3 rfl rfl ?_
        obtain ⟨g35, h⟩ := h
        refine aw_callV (M' := M_X3_signaturesMissing) 89 223 3 (hR X29 l0 0) [.int _, .int _] [] dX4_sign_86 lk_RX4_223 mv_X3_signaturesMissing mp_X3_signaturesMissing rfl ⟨leb rfl, leb rfl⟩ rfl (ltb rfl) g35 rfl (leb rfl) (leb rfl) (leb rfl) rfl (am_X3_signaturesMissing hG h) (kkI fun v34 X33 h => ?_) (kxN KrI.no)
        refine aw_widen (cc' := 3) (ss' := 18) (leb rfl) (leb rfl) ?_
        exact aw_ireturn (ty := .int) dX4_sign_89 rfl rfl (leb rfl) (leb rfl) (Or.inl ⟨_, rfl, h⟩)
      · replace h := h.2 c21
        exact aw_throw xcS 60 218 64 rfl th_xcS (by decide) (Or.inl ⟨dX4_sign_49, dX4_sign_52, dX4_sign_53, dX4_sign_55, dX4_sign_58⟩) rfl (ltb rfl) (leb rfl) (leb rfl) (leb rfl) (Or.inr ⟨_, rfl, h⟩))
set_option maxRecDepth 20000 in
theorem am_L_sign {G : GG} (hG : G.1.stackTraces = false) {l0 : Nat} {l1 : Int32} {l2 : Int32} {l3 : Int32} {X : XH} {K : Int32 → XH → Prop} (h : w_L_sign l0 l1 l2 l3 X K) : AM G M_L_sign X [.ref l0, .int l1, .int l2, .int l3] (KrI K) := AM_ofH (by decide +kernel) (0, 7, 8, 15) [(0, 7, 13, 19)] rfl (leb rfl) hG (by
  show AW G M_L_sign 0 [(0, .ref l0), (1, .int l1), (2, .int l2), (3, .int l3)] [] X 0 0 _
  unfold w_L_sign at h
  refine aw_aload_n 1 dL_sign_0 rfl 0 rfl rfl ?_
  refine aw_iload_n 2 dL_sign_1 rfl 1 rfl rfl ?_
  refine aw_iload_n 3 dL_sign_2 rfl 2 rfl rfl ?_
  refine aw_iload_n 4 dL_sign_3 rfl 3 rfl rfl ?_
  obtain ⟨g3, h⟩ := h
  refine aw_callV (M' := M_X4_sign) 7 56 4 l0 [.int _, .int _, .int _] [] dL_sign_4 lk_RL_56 mv_X4_sign mp_X4_sign rfl ⟨leb rfl, leb rfl⟩ rfl (ltb rfl) g3 rfl (leb rfl) (leb rfl) (leb rfl) rfl (am_X4_sign hG h) (kkT (kkI fun v2 X1 h => ?_)) (kxT KrI.no fun E X1 h => ?_)
  · refine aw_widen (cc' := 4) (ss' := 24) (leb rfl) (leb rfl) ?_
    exact aw_ireturn (ty := .int) dL_sign_7 rfl rfl (leb rfl) (leb rfl) ⟨_, rfl, h⟩
  · obtain ⟨hE, h⟩ := h
    rcases hE with rfl | rfl
    · refine aw_atc (lv' := [(0, .ref _), (1, .int _), (2, .int _), (3, .int _)]) [] (0, 7, 8, 15) [(0, 7, 13, 19)] rfl (fun z hz => nomatch hz) (by decide) (by decide) (tk3 (i := 40) (by decide +kernel) rfl) (by decide) 4 2 10 (Or.inr ⟨dL_sign_8, rfl⟩) (ltb rfl) rfl ?_
      refine aw_widen (cc' := 4) (ss' := 24) (leb rfl) (leb rfl) ?_
      replace h := h.1 rfl
      refine aw_bipush 12 (v := -2) dL_sign_10 kB_m2 rfl ?_
      exact aw_ireturn (ty := .int) dL_sign_12 rfl rfl (leb rfl) (leb rfl) ⟨_, rfl, h⟩
    · refine aw_atc (lv' := [(0, .ref _), (1, .int _), (2, .int _), (3, .int _)]) [(0, 7, 8, 15)] (0, 7, 13, 19) [] rfl (by intro z hz; simp only [List.mem_cons, List.not_mem_nil, or_false] at hz; rcases hz with rfl <;> first | exact ⟨by decide, xcI, tk3 (i := 40) (by decide +kernel) rfl, by decide⟩) (by decide) (by decide) (tk3 (i := 42) (by decide +kernel) rfl) (by decide) 4 2 15 (Or.inr ⟨dL_sign_13, rfl⟩) (ltb rfl) rfl ?_
      refine aw_widen (cc' := 4) (ss' := 24) (leb rfl) (leb rfl) ?_
      replace h := h.2 rfl
      refine aw_bipush 17 (v := -4) dL_sign_15 kB_m4 rfl ?_
      exact aw_ireturn (ty := .int) dL_sign_17 rfl rfl (leb rfl) (leb rfl) ⟨_, rfl, h⟩)
end XWK1
