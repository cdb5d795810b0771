/-! the walks of methods, as predicates -/
section XWK7
set_option maxRecDepth 20000 in
theorem aw_X5_annexedOf_15 {G : GG} (hG : G.1.stackTraces = false)  {l0 : Nat} {l1 : Int32} {l2 : Int32} {s0 : Nat} {s1 : Int32} {X : XH} {K : Int32 → XH → Prop}  (h : w_X5_annexedOf_15  l0 l1 l2 s0 s1 X K) : AW G M_X5_annexedOf 15 [(0, .ref l0), (1, .int l1), (2, .int l2)] [.int s1, .ref s0] X 0 0 (KrI K) := by
  unfold w_X5_annexedOf_15 at h
  obtain ⟨g3, h⟩ := h
  refine aw_callV (M' := M_X5_refused) 18 81 5 s0 [.int _] [] dX5_annexedOf_15 lk_RX5_81 mv_X5_refused mp_X5_refused rfl ⟨leb rfl, leb rfl⟩ rfl (ltb rfl) g3 rfl (leb rfl) (leb rfl) (leb rfl) rfl (am_X5_refused hG h) (kkI fun v2 X1 h => ?_) (kxN KrI.no)
  refine aw_widen (cc' := 0) (ss' := 0) (leb rfl) (leb rfl) ?_
  refine aw_if_eq 25 21 dX5_annexedOf_18 rfl rfl (fun c4 => ?_) (fun c4 => ?_)
  · replace h := h.1 c4
    refine aw_aload_n 26 dX5_annexedOf_25 rfl 0 rfl rfl ?_
    obtain ⟨g5, h⟩ := h
    obtain ⟨g6, h⟩ := h
    refine aw_getR 29 dX5_annexedOf_26 fl_RX5_7 rfl g5 g6 rfl ?_
    refine aw_iload_n 30 dX5_annexedOf_29 rfl 1 rfl rfl ?_
    refine aw_bipush 32 (v := 7) dX5_annexedOf_30 kB_7 rfl ?_
    refine aw_iload_n 33 dX5_annexedOf_32 rfl 2 rfl rfl ?_
    refine aw_iadd 34 dX5_annexedOf_33 rfl ?_
    refine aw_callS (M' := M_X5_at) 37 44 [.int _, .int _] [.ref _] dX5_annexedOf_34 lk_RX5_44 ms_X5_at mp_X5_at rfl ⟨leb rfl, leb rfl⟩ rfl (leb rfl) (leb rfl) (leb rfl) rfl (am_X5_at hG h) (kkI fun v8 X7 h => ?_) (kxN KrI.no)
    refine aw_widen (cc' := 0) (ss' := 0) (leb rfl) (leb rfl) ?_
    obtain ⟨g9, h⟩ := h
    obtain ⟨g10, h⟩ := h
    refine aw_iaload 38 dX5_annexedOf_37 g9 g10 rfl ?_
    exact aw_ireturn (ty := .int) dX5_annexedOf_38 rfl rfl (leb rfl) (leb rfl) ⟨_, rfl, h⟩
  · replace h := h.2 c4
    refine aw_iconst 22 (v := 0) dX5_annexedOf_21 kI_0 rfl ?_
    refine aw_goto 38 dX5_annexedOf_22 rfl ?_
    exact aw_ireturn (ty := .int) dX5_annexedOf_38 rfl rfl (leb rfl) (leb rfl) ⟨_, rfl, h⟩
set_option maxRecDepth 20000 in
theorem am_X5_annexedOf {G : GG} (hG : G.1.stackTraces = false) {l0 : Nat} {l1 : Int32} {l2 : Int32} {X : XH} {K : Int32 → XH → Prop} (h : w_X5_annexedOf l0 l1 l2 X K) : AM G M_X5_annexedOf X [.ref l0, .int l1, .int l2] (KrI K) := AM_of (by decide +kernel) rfl (leb rfl) hG (by
  show AW G M_X5_annexedOf 0 [(0, .ref l0), (1, .int l1), (2, .int l2)] [] X 0 0 _
  unfold w_X5_annexedOf at h
  refine aw_aload_n 1 dX5_annexedOf_0 rfl 0 rfl rfl ?_
  refine aw_aload_n 2 dX5_annexedOf_1 rfl 0 rfl rfl ?_
  refine aw_iload_n 3 dX5_annexedOf_2 rfl 1 rfl rfl ?_
  refine aw_iload_n 4 dX5_annexedOf_3 rfl 2 rfl rfl ?_
  obtain ⟨g3, h⟩ := h
  refine aw_callV (M' := M_X5_are) 7 97 5 l0 [.int _, .int _] [.ref _] dX5_annexedOf_4 lk_RX5_97 mv_X5_are mp_X5_are rfl ⟨leb rfl, leb rfl⟩ rfl (ltb rfl) g3 rfl (leb rfl) (leb rfl) (leb rfl) rfl (am_X5_are hG h) (kkI fun v2 X1 h => ?_) (kxN KrI.no)
  refine aw_widen (cc' := 0) (ss' := 0) (leb rfl) (leb rfl) ?_
  refine aw_if_eq 14 10 dX5_annexedOf_7 rfl rfl (fun c4 => ?_) (fun c4 => ?_)
  · replace h := h.1 c4
    refine aw_iconst 15 (v := 1) dX5_annexedOf_14 kI_1 rfl ?_
    exact aw_pick [0, 1, 2] rfl (aw_X5_annexedOf_15 hG  h)
  · replace h := h.2 c4
    refine aw_iconst 11 (v := 0) dX5_annexedOf_10 kI_0 rfl ?_
    refine aw_goto 15 dX5_annexedOf_11 rfl ?_
    exact aw_pick [0, 1, 2] rfl (aw_X5_annexedOf_15 hG  h))
set_option maxRecDepth 20000 in
theorem aw_X5_isRecorded_15 {G : GG} (hG : G.1.stackTraces = false)  {l0 : Nat} {l1 : Int32} {l2 : Int32} {s0 : Nat} {s1 : Int32} {X : XH} {K : Int32 → XH → Prop}  (h : w_X5_isRecorded_15  l0 l1 l2 s0 s1 X K) : AW G M_X5_isRecorded 15 [(0, .ref l0), (1, .int l1), (2, .int l2)] [.int s1, .ref s0] X 0 0 (KrI K) := by
  unfold w_X5_isRecorded_15 at h
  obtain ⟨g3, h⟩ := h
  refine aw_callV (M' := M_X5_refused) 18 81 5 s0 [.int _] [] dX5_isRecorded_15 lk_RX5_81 mv_X5_refused mp_X5_refused rfl ⟨leb rfl, leb rfl⟩ rfl (ltb rfl) g3 rfl (leb rfl) (leb rfl) (leb rfl) rfl (am_X5_refused hG h) (kkI fun v2 X1 h => ?_) (kxN KrI.no)
  refine aw_widen (cc' := 0) (ss' := 0) (leb rfl) (leb rfl) ?_
  refine aw_if_ne 34 21 dX5_isRecorded_18 rfl rfl (fun c4 => ?_) (fun c4 => ?_)
  · replace h := h.1 c4
    refine aw_iconst 35 (v := 0) dX5_isRecorded_34 kI_0 rfl ?_
    exact aw_ireturn (ty := .boolean) dX5_isRecorded_35 rfl rfl (leb rfl) (leb rfl) ⟨_, rfl, h⟩
  · replace h := h.2 c4
    refine aw_aload_n 22 dX5_isRecorded_21 rfl 0 rfl rfl ?_
    refine aw_iload_n 23 dX5_isRecorded_22 rfl 1 rfl rfl ?_
    refine aw_iload_n 24 dX5_isRecorded_23 rfl 2 rfl rfl ?_
    obtain ⟨g7, h⟩ := h
    refine aw_callV (M' := M_X5_isTaken) 27 51 5 l0 [.int _, .int _] [] dX5_isRecorded_24 lk_RX5_51 mv_X5_isTaken mp_X5_isTaken rfl ⟨leb rfl, leb rfl⟩ rfl (ltb rfl) g7 rfl (leb rfl) (leb rfl) (leb rfl) rfl (am_X5_isTaken hG h) (kkI fun v6 X5 h => ?_) (kxN KrI.no)
    refine aw_widen (cc' := 0) (ss' := 0) (leb rfl) (leb rfl) ?_
    refine aw_if_eq 34 30 dX5_isRecorded_27 rfl rfl (fun c8 => ?_) (fun c8 => ?_)
    · replace h := h.1 c8
      refine aw_iconst 35 (v := 0) dX5_isRecorded_34 kI_0 rfl ?_
      exact aw_ireturn (ty := .boolean) dX5_isRecorded_35 rfl rfl (leb rfl) (leb rfl) ⟨_, rfl, h⟩
    · replace h := h.2 c8
      refine aw_iconst 31 (v := 1) dX5_isRecorded_30 kI_1 rfl ?_
      refine aw_goto 35 dX5_isRecorded_31 rfl ?_
      exact aw_ireturn (ty := .boolean) dX5_isRecorded_35 rfl rfl (leb rfl) (leb rfl) ⟨_, rfl, h⟩
set_option maxRecDepth 20000 in
theorem am_X5_isRecorded {G : GG} (hG : G.1.stackTraces = false) {l0 : Nat} {l1 : Int32} {l2 : Int32} {X : XH} {K : Int32 → XH → Prop} (h : w_X5_isRecorded l0 l1 l2 X K) : AM G M_X5_isRecorded X [.ref l0, .int l1, .int l2] (KrI K) := AM_of (by decide +kernel) rfl (leb rfl) hG (by
  show AW G M_X5_isRecorded 0 [(0, .ref l0), (1, .int l1), (2, .int l2)] [] X 0 0 _
  unfold w_X5_isRecorded at h
  refine aw_aload_n 1 dX5_isRecorded_0 rfl 0 rfl rfl ?_
  refine aw_aload_n 2 dX5_isRecorded_1 rfl 0 rfl rfl ?_
  refine aw_iload_n 3 dX5_isRecorded_2 rfl 1 rfl rfl ?_
  refine aw_iload_n 4 dX5_isRecorded_3 rfl 2 rfl rfl ?_
  obtain ⟨g3, h⟩ := h
  refine aw_callV (M' := M_X5_are) 7 97 5 l0 [.int _, .int _] [.ref _] dX5_isRecorded_4 lk_RX5_97 mv_X5_are mp_X5_are rfl ⟨leb rfl, leb rfl⟩ rfl (ltb rfl) g3 rfl (leb rfl) (leb rfl) (leb rfl) rfl (am_X5_are hG h) (kkI fun v2 X1 h => ?_) (kxN KrI.no)
  refine aw_widen (cc' := 0) (ss' := 0) (leb rfl) (leb rfl) ?_
  refine aw_if_eq 14 10 dX5_isRecorded_7 rfl rfl (fun c4 => ?_) (fun c4 => ?_)
  · replace h := h.1 c4
    refine aw_iconst 15 (v := 1) dX5_isRecorded_14 kI_1 rfl ?_
    exact aw_pick [0, 1, 2] rfl (aw_X5_isRecorded_15 hG  h)
  · replace h := h.2 c4
    refine aw_iconst 11 (v := 0) dX5_isRecorded_10 kI_0 rfl ?_
    refine aw_goto 15 dX5_isRecorded_11 rfl ?_
    exact aw_pick [0, 1, 2] rfl (aw_X5_isRecorded_15 hG  h))
set_option maxRecDepth 20000 in
theorem am_X4_sessionOf {G : GG} (hG : G.1.stackTraces = false) {l0 : Nat} {l1 : Int32} {l2 : Int32} {X : XH} {K : Int32 → XH → Prop} {KX : String → XH → Prop} (h : w_X4_sessionOf l0 l1 l2 X K KX) : AM G M_X4_sessionOf X [.ref l0, .int l1, .int l2] (KxT (KrI K) KX) := AM_of (by decide +kernel) rfl (leb rfl) hG (by
  show AW G M_X4_sessionOf 0 [(0, .ref l0), (1, .int l1), (2, .int l2)] [] X 0 0 _
  unfold w_X4_sessionOf at h
  refine aw_aload_n 1 dX4_sessionOf_0 rfl 0 rfl rfl ?_
  refine aw_iload_n 2 dX4_sessionOf_1 rfl 1 rfl rfl ?_
  refine aw_iload_n 3 dX4_sessionOf_2 rfl 2 rfl rfl ?_
  obtain ⟨g2, h⟩ := h
  refine aw_callV (M' := M_X4_checkTranslation) 6 115 4 l0 [.int _, .int _] [] dX4_sessionOf_3 lk_RX4_115 mv_X4_checkTranslation mp_X4_checkTranslation rfl ⟨leb rfl, leb rfl⟩ rfl (ltb rfl) g2 rfl (leb rfl) (leb rfl) (leb rfl) rfl (am_X4_checkTranslation hG h) (kkT (kkV fun X1 h => ?_)) (kxT KrV.no fun E X h => at_out rfl (leb rfl) (leb rfl) (Or.inr ⟨_, rfl, h⟩))
  refine aw_widen (cc' := 2) (ss' := 12) (leb rfl) (leb rfl) ?_
  refine aw_aload_n 7 dX4_sessionOf_6 rfl 0 rfl rfl ?_
  refine aw_iload_n 8 dX4_sessionOf_7 rfl 1 rfl rfl ?_
  refine aw_iload_n 9 dX4_sessionOf_8 rfl 2 rfl rfl ?_
  obtain ⟨g4, h⟩ := h
  refine aw_callV (M' := M_X4_checkTaken) 12 178 4 l0 [.int _, .int _] [] dX4_sessionOf_9 lk_RX4_178 mv_X4_checkTaken mp_X4_checkTaken rfl ⟨leb rfl, leb rfl⟩ rfl (ltb rfl) g4 rfl (leb rfl) (leb rfl) (leb rfl) rfl (am_X4_checkTaken hG h) (kkT (kkV fun X3 h => ?_)) (kxT KrV.no fun E X h => at_out rfl (leb rfl) (leb rfl) (Or.inr ⟨_, rfl, h⟩))
  refine aw_widen (cc' := 3) (ss' := 18) (leb rfl) (leb rfl) ?_
  refine aw_aload_n 13 dX4_sessionOf_12 rfl 0 rfl rfl ?_
  obtain ⟨g5, h⟩ := h
  obtain ⟨g6, h⟩ := h
  refine aw_getR 16 dX4_sessionOf_13 fl_RX4_10 rfl g5 g6 rfl ?_
  refine aw_iload_n 17 dX4_sessionOf_16 rfl 1 rfl rfl ?_
  refine aw_iload_n 18 dX4_sessionOf_17 rfl 2 rfl rfl ?_
  obtain ⟨g9, h⟩ := h
  refine aw_callV (M' := M_X3_takenIn) 21 181 3 (hR X3 l0 0) [.int _, .int _] [] dX4_sessionOf_18 lk_RX4_181 mv_X3_takenIn mp_X3_takenIn rfl ⟨leb rfl, leb rfl⟩ rfl (ltb rfl) g9 rfl (leb rfl) (leb rfl) (leb rfl) rfl (am_X3_takenIn hG h) (kkI fun v8 X7 h => ?_) (kxN KrI.no)
  refine aw_widen (cc' := 3) (ss' := 18) (leb rfl) (leb rfl) ?_
  exact aw_ireturn (ty := .int) dX4_sessionOf_21 rfl rfl (leb rfl) (leb rfl) (Or.inl ⟨_, rfl, h⟩))
set_option maxRecDepth 20000 in
theorem am_L_sessionOf {G : GG} (hG : G.1.stackTraces = false) {l0 : Nat} {l1 : Int32} {l2 : Int32} {l3 : Nat} {X : XH} {K : Int32 → XH → Prop} (h : w_L_sessionOf l0 l1 l2 l3 X K) : AM G M_L_sessionOf X [.ref l0, .int l1, .int l2, .ref l3] (KrI K) := AM_ofH (by decide +kernel) (0, 10, 13, 13) [(0, 10, 17, 17)] rfl (leb rfl) hG (by
  show AW G M_L_sessionOf 0 [(0, .ref l0), (1, .int l1), (2, .int l2), (3, .ref l3)] [] X 0 0 _
  unfold w_L_sessionOf at h
  refine aw_aload_n 1 dL_sessionOf_0 rfl 3 rfl rfl ?_
  refine aw_iconst 2 (v := 0) dL_sessionOf_1 kI_0 rfl ?_
  refine aw_aload_n 3 dL_sessionOf_2 rfl 0 rfl rfl ?_
  refine aw_iload_n 4 dL_sessionOf_3 rfl 1 rfl rfl ?_
  refine aw_iload_n 5 dL_sessionOf_4 rfl 2 rfl rfl ?_
  obtain ⟨g3, h⟩ := h
  refine aw_callV (M' := M_X4_sessionOf) 8 99 4 l0 [.int _, .int _] [.int _, .ref _] dL_sessionOf_5 lk_RL_99 mv_X4_sessionOf mp_X4_sessionOf rfl ⟨leb rfl, leb rfl⟩ rfl (ltb rfl) g3 rfl (leb rfl) (leb rfl) (leb rfl) rfl (am_X4_sessionOf hG h) (kkT (kkI fun v2 X1 h => ?_)) (kxT KrI.no fun E X1 h => ?_)
  · refine aw_widen (cc' := 3) (ss' := 18) (leb rfl) (leb rfl) ?_
    refine aw_i2l 9 dL_sessionOf_8 rfl ?_
    obtain ⟨g4, h⟩ := h
    obtain ⟨g5, h⟩ := h
    refine aw_lastore 10 dL_sessionOf_9 g4 g5 rfl ?_
    refine aw_goto 21 dL_sessionOf_10 rfl ?_
    refine aw_iconst 22 (v := 0) dL_sessionOf_21 kI_0 rfl ?_
    exact aw_ireturn (ty := .int) dL_sessionOf_22 rfl rfl (leb rfl) (leb rfl) ⟨_, rfl, h⟩
  · obtain ⟨hE, h⟩ := h
    rcases hE with rfl | rfl
    · refine aw_atc (lv' := [(0, .ref _), (1, .int _), (2, .int _), (3, .ref _)]) [] (0, 10, 13, 13) [(0, 10, 17, 17)] rfl (fun z hz => nomatch hz) (by decide) (by decide) (tk3 (i := 61) (by decide +kernel) rfl) (by decide) 4 2 15 (Or.inr ⟨dL_sessionOf_13, rfl⟩) (ltb rfl) rfl ?_
      refine aw_widen (cc' := 3) (ss' := 18) (leb rfl) (leb rfl) ?_
      replace h := h.1 rfl
      refine aw_iconst 16 (v := 1) dL_sessionOf_15 kI_1 rfl ?_
      exact aw_ireturn (ty := .int) dL_sessionOf_16 rfl rfl (leb rfl) (leb rfl) ⟨_, rfl, h⟩
    · refine aw_atc (lv' := [(0, .ref _), (1, .int _), (2, .int _), (3, .ref _)]) [(0, 10, 13, 13)] (0, 10, 17, 17) [] rfl (by intro z hz; simp only [List.mem_cons, List.not_mem_nil, or_false] at hz; rcases hz with rfl <;> first | exact ⟨by decide, xcI, tk3 (i := 61) (by decide +kernel) rfl, by decide⟩) (by decide) (by decide) (tk3 (i := 63) (by decide +kernel) rfl) (by decide) 4 2 19 (Or.inr ⟨dL_sessionOf_17, rfl⟩) (ltb rfl) rfl ?_
      refine aw_widen (cc' := 3) (ss' := 18) (leb rfl) (leb rfl) ?_
      replace h := h.2 rfl
      refine aw_iconst 20 (v := 2) dL_sessionOf_19 kI_2 rfl ?_
      exact aw_ireturn (ty := .int) dL_sessionOf_20 rfl rfl (leb rfl) (leb rfl) ⟨_, rfl, h⟩)
set_option maxRecDepth 20000 in
theorem aw_X5_sessionOf_28 {G : GG} (hG : G.1.stackTraces = false)  {l0 : Nat} {l1 : Int32} {l2 : Int32} {s0 : Nat} {s1 : Int32} {X : XH} {K : Int32 → XH → Prop}  (h : w_X5_sessionOf_28  l0 l1 l2 s0 s1 X K) : AW G M_X5_sessionOf 28 [(0, .ref l0), (1, .int l1), (2, .int l2)] [.int s1, .ref s0] X 0 0 (KrI K) := by
  unfold w_X5_sessionOf_28 at h
  obtain ⟨g3, h⟩ := h
  refine aw_callV (M' := M_X5_refused) 31 81 5 s0 [.int _] [] dX5_sessionOf_28 lk_RX5_81 mv_X5_refused mp_X5_refused rfl ⟨leb rfl, leb rfl⟩ rfl (ltb rfl) g3 rfl (leb rfl) (leb rfl) (leb rfl) rfl (am_X5_refused hG h) (kkI fun v2 X1 h => ?_) (kxN KrI.no)
  refine aw_widen (cc' := 0) (ss' := 0) (leb rfl) (leb rfl) ?_
  refine aw_if_eq 38 34 dX5_sessionOf_31 rfl rfl (fun c4 => ?_) (fun c4 => ?_)
  · replace h := h.1 c4
    refine aw_aload_n 39 dX5_sessionOf_38 rfl 0 rfl rfl ?_
    obtain ⟨g5, h⟩ := h
    obtain ⟨g6, h⟩ := h
    refine aw_getR 42 dX5_sessionOf_39 fl_RX5_7 rfl g5 g6 rfl ?_
    refine aw_iload_n 43 dX5_sessionOf_42 rfl 1 rfl rfl ?_
    refine aw_bipush 45 (v := 10) dX5_sessionOf_43 kB_10 rfl ?_
    refine aw_iload_n 46 dX5_sessionOf_45 rfl 2 rfl rfl ?_
    refine aw_iadd 47 dX5_sessionOf_46 rfl ?_
    refine aw_callS (M' := M_X5_at) 50 44 [.int _, .int _] [.ref _] dX5_sessionOf_47 lk_RX5_44 ms_X5_at mp_X5_at rfl ⟨leb rfl, leb rfl⟩ rfl (leb rfl) (leb rfl) (leb rfl) rfl (am_X5_at hG h) (kkI fun v8 X7 h => ?_) (kxN KrI.no)
    refine aw_widen (cc' := 0) (ss' := 0) (leb rfl) (leb rfl) ?_
    obtain ⟨g9, h⟩ := h
    obtain ⟨g10, h⟩ := h
    refine aw_iaload 51 dX5_sessionOf_50 g9 g10 rfl ?_
    refine aw_iconst 52 (v := 1) dX5_sessionOf_51 kI_1 rfl ?_
    refine aw_isub 53 dX5_sessionOf_52 rfl ?_
    exact aw_ireturn (ty := .int) dX5_sessionOf_53 rfl rfl (leb rfl) (leb rfl) ⟨_, rfl, h⟩
  · replace h := h.2 c4
    refine aw_iconst 35 (v := 0) dX5_sessionOf_34 kI_0 rfl ?_
    refine aw_goto 53 dX5_sessionOf_35 rfl ?_
    exact aw_ireturn (ty := .int) dX5_sessionOf_53 rfl rfl (leb rfl) (leb rfl) ⟨_, rfl, h⟩
set_option maxRecDepth 20000 in
theorem am_X5_sessionOf {G : GG} (hG : G.1.stackTraces = false) {l0 : Nat} {l1 : Int32} {l2 : Int32} {X : XH} {K : Int32 → XH → Prop} (h : w_X5_sessionOf l0 l1 l2 X K) : AM G M_X5_sessionOf X [.ref l0, .int l1, .int l2] (KrI K) := AM_of (by decide +kernel) rfl (leb rfl) hG (by
  show AW G M_X5_sessionOf 0 [(0, .ref l0), (1, .int l1), (2, .int l2)] [] X 0 0 _
  unfold w_X5_sessionOf at h
  refine aw_aload_n 1 dX5_sessionOf_0 rfl 0 rfl rfl ?_
  refine aw_aload_n 2 dX5_sessionOf_1 rfl 0 rfl rfl ?_
  refine aw_iload_n 3 dX5_sessionOf_2 rfl 1 rfl rfl ?_
  refine aw_iload_n 4 dX5_sessionOf_3 rfl 2 rfl rfl ?_
  obtain ⟨g3, h⟩ := h
  refine aw_callV (M' := M_X5_are) 7 97 5 l0 [.int _, .int _] [.ref _] dX5_sessionOf_4 lk_RX5_97 mv_X5_are mp_X5_are rfl ⟨leb rfl, leb rfl⟩ rfl (ltb rfl) g3 rfl (leb rfl) (leb rfl) (leb rfl) rfl (am_X5_are hG h) (kkI fun v2 X1 h => ?_) (kxN KrI.no)
  refine aw_widen (cc' := 0) (ss' := 0) (leb rfl) (leb rfl) ?_
  refine aw_if_ne 14 10 dX5_sessionOf_7 rfl rfl (fun c4 => ?_) (fun c4 => ?_)
  · replace h := h.1 c4
    refine aw_aload_n 15 dX5_sessionOf_14 rfl 0 rfl rfl ?_
    refine aw_iload_n 16 dX5_sessionOf_15 rfl 1 rfl rfl ?_
    refine aw_iload_n 17 dX5_sessionOf_16 rfl 2 rfl rfl ?_
    obtain ⟨g7, h⟩ := h
    refine aw_callV (M' := M_X5_isTaken) 20 51 5 l0 [.int _, .int _] [.ref _] dX5_sessionOf_17 lk_RX5_51 mv_X5_isTaken mp_X5_isTaken rfl ⟨leb rfl, leb rfl⟩ rfl (ltb rfl) g7 rfl (leb rfl) (leb rfl) (leb rfl) rfl (am_X5_isTaken hG h) (kkI fun v6 X5 h => ?_) (kxN KrI.no)
    refine aw_widen (cc' := 0) (ss' := 0) (leb rfl) (leb rfl) ?_
    refine aw_if_eq 27 23 dX5_sessionOf_20 rfl rfl (fun c8 => ?_) (fun c8 => ?_)
    · replace h := h.1 c8
      refine aw_iconst 28 (v := 2) dX5_sessionOf_27 kI_2 rfl ?_
      exact aw_pick [0, 1, 2] rfl (aw_X5_sessionOf_28 hG  h)
    · replace h := h.2 c8
      refine aw_iconst 24 (v := 0) dX5_sessionOf_23 kI_0 rfl ?_
      refine aw_goto 28 dX5_sessionOf_24 rfl ?_
      exact aw_pick [0, 1, 2] rfl (aw_X5_sessionOf_28 hG  h)
  · replace h := h.2 c4
    refine aw_iconst 11 (v := 1) dX5_sessionOf_10 kI_1 rfl ?_
    refine aw_goto 28 dX5_sessionOf_11 rfl ?_
    exact aw_pick [0, 1, 2] rfl (aw_X5_sessionOf_28 hG  h))
set_option maxRecDepth 20000 in
theorem am_X4_roomFor {G : GG} (hG : G.1.stackTraces = false) {l0 : Nat} {l1 : Int32} {l2 : Int32} {X : XH} {K : Int32 → XH → Prop} {KX : String → XH → Prop} (h : w_X4_roomFor l0 l1 l2 X K KX) : AM G M_X4_roomFor X [.ref l0, .int l1, .int l2] (KxT (KrI K) KX) := AM_of (by decide +kernel) rfl (leb rfl) hG (by
  show AW G M_X4_roomFor 0 [(0, .ref l0), (1, .int l1), (2, .int l2)] [] X 0 0 _
  unfold w_X4_roomFor at h
  refine aw_aload_n 1 dX4_roomFor_0 rfl 0 rfl rfl ?_
  refine aw_iload_n 2 dX4_roomFor_1 rfl 1 rfl rfl ?_
  refine aw_iload_n 3 dX4_roomFor_2 rfl 2 rfl rfl ?_
  obtain ⟨g2, h⟩ := h
  refine aw_callV (M' := M_X4_checkTranslation) 6 115 4 l0 [.int _, .int _] [] dX4_roomFor_3 lk_RX4_115 mv_X4_checkTranslation mp_X4_checkTranslation rfl ⟨leb rfl, leb rfl⟩ rfl (ltb rfl) g2 rfl (leb rfl) (leb rfl) (leb rfl) rfl (am_X4_checkTranslation hG h) (kkT (kkV fun X1 h => ?_)) (kxT KrV.no fun E X h => at_out rfl (leb rfl) (leb rfl) (Or.inr ⟨_, rfl, h⟩))
  refine aw_widen (cc' := 2) (ss' := 12) (leb rfl) (leb rfl) ?_
  refine aw_aload_n 7 dX4_roomFor_6 rfl 0 rfl rfl ?_
  refine aw_iload_n 8 dX4_roomFor_7 rfl 1 rfl rfl ?_
  refine aw_iload_n 9 dX4_roomFor_8 rfl 2 rfl rfl ?_
  obtain ⟨g4, h⟩ := h
  refine aw_callV (M' := M_X4_checkTranslated) 12 286 4 l0 [.int _, .int _] [] dX4_roomFor_9 lk_RX4_286 mv_X4_checkTranslated mp_X4_checkTranslated rfl ⟨leb rfl, leb rfl⟩ rfl (ltb rfl) g4 rfl (leb rfl) (leb rfl) (leb rfl) rfl (am_X4_checkTranslated hG h) (kkT (kkV fun X3 h => ?_)) (kxT KrV.no fun E X h => at_out rfl (leb rfl) (leb rfl) (Or.inr ⟨_, rfl, h⟩))
  refine aw_widen (cc' := 3) (ss' := 18) (leb rfl) (leb rfl) ?_
  refine aw_aload_n 13 dX4_roomFor_12 rfl 0 rfl rfl ?_
  obtain ⟨g5, h⟩ := h
  obtain ⟨g6, h⟩ := h
  refine aw_getR 16 dX4_roomFor_13 fl_RX4_10 rfl g5 g6 rfl ?_
  refine aw_iload_n 17 dX4_roomFor_16 rfl 1 rfl rfl ?_
  refine aw_iload_n 18 dX4_roomFor_17 rfl 2 rfl rfl ?_
  obtain ⟨g9, h⟩ := h
  refine aw_callV (M' := M_X3_roomAt) 21 129 3 (hR X3 l0 0) [.int _, .int _] [] dX4_roomFor_18 lk_RX4_129 mv_X3_roomAt mp_X3_roomAt rfl ⟨leb rfl, leb rfl⟩ rfl (ltb rfl) g9 rfl (leb rfl) (leb rfl) (leb rfl) rfl (am_X3_roomAt hG h) (kkI fun v8 X7 h => ?_) (kxN KrI.no)
  refine aw_widen (cc' := 3) (ss' := 18) (leb rfl) (leb rfl) ?_
  exact aw_ireturn (ty := .int) dX4_roomFor_21 rfl rfl (leb rfl) (leb rfl) (Or.inl ⟨_, rfl, h⟩))
set_option maxRecDepth 20000 in
theorem am_L_roomFor {G : GG} (hG : G.1.stackTraces = false) {l0 : Nat} {l1 : Int32} {l2 : Int32} {l3 : Nat} {X : XH} {K : Int32 → XH → Prop} (h : w_L_roomFor l0 l1 l2 l3 X K) : AM G M_L_roomFor X [.ref l0, .int l1, .int l2, .ref l3] (KrI K) := AM_ofH (by decide +kernel) (0, 10, 13, 13) [(0, 10, 17, 17)] rfl (leb rfl) hG (by
  show AW G M_L_roomFor 0 [(0, .ref l0), (1, .int l1), (2, .int l2), (3, .ref l3)] [] X 0 0 _
  unfold w_L_roomFor at h
  refine aw_aload_n 1 dL_roomFor_0 rfl 3 rfl rfl ?_
  refine aw_iconst 2 (v := 0) dL_roomFor_1 kI_0 rfl ?_
  refine aw_aload_n 3 dL_roomFor_2 rfl 0 rfl rfl ?_
  refine aw_iload_n 4 dL_roomFor_3 rfl 1 rfl rfl ?_
  refine aw_iload_n 5 dL_roomFor_4 rfl 2 rfl rfl ?_
  obtain ⟨g3, h⟩ := h
  refine aw_callV (M' := M_X4_roomFor) 8 102 4 l0 [.int _, .int _] [.int _, .ref _] dL_roomFor_5 lk_RL_102 mv_X4_roomFor mp_X4_roomFor rfl ⟨leb rfl, leb rfl⟩ rfl (ltb rfl) g3 rfl (leb rfl) (leb rfl) (leb rfl) rfl (am_X4_roomFor hG h) (kkT (kkI fun v2 X1 h => ?_)) (kxT KrI.no fun E X1 h => ?_)
  · refine aw_widen (cc' := 3) (ss' := 18) (leb rfl) (leb rfl) ?_
    refine aw_i2l 9 dL_roomFor_8 rfl ?_
    obtain ⟨g4, h⟩ := h
    obtain ⟨g5, h⟩ := h
    refine aw_lastore 10 dL_roomFor_9 g4 g5 rfl ?_
    refine aw_goto 21 dL_roomFor_10 rfl ?_
    refine aw_iconst 22 (v := 0) dL_roomFor_21 kI_0 rfl ?_
    exact aw_ireturn (ty := .int) dL_roomFor_22 rfl rfl (leb rfl) (leb rfl) ⟨_, rfl, h⟩
  · obtain ⟨hE, h⟩ := h
    rcases hE with rfl | rfl
    · refine aw_atc (lv' := [(0, .ref _), (1, .int _), (2, .int _), (3, .ref _)]) [] (0, 10, 13, 13) [(0, 10, 17, 17)] rfl (fun z hz => nomatch hz) (by decide) (by decide) (tk3 (i := 61) (by decide +kernel) rfl) (by decide) 4 2 15 (Or.inr ⟨dL_roomFor_13, rfl⟩) (ltb rfl) rfl ?_
      refine aw_widen (cc' := 3) (ss' := 18) (leb rfl) (leb rfl) ?_
      replace h := h.1 rfl
      refine aw_iconst 16 (v := 1) dL_roomFor_15 kI_1 rfl ?_
      exact aw_ireturn (ty := .int) dL_roomFor_16 rfl rfl (leb rfl) (leb rfl) ⟨_, rfl, h⟩
    · refine aw_atc (lv' := [(0, .ref _), (1, .int _), (2, .int _), (3, .ref _)]) [(0, 10, 13, 13)] (0, 10, 17, 17) [] rfl (by intro z hz; simp only [List.mem_cons, List.not_mem_nil, or_false] at hz; rcases hz with rfl <;> first | exact ⟨by decide, xcI, tk3 (i := 61) (by decide +kernel) rfl, by decide⟩) (by decide) (by decide) (tk3 (i := 63) (by decide +kernel) rfl) (by decide) 4 2 19 (Or.inr ⟨dL_roomFor_17, rfl⟩) (ltb rfl) rfl ?_
      refine aw_widen (cc' := 3) (ss' := 18) (leb rfl) (leb rfl) ?_
      replace h := h.2 rfl
      refine aw_iconst 20 (v := 2) dL_roomFor_19 kI_2 rfl ?_
      exact aw_ireturn (ty := .int) dL_roomFor_20 rfl rfl (leb rfl) (leb rfl) ⟨_, rfl, h⟩)
set_option maxRecDepth 20000 in
theorem am_X5_room {G : GG} (hG : G.1.stackTraces = false) {l0 : Nat} {l1 : Int32} {l2 : Int32} {X : XH} {K : Int32 → XH → Prop} (h : w_X5_room l0 l1 l2 X K) : AM G M_X5_room X [.ref l0, .int l1, .int l2] (KrI K) := AM_of (by decide +kernel) rfl (leb rfl) hG (by
  show AW G M_X5_room 0 [(0, .ref l0), (1, .int l1), (2, .int l2)] [] X 0 0 _
  unfold w_X5_room at h
  refine aw_aload_n 1 dX5_room_0 rfl 0 rfl rfl ?_
  obtain ⟨g1, h⟩ := h
  obtain ⟨g2, h⟩ := h
  refine aw_getR 4 dX5_room_1 fl_RX5_7 rfl g1 g2 rfl ?_
  refine aw_iload_n 5 dX5_room_4 rfl 1 rfl rfl ?_
  refine aw_iconst 6 (v := 2) dX5_room_5 kI_2 rfl ?_
  refine aw_callS (M' := M_X5_at) 9 44 [.int _, .int _] [.ref _] dX5_room_6 lk_RX5_44 ms_X5_at mp_X5_at rfl ⟨leb rfl, leb rfl⟩ rfl (leb rfl) (leb rfl) (leb rfl) rfl (am_X5_at hG h) (kkI fun v4 X3 h => ?_) (kxN KrI.no)
  refine aw_widen (cc' := 0) (ss' := 0) (leb rfl) (leb rfl) ?_
  obtain ⟨g5, h⟩ := h
  obtain ⟨g6, h⟩ := h
  refine aw_iaload 10 dX5_room_9 g5 g6 rfl ?_
  refine aw_aload_n 11 dX5_room_10 rfl 0 rfl rfl ?_
  refine aw_iload_n 12 dX5_room_11 rfl 1 rfl rfl ?_
  refine aw_iload_n 13 dX5_room_12 rfl 2 rfl rfl ?_
  obtain ⟨g9, h⟩ := h
  refine aw_callV (M' := M_X5_both) 16 59 5 l0 [.int _, .int _] [.int _] dX5_room_13 lk_RX5_59 mv_X5_both mp_X5_both rfl ⟨leb rfl, leb rfl⟩ rfl (ltb rfl) g9 rfl (leb rfl) (leb rfl) (leb rfl) rfl (am_X5_both hG h) (kkI fun v8 X7 h => ?_) (kxN KrI.no)
  refine aw_widen (cc' := 0) (ss' := 0) (leb rfl) (leb rfl) ?_
  refine aw_isub 17 dX5_room_16 rfl ?_
  exact aw_ireturn (ty := .int) dX5_room_17 rfl rfl (leb rfl) (leb rfl) ⟨_, rfl, h⟩)
set_option maxRecDepth 20000 in
theorem am_X5_roomFor {G : GG} (hG : G.1.stackTraces = false) {l0 : Nat} {l1 : Int32} {l2 : Int32} {X : XH} {K : Int32 → XH → Prop} (h : w_X5_roomFor l0 l1 l2 X K) : AM G M_X5_roomFor X [.ref l0, .int l1, .int l2] (KrI K) := AM_of (by decide +kernel) rfl (leb rfl) hG (by
  show AW G M_X5_roomFor 0 [(0, .ref l0), (1, .int l1), (2, .int l2)] [] X 0 0 _
  unfold w_X5_roomFor at h
  refine aw_aload_n 1 dX5_roomFor_0 rfl 0 rfl rfl ?_
  refine aw_aload_n 2 dX5_roomFor_1 rfl 0 rfl rfl ?_
  refine aw_iload_n 3 dX5_roomFor_2 rfl 1 rfl rfl ?_
  refine aw_iload_n 4 dX5_roomFor_3 rfl 2 rfl rfl ?_
  obtain ⟨g3, h⟩ := h
  refine aw_callV (M' := M_X5_badTranslation) 7 173 5 l0 [.int _, .int _] [.ref _] dX5_roomFor_4 lk_RX5_173 mv_X5_badTranslation mp_X5_badTranslation rfl ⟨leb rfl, leb rfl⟩ rfl (ltb rfl) g3 rfl (leb rfl) (leb rfl) (leb rfl) rfl (am_X5_badTranslation hG h) (kkI fun v2 X1 h => ?_) (kxN KrI.no)
  refine aw_widen (cc' := 0) (ss' := 0) (leb rfl) (leb rfl) ?_
  obtain ⟨g6, h⟩ := h
  refine aw_callV (M' := M_X5_refused) 10 81 5 l0 [.int _] [] dX5_roomFor_7 lk_RX5_81 mv_X5_refused mp_X5_refused rfl ⟨leb rfl, leb rfl⟩ rfl (ltb rfl) g6 rfl (leb rfl) (leb rfl) (leb rfl) rfl (am_X5_refused hG h) (kkI fun v5 X4 h => ?_) (kxN KrI.no)
  refine aw_widen (cc' := 0) (ss' := 0) (leb rfl) (leb rfl) ?_
  refine aw_if_eq 17 13 dX5_roomFor_10 rfl rfl (fun c7 => ?_) (fun c7 => ?_)
  · replace h := h.1 c7
    refine aw_aload_n 18 dX5_roomFor_17 rfl 0 rfl rfl ?_
    refine aw_iload_n 19 dX5_roomFor_18 rfl 1 rfl rfl ?_
    refine aw_iload_n 20 dX5_roomFor_19 rfl 2 rfl rfl ?_
    obtain ⟨g10, h⟩ := h
    refine aw_callV (M' := M_X5_room) 23 176 5 l0 [.int _, .int _] [] dX5_roomFor_20 lk_RX5_176 mv_X5_room mp_X5_room rfl ⟨leb rfl, leb rfl⟩ rfl (ltb rfl) g10 rfl (leb rfl) (leb rfl) (leb rfl) rfl (am_X5_room hG h) (kkI fun v9 X8 h => ?_) (kxN KrI.no)
    refine aw_widen (cc' := 0) (ss' := 0) (leb rfl) (leb rfl) ?_
    exact aw_ireturn (ty := .int) dX5_roomFor_23 rfl rfl (leb rfl) (leb rfl) ⟨_, rfl, h⟩
  · replace h := h.2 c7
    refine aw_iconst 14 (v := 0) dX5_roomFor_13 kI_0 rfl ?_
    refine aw_goto 23 dX5_roomFor_14 rfl ?_
    exact aw_ireturn (ty := .int) dX5_roomFor_23 rfl rfl (leb rfl) (leb rfl) ⟨_, rfl, h⟩)
set_option maxRecDepth 20000 in
theorem aw_X5_fits_15 {G : GG} (hG : G.1.stackTraces = false)  {l0 : Nat} {l1 : Int32} {l2 : Int32} {s0 : Nat} {s1 : Int32} {X : XH} {K : Int32 → XH → Prop}  (h : w_X5_fits_15  l0 l1 l2 s0 s1 X K) : AW G M_X5_fits 15 [(0, .ref l0), (1, .int l1), (2, .int l2)] [.int s1, .ref s0] X 0 0 (KrI K) := by
  unfold w_X5_fits_15 at h
  obtain ⟨g3, h⟩ := h
  refine aw_callV (M' := M_X5_refused) 18 81 5 s0 [.int _] [] dX5_fits_15 lk_RX5_81 mv_X5_refused mp_X5_refused rfl ⟨leb rfl, leb rfl⟩ rfl (ltb rfl) g3 rfl (leb rfl) (leb rfl) (leb rfl) rfl (am_X5_refused hG h) (kkI fun v2 X1 h => ?_) (kxN KrI.no)
  refine aw_widen (cc' := 0) (ss' := 0) (leb rfl) (leb rfl) ?_
  refine aw_if_ne 34 21 dX5_fits_18 rfl rfl (fun c4 => ?_) (fun c4 => ?_)
  · replace h := h.1 c4
    refine aw_iconst 35 (v := 0) dX5_fits_34 kI_0 rfl ?_
    exact aw_ireturn (ty := .boolean) dX5_fits_35 rfl rfl (leb rfl) (leb rfl) ⟨_, rfl, h⟩
  · replace h := h.2 c4
    refine aw_aload_n 22 dX5_fits_21 rfl 0 rfl rfl ?_
    refine aw_iload_n 23 dX5_fits_22 rfl 1 rfl rfl ?_
    refine aw_iload_n 24 dX5_fits_23 rfl 2 rfl rfl ?_
    obtain ⟨g7, h⟩ := h
    refine aw_callV (M' := M_X5_fitting) 27 62 5 l0 [.int _, .int _] [] dX5_fits_24 lk_RX5_62 mv_X5_fitting mp_X5_fitting rfl ⟨leb rfl, leb rfl⟩ rfl (ltb rfl) g7 rfl (leb rfl) (leb rfl) (leb rfl) rfl (am_X5_fitting hG h) (kkI fun v6 X5 h => ?_) (kxN KrI.no)
    refine aw_widen (cc' := 0) (ss' := 0) (leb rfl) (leb rfl) ?_
    refine aw_if_eq 34 30 dX5_fits_27 rfl rfl (fun c8 => ?_) (fun c8 => ?_)
    · replace h := h.1 c8
      refine aw_iconst 35 (v := 0) dX5_fits_34 kI_0 rfl ?_
      exact aw_ireturn (ty := .boolean) dX5_fits_35 rfl rfl (leb rfl) (leb rfl) ⟨_, rfl, h⟩
    · replace h := h.2 c8
      refine aw_iconst 31 (v := 1) dX5_fits_30 kI_1 rfl ?_
      refine aw_goto 35 dX5_fits_31 rfl ?_
      exact aw_ireturn (ty := .boolean) dX5_fits_35 rfl rfl (leb rfl) (leb rfl) ⟨_, rfl, h⟩
set_option maxRecDepth 20000 in
theorem am_X5_fits {G : GG} (hG : G.1.stackTraces = false) {l0 : Nat} {l1 : Int32} {l2 : Int32} {X : XH} {K : Int32 → XH → Prop} (h : w_X5_fits l0 l1 l2 X K) : AM G M_X5_fits X [.ref l0, .int l1, .int l2] (KrI K) := AM_of (by decide +kernel) rfl (leb rfl) hG (by
  show AW G M_X5_fits 0 [(0, .ref l0), (1, .int l1), (2, .int l2)] [] X 0 0 _
  unfold w_X5_fits at h
  refine aw_aload_n 1 dX5_fits_0 rfl 0 rfl rfl ?_
  refine aw_aload_n 2 dX5_fits_1 rfl 0 rfl rfl ?_
  refine aw_iload_n 3 dX5_fits_2 rfl 1 rfl rfl ?_
  refine aw_iload_n 4 dX5_fits_3 rfl 2 rfl rfl ?_
  obtain ⟨g3, h⟩ := h
  refine aw_callV (M' := M_X5_are) 7 97 5 l0 [.int _, .int _] [.ref _] dX5_fits_4 lk_RX5_97 mv_X5_are mp_X5_are rfl ⟨leb rfl, leb rfl⟩ rfl (ltb rfl) g3 rfl (leb rfl) (leb rfl) (leb rfl) rfl (am_X5_are hG h) (kkI fun v2 X1 h => ?_) (kxN KrI.no)
  refine aw_widen (cc' := 0) (ss' := 0) (leb rfl) (leb rfl) ?_
  refine aw_if_eq 14 10 dX5_fits_7 rfl rfl (fun c4 => ?_) (fun c4 => ?_)
  · replace h := h.1 c4
    refine aw_iconst 15 (v := 1) dX5_fits_14 kI_1 rfl ?_
    exact aw_pick [0, 1, 2] rfl (aw_X5_fits_15 hG  h)
  · replace h := h.2 c4
    refine aw_iconst 11 (v := 0) dX5_fits_10 kI_0 rfl ?_
    refine aw_goto 15 dX5_fits_11 rfl ?_
    exact aw_pick [0, 1, 2] rfl (aw_X5_fits_15 hG  h))
set_option maxRecDepth 20000 in
theorem am_X5_hundredths {G : GG} (hG : G.1.stackTraces = false) {l0 : Nat} {l1 : Int32} {l2 : Int32} {X : XH} {K : Int32 → XH → Prop} (h : w_X5_hundredths l0 l1 l2 X K) : AM G M_X5_hundredths X [.ref l0, .int l1, .int l2] (KrI K) := AM_of (by decide +kernel) rfl (leb rfl) hG (by
  show AW G M_X5_hundredths 0 [(0, .ref l0), (1, .int l1), (2, .int l2)] [] X 0 0 _
  unfold w_X5_hundredths at h
  refine aw_bipush 2 (v := 100) dX5_hundredths_0 kB_100 rfl ?_
  refine aw_aload_n 3 dX5_hundredths_2 rfl 0 rfl rfl ?_
  refine aw_iload_n 4 dX5_hundredths_3 rfl 1 rfl rfl ?_
  refine aw_iload_n 5 dX5_hundredths_4 rfl 2 rfl rfl ?_
  obtain ⟨g3, h⟩ := h
  refine aw_callV (M' := M_X5_both) 8 59 5 l0 [.int _, .int _] [.int _] dX5_hundredths_5 lk_RX5_59 mv_X5_both mp_X5_both rfl ⟨leb rfl, leb rfl⟩ rfl (ltb rfl) g3 rfl (leb rfl) (leb rfl) (leb rfl) rfl (am_X5_both hG h) (kkI fun v2 X1 h => ?_) (kxN KrI.no)
  refine aw_widen (cc' := 0) (ss' := 0) (leb rfl) (leb rfl) ?_
  refine aw_imul 9 dX5_hundredths_8 rfl ?_
  refine aw_aload_n 10 dX5_hundredths_9 rfl 0 rfl rfl ?_
  obtain ⟨g4, h⟩ := h
  obtain ⟨g5, h⟩ := h
  refine aw_getR 13 dX5_hundredths_10 fl_RX5_7 rfl g4 g5 rfl ?_
  refine aw_iload_n 14 dX5_hundredths_13 rfl 1 rfl rfl ?_
  refine aw_iconst 15 (v := 2) dX5_hundredths_14 kI_2 rfl ?_
  refine aw_callS (M' := M_X5_at) 18 44 [.int _, .int _] [.ref _, .int _] dX5_hundredths_15 lk_RX5_44 ms_X5_at mp_X5_at rfl ⟨leb rfl, leb rfl⟩ rfl (leb rfl) (leb rfl) (leb rfl) rfl (am_X5_at hG h) (kkI fun v7 X6 h => ?_) (kxN KrI.no)
  refine aw_widen (cc' := 0) (ss' := 0) (leb rfl) (leb rfl) ?_
  obtain ⟨g8, h⟩ := h
  obtain ⟨g9, h⟩ := h
  refine aw_iaload 19 dX5_hundredths_18 g8 g9 rfl ?_
  obtain ⟨g10, h⟩ := h
  refine aw_idiv 20 dX5_hundredths_19 g10 rfl ?_
  exact aw_ireturn (ty := .int) dX5_hundredths_20 rfl rfl (leb rfl) (leb rfl) ⟨_, rfl, h⟩)
set_option maxRecDepth 20000 in
theorem am_X5_hundredthsOf {G : GG} (hG : G.1.stackTraces = false) {l0 : Nat} {l1 : Int32} {l2 : Int32} {X : XH} {K : Int32 → XH → Prop} (h : w_X5_hundredthsOf l0 l1 l2 X K) : AM G M_X5_hundredthsOf X [.ref l0, .int l1, .int l2] (KrI K) := AM_of (by decide +kernel) rfl (leb rfl) hG (by
  show AW G M_X5_hundredthsOf 0 [(0, .ref l0), (1, .int l1), (2, .int l2)] [] X 0 0 _
  unfold w_X5_hundredthsOf at h
  refine aw_aload_n 1 dX5_hundredthsOf_0 rfl 0 rfl rfl ?_
  refine aw_aload_n 2 dX5_hundredthsOf_1 rfl 0 rfl rfl ?_
  refine aw_iload_n 3 dX5_hundredthsOf_2 rfl 1 rfl rfl ?_
  refine aw_iload_n 4 dX5_hundredthsOf_3 rfl 2 rfl rfl ?_
  obtain ⟨g3, h⟩ := h
  refine aw_callV (M' := M_X5_badTranslation) 7 173 5 l0 [.int _, .int _] [.ref _] dX5_hundredthsOf_4 lk_RX5_173 mv_X5_badTranslation mp_X5_badTranslation rfl ⟨leb rfl, leb rfl⟩ rfl (ltb rfl) g3 rfl (leb rfl) (leb rfl) (leb rfl) rfl (am_X5_badTranslation hG h) (kkI fun v2 X1 h => ?_) (kxN KrI.no)
  refine aw_widen (cc' := 0) (ss' := 0) (leb rfl) (leb rfl) ?_
  obtain ⟨g6, h⟩ := h
  refine aw_callV (M' := M_X5_refused) 10 81 5 l0 [.int _] [] dX5_hundredthsOf_7 lk_RX5_81 mv_X5_refused mp_X5_refused rfl ⟨leb rfl, leb rfl⟩ rfl (ltb rfl) g6 rfl (leb rfl) (leb rfl) (leb rfl) rfl (am_X5_refused hG h) (kkI fun v5 X4 h => ?_) (kxN KrI.no)
  refine aw_widen (cc' := 0) (ss' := 0) (leb rfl) (leb rfl) ?_
  refine aw_if_eq 17 13 dX5_hundredthsOf_10 rfl rfl (fun c7 => ?_) (fun c7 => ?_)
  · replace h := h.1 c7
    refine aw_aload_n 18 dX5_hundredthsOf_17 rfl 0 rfl rfl ?_
    refine aw_iload_n 19 dX5_hundredthsOf_18 rfl 1 rfl rfl ?_
    refine aw_iload_n 20 dX5_hundredthsOf_19 rfl 2 rfl rfl ?_
    obtain ⟨g10, h⟩ := h
    refine aw_callV (M' := M_X5_hundredths) 23 179 5 l0 [.int _, .int _] [] dX5_hundredthsOf_20 lk_RX5_179 mv_X5_hundredths mp_X5_hundredths rfl ⟨leb rfl, leb rfl⟩ rfl (ltb rfl) g10 rfl (leb rfl) (leb rfl) (leb rfl) rfl (am_X5_hundredths hG h) (kkI fun v9 X8 h => ?_) (kxN KrI.no)
    refine aw_widen (cc' := 0) (ss' := 0) (leb rfl) (leb rfl) ?_
    exact aw_ireturn (ty := .int) dX5_hundredthsOf_23 rfl rfl (leb rfl) (leb rfl) ⟨_, rfl, h⟩
  · replace h := h.2 c7
    refine aw_iconst 14 (v := 0) dX5_hundredthsOf_13 kI_0 rfl ?_
    refine aw_goto 23 dX5_hundredthsOf_14 rfl ?_
    exact aw_ireturn (ty := .int) dX5_hundredthsOf_23 rfl rfl (leb rfl) (leb rfl) ⟨_, rfl, h⟩)
set_option maxRecDepth 20000 in
theorem am_X4_reasonAgainst {G : GG} (hG : G.1.stackTraces = false) {l0 : Nat} {l1 : Int32} {l2 : Int32} {X : XH} {K : Int32 → XH → Prop} {KX : String → XH → Prop} (h : w_X4_reasonAgainst l0 l1 l2 X K KX) : AM G M_X4_reasonAgainst X [.ref l0, .int l1, .int l2] (KxT (KrI K) KX) := AM_of (by decide +kernel) rfl (leb rfl) hG (by
  show AW G M_X4_reasonAgainst 0 [(0, .ref l0), (1, .int l1), (2, .int l2)] [] X 0 0 _
  unfold w_X4_reasonAgainst at h
  refine aw_aload_n 1 dX4_reasonAgainst_0 rfl 0 rfl rfl ?_
  refine aw_iload_n 2 dX4_reasonAgainst_1 rfl 1 rfl rfl ?_
  refine aw_iload_n 3 dX4_reasonAgainst_2 rfl 2 rfl rfl ?_
  obtain ⟨g2, h⟩ := h
  refine aw_callV (M' := M_X4_checkTranslation) 6 115 4 l0 [.int _, .int _] [] dX4_reasonAgainst_3 lk_RX4_115 mv_X4_checkTranslation mp_X4_checkTranslation rfl ⟨leb rfl, leb rfl⟩ rfl (ltb rfl) g2 rfl (leb rfl) (leb rfl) (leb rfl) rfl (am_X4_checkTranslation hG h) (kkT (kkV fun X1 h => ?_)) (kxT KrV.no fun E X h => at_out rfl (leb rfl) (leb rfl) (Or.inr ⟨_, rfl, h⟩))
  refine aw_widen (cc' := 2) (ss' := 12) (leb rfl) (leb rfl) ?_
  refine aw_aload_n 7 dX4_reasonAgainst_6 rfl 0 rfl rfl ?_
  obtain ⟨g3, h⟩ := h
  obtain ⟨g4, h⟩ := h
  refine aw_getR 10 dX4_reasonAgainst_7 fl_RX4_10 rfl g3 g4 rfl ?_
  refine aw_iload_n 11 dX4_reasonAgainst_10 rfl 1 rfl rfl ?_
  refine aw_iload_n 12 dX4_reasonAgainst_11 rfl 2 rfl rfl ?_
  obtain ⟨g7, h⟩ := h
  refine aw_callV (M' := M_X3_reasonAt) 15 164 3 (hR X1 l0 0) [.int _, .int _] [] dX4_reasonAgainst_12 lk_RX4_164 mv_X3_reasonAt mp_X3_reasonAt rfl ⟨leb rfl, leb rfl⟩ rfl (ltb rfl) g7 rfl (leb rfl) (leb rfl) (leb rfl) rfl (am_X3_reasonAt hG h) (kkI fun v6 X5 h => ?_) (kxN KrI.no)
  refine aw_widen (cc' := 2) (ss' := 12) (leb rfl) (leb rfl) ?_
  exact aw_ireturn (ty := .int) dX4_reasonAgainst_15 rfl rfl (leb rfl) (leb rfl) (Or.inl ⟨_, rfl, h⟩))
set_option maxRecDepth 20000 in
theorem am_L_reasonAgainst {G : GG} (hG : G.1.stackTraces = false) {l0 : Nat} {l1 : Int32} {l2 : Int32} {l3 : Nat} {X : XH} {K : Int32 → XH → Prop} (h : w_L_reasonAgainst l0 l1 l2 l3 X K) : AM G M_L_reasonAgainst X [.ref l0, .int l1, .int l2, .ref l3] (KrI K) := AM_ofH (by decide +kernel) (0, 10, 13, 13) [] rfl (leb rfl) hG (by
  show AW G M_L_reasonAgainst 0 [(0, .ref l0), (1, .int l1), (2, .int l2), (3, .ref l3)] [] X 0 0 _
  unfold w_L_reasonAgainst at h
  refine aw_aload_n 1 dL_reasonAgainst_0 rfl 3 rfl rfl ?_
  refine aw_iconst 2 (v := 0) dL_reasonAgainst_1 kI_0 rfl ?_
  refine aw_aload_n 3 dL_reasonAgainst_2 rfl 0 rfl rfl ?_
  refine aw_iload_n 4 dL_reasonAgainst_3 rfl 1 rfl rfl ?_
  refine aw_iload_n 5 dL_reasonAgainst_4 rfl 2 rfl rfl ?_
  obtain ⟨g3, h⟩ := h
  refine aw_callV (M' := M_X4_reasonAgainst) 8 111 4 l0 [.int _, .int _] [.int _, .ref _] dL_reasonAgainst_5 lk_RL_111 mv_X4_reasonAgainst mp_X4_reasonAgainst rfl ⟨leb rfl, leb rfl⟩ rfl (ltb rfl) g3 rfl (leb rfl) (leb rfl) (leb rfl) rfl (am_X4_reasonAgainst hG h) (kkT (kkI fun v2 X1 h => ?_)) (kxT KrI.no fun E X1 h => ?_)
  · refine aw_widen (cc' := 2) (ss' := 12) (leb rfl) (leb rfl) ?_
    refine aw_i2l 9 dL_reasonAgainst_8 rfl ?_
    obtain ⟨g4, h⟩ := h
    obtain ⟨g5, h⟩ := h
    refine aw_lastore 10 dL_reasonAgainst_9 g4 g5 rfl ?_
    refine aw_goto 17 dL_reasonAgainst_10 rfl ?_
    refine aw_iconst 18 (v := 0) dL_reasonAgainst_17 kI_0 rfl ?_
    exact aw_ireturn (ty := .int) dL_reasonAgainst_18 rfl rfl (leb rfl) (leb rfl) ⟨_, rfl, h⟩
  · obtain ⟨hE, h⟩ := h
    rcases hE with rfl
    refine aw_atc (lv' := [(0, .ref _), (1, .int _), (2, .int _), (3, .ref _)]) [] (0, 10, 13, 13) [] rfl (fun z hz => nomatch hz) (by decide) (by decide) (tk3 (i := 61) (by decide +kernel) rfl) (by decide) 4 2 15 (Or.inr ⟨dL_reasonAgainst_13, rfl⟩) (ltb rfl) rfl ?_
    refine aw_widen (cc' := 2) (ss' := 12) (leb rfl) (leb rfl) ?_
    replace h := h rfl
    refine aw_iconst 16 (v := 1) dL_reasonAgainst_15 kI_1 rfl ?_
    exact aw_ireturn (ty := .int) dL_reasonAgainst_16 rfl rfl (leb rfl) (leb rfl) ⟨_, rfl, h⟩)
set_option maxRecDepth 20000 in
theorem aw_X5_reasonAgainst_15 {G : GG} (hG : G.1.stackTraces = false)  {l0 : Nat} {l1 : Int32} {l2 : Int32} {s0 : Nat} {s1 : Int32} {X : XH} {K : Int32 → XH → Prop}  (h : w_X5_reasonAgainst_15  l0 l1 l2 s0 s1 X K) : AW G M_X5_reasonAgainst 15 [(0, .ref l0), (1, .int l1), (2, .int l2)] [.int s1, .ref s0] X 0 0 (KrI K) := by
  unfold w_X5_reasonAgainst_15 at h
  obtain ⟨g3, h⟩ := h
  refine aw_callV (M' := M_X5_refused) 18 81 5 s0 [.int _] [] dX5_reasonAgainst_15 lk_RX5_81 mv_X5_refused mp_X5_refused rfl ⟨leb rfl, leb rfl⟩ rfl (ltb rfl) g3 rfl (leb rfl) (leb rfl) (leb rfl) rfl (am_X5_refused hG h) (kkI fun v2 X1 h => ?_) (kxN KrI.no)
  refine aw_widen (cc' := 0) (ss' := 0) (leb rfl) (leb rfl) ?_
  refine aw_if_eq 25 21 dX5_reasonAgainst_18 rfl rfl (fun c4 => ?_) (fun c4 => ?_)
  · replace h := h.1 c4
    refine aw_aload_n 26 dX5_reasonAgainst_25 rfl 0 rfl rfl ?_
    refine aw_iload_n 27 dX5_reasonAgainst_26 rfl 1 rfl rfl ?_
    refine aw_iload_n 28 dX5_reasonAgainst_27 rfl 2 rfl rfl ?_
    obtain ⟨g7, h⟩ := h
    refine aw_callV (M' := M_X5_reason) 31 68 5 l0 [.int _, .int _] [] dX5_reasonAgainst_28 lk_RX5_68 mv_X5_reason mp_X5_reason rfl ⟨leb rfl, leb rfl⟩ rfl (ltb rfl) g7 rfl (leb rfl) (leb rfl) (leb rfl) rfl (am_X5_reason hG h) (kkI fun v6 X5 h => ?_) (kxN KrI.no)
    refine aw_widen (cc' := 0) (ss' := 0) (leb rfl) (leb rfl) ?_
    exact aw_ireturn (ty := .int) dX5_reasonAgainst_31 rfl rfl (leb rfl) (leb rfl) ⟨_, rfl, h⟩
  · replace h := h.2 c4
    refine aw_iconst 22 (v := 0) dX5_reasonAgainst_21 kI_0 rfl ?_
    refine aw_goto 31 dX5_reasonAgainst_22 rfl ?_
    exact aw_ireturn (ty := .int) dX5_reasonAgainst_31 rfl rfl (leb rfl) (leb rfl) ⟨_, rfl, h⟩
set_option maxRecDepth 20000 in
theorem am_X5_reasonAgainst {G : GG} (hG : G.1.stackTraces = false) {l0 : Nat} {l1 : Int32} {l2 : Int32} {X : XH} {K : Int32 → XH → Prop} (h : w_X5_reasonAgainst l0 l1 l2 X K) : AM G M_X5_reasonAgainst X [.ref l0, .int l1, .int l2] (KrI K) := AM_of (by decide +kernel) rfl (leb rfl) hG (by
  show AW G M_X5_reasonAgainst 0 [(0, .ref l0), (1, .int l1), (2, .int l2)] [] X 0 0 _
  unfold w_X5_reasonAgainst at h
  refine aw_aload_n 1 dX5_reasonAgainst_0 rfl 0 rfl rfl ?_
  refine aw_aload_n 2 dX5_reasonAgainst_1 rfl 0 rfl rfl ?_
  refine aw_iload_n 3 dX5_reasonAgainst_2 rfl 1 rfl rfl ?_
  refine aw_iload_n 4 dX5_reasonAgainst_3 rfl 2 rfl rfl ?_
  obtain ⟨g3, h⟩ := h
  refine aw_callV (M' := M_X5_are) 7 97 5 l0 [.int _, .int _] [.ref _] dX5_reasonAgainst_4 lk_RX5_97 mv_X5_are mp_X5_are rfl ⟨leb rfl, leb rfl⟩ rfl (ltb rfl) g3 rfl (leb rfl) (leb rfl) (leb rfl) rfl (am_X5_are hG h) (kkI fun v2 X1 h => ?_) (kxN KrI.no)
  refine aw_widen (cc' := 0) (ss' := 0) (leb rfl) (leb rfl) ?_
  refine aw_if_eq 14 10 dX5_reasonAgainst_7 rfl rfl (fun c4 => ?_) (fun c4 => ?_)
  · replace h := h.1 c4
    refine aw_iconst 15 (v := 1) dX5_reasonAgainst_14 kI_1 rfl ?_
    exact aw_pick [0, 1, 2] rfl (aw_X5_reasonAgainst_15 hG  h)
  · replace h := h.2 c4
    refine aw_iconst 11 (v := 0) dX5_reasonAgainst_10 kI_0 rfl ?_
    refine aw_goto 15 dX5_reasonAgainst_11 rfl ?_
    exact aw_pick [0, 1, 2] rfl (aw_X5_reasonAgainst_15 hG  h))
set_option maxRecDepth 20000 in
theorem am_X4_staminaOf {G : GG} (hG : G.1.stackTraces = false) {l0 : Nat} {l1 : Int32} {l2 : Int32} {X : XH} {K : Int32 → XH → Prop} {KX : String → XH → Prop} (h : w_X4_staminaOf l0 l1 l2 X K KX) : AM G M_X4_staminaOf X [.ref l0, .int l1, .int l2] (KxT (KrI K) KX) := AM_of (by decide +kernel) rfl (leb rfl) hG (by
  show AW G M_X4_staminaOf 0 [(0, .ref l0), (1, .int l1), (2, .int l2)] [] X 0 0 _
  unfold w_X4_staminaOf at h
  refine aw_iload_n 1 dX4_staminaOf_0 rfl 1 rfl rfl ?_
  refine aw_iload_n 2 dX4_staminaOf_1 rfl 2 rfl rfl ?_
  refine aw_callS (M' := M_X4_checkVoice) 5 150 [.int _, .int _] [] dX4_staminaOf_2 lk_RX4_150 ms_X4_checkVoice mp_X4_checkVoice rfl ⟨leb rfl, leb rfl⟩ rfl (leb rfl) (leb rfl) (leb rfl) rfl (am_X4_checkVoice hG h) (kkT (kkV fun X1 h => ?_)) (kxT KrV.no fun E X h => at_out rfl (leb rfl) (leb rfl) (Or.inr ⟨_, rfl, h⟩))
  refine aw_widen (cc' := 2) (ss' := 12) (leb rfl) (leb rfl) ?_
  refine aw_aload_n 6 dX4_staminaOf_5 rfl 0 rfl rfl ?_
  obtain ⟨g2, h⟩ := h
  obtain ⟨g3, h⟩ := h
  refine aw_getR 9 dX4_staminaOf_6 fl_RX4_10 rfl g2 g3 rfl ?_
  refine aw_iload_n 10 dX4_staminaOf_9 rfl 1 rfl rfl ?_
  refine aw_iload_n 11 dX4_staminaOf_10 rfl 2 rfl rfl ?_
  obtain ⟨g6, h⟩ := h
  refine aw_callV (M' := M_X3_staminaAt) 14 158 3 (hR X1 l0 0) [.int _, .int _] [] dX4_staminaOf_11 lk_RX4_158 mv_X3_staminaAt mp_X3_staminaAt rfl ⟨leb rfl, leb rfl⟩ rfl (ltb rfl) g6 rfl (leb rfl) (leb rfl) (leb rfl) rfl (am_X3_staminaAt hG h) (kkI fun v5 X4 h => ?_) (kxN KrI.no)
  refine aw_widen (cc' := 2) (ss' := 12) (leb rfl) (leb rfl) ?_
  exact aw_ireturn (ty := .int) dX4_staminaOf_14 rfl rfl (leb rfl) (leb rfl) (Or.inl ⟨_, rfl, h⟩))
set_option maxRecDepth 20000 in
theorem am_L_staminaOf {G : GG} (hG : G.1.stackTraces = false) {l0 : Nat} {l1 : Int32} {l2 : Int32} {l3 : Nat} {X : XH} {K : Int32 → XH → Prop} (h : w_L_staminaOf l0 l1 l2 l3 X K) : AM G M_L_staminaOf X [.ref l0, .int l1, .int l2, .ref l3] (KrI K) := AM_ofH (by decide +kernel) (0, 10, 13, 13) [] rfl (leb rfl) hG (by
  show AW G M_L_staminaOf 0 [(0, .ref l0), (1, .int l1), (2, .int l2), (3, .ref l3)] [] X 0 0 _
  unfold w_L_staminaOf at h
  refine aw_aload_n 1 dL_staminaOf_0 rfl 3 rfl rfl ?_
  refine aw_iconst 2 (v := 0) dL_staminaOf_1 kI_0 rfl ?_
  refine aw_aload_n 3 dL_staminaOf_2 rfl 0 rfl rfl ?_
  refine aw_iload_n 4 dL_staminaOf_3 rfl 1 rfl rfl ?_
  refine aw_iload_n 5 dL_staminaOf_4 rfl 2 rfl rfl ?_
  obtain ⟨g3, h⟩ := h
  refine aw_callV (M' := M_X4_staminaOf) 8 114 4 l0 [.int _, .int _] [.int _, .ref _] dL_staminaOf_5 lk_RL_114 mv_X4_staminaOf mp_X4_staminaOf rfl ⟨leb rfl, leb rfl⟩ rfl (ltb rfl) g3 rfl (leb rfl) (leb rfl) (leb rfl) rfl (am_X4_staminaOf hG h) (kkT (kkI fun v2 X1 h => ?_)) (kxT KrI.no fun E X1 h => ?_)
  · refine aw_widen (cc' := 2) (ss' := 12) (leb rfl) (leb rfl) ?_
    refine aw_i2l 9 dL_staminaOf_8 rfl ?_
    obtain ⟨g4, h⟩ := h
    obtain ⟨g5, h⟩ := h
    refine aw_lastore 10 dL_staminaOf_9 g4 g5 rfl ?_
    refine aw_goto 17 dL_staminaOf_10 rfl ?_
    refine aw_iconst 18 (v := 0) dL_staminaOf_17 kI_0 rfl ?_
    exact aw_ireturn (ty := .int) dL_staminaOf_18 rfl rfl (leb rfl) (leb rfl) ⟨_, rfl, h⟩
  · obtain ⟨hE, h⟩ := h
    rcases hE with rfl
    refine aw_atc (lv' := [(0, .ref _), (1, .int _), (2, .int _), (3, .ref _)]) [] (0, 10, 13, 13) [] rfl (fun z hz => nomatch hz) (by decide) (by decide) (tk3 (i := 61) (by decide +kernel) rfl) (by decide) 4 2 15 (Or.inr ⟨dL_staminaOf_13, rfl⟩) (ltb rfl) rfl ?_
    refine aw_widen (cc' := 2) (ss' := 12) (leb rfl) (leb rfl) ?_
    replace h := h rfl
    refine aw_iconst 16 (v := 1) dL_staminaOf_15 kI_1 rfl ?_
    exact aw_ireturn (ty := .int) dL_staminaOf_16 rfl rfl (leb rfl) (leb rfl) ⟨_, rfl, h⟩)
set_option maxRecDepth 20000 in
theorem aw_X5_staminaOf_14 {G : GG} (hG : G.1.stackTraces = false)  {l0 : Nat} {l1 : Int32} {l2 : Int32} {s0 : Nat} {s1 : Int32} {X : XH} {K : Int32 → XH → Prop}  (h : w_X5_staminaOf_14  l0 l1 l2 s0 s1 X K) : AW G M_X5_staminaOf 14 [(0, .ref l0), (1, .int l1), (2, .int l2)] [.int s1, .ref s0] X 0 0 (KrI K) := by
  unfold w_X5_staminaOf_14 at h
  obtain ⟨g3, h⟩ := h
  refine aw_callV (M' := M_X5_refused) 17 81 5 s0 [.int _] [] dX5_staminaOf_14 lk_RX5_81 mv_X5_refused mp_X5_refused rfl ⟨leb rfl, leb rfl⟩ rfl (ltb rfl) g3 rfl (leb rfl) (leb rfl) (leb rfl) rfl (am_X5_refused hG h) (kkI fun v2 X1 h => ?_) (kxN KrI.no)
  refine aw_widen (cc' := 0) (ss' := 0) (leb rfl) (leb rfl) ?_
  refine aw_if_eq 24 20 dX5_staminaOf_17 rfl rfl (fun c4 => ?_) (fun c4 => ?_)
  · replace h := h.1 c4
    refine aw_aload_n 25 dX5_staminaOf_24 rfl 0 rfl rfl ?_
    obtain ⟨g5, h⟩ := h
    obtain ⟨g6, h⟩ := h
    refine aw_getR 28 dX5_staminaOf_25 fl_RX5_7 rfl g5 g6 rfl ?_
    refine aw_sipush 31 (v := 312) dX5_staminaOf_28 kS_312 rfl ?_
    refine aw_iconst 32 (v := 3) dX5_staminaOf_31 kI_3 rfl ?_
    refine aw_iload_n 33 dX5_staminaOf_32 rfl 1 rfl rfl ?_
    refine aw_imul 34 dX5_staminaOf_33 rfl ?_
    refine aw_iadd 35 dX5_staminaOf_34 rfl ?_
    refine aw_iload_n 36 dX5_staminaOf_35 rfl 2 rfl rfl ?_
    refine aw_iadd 37 dX5_staminaOf_36 rfl ?_
    obtain ⟨g7, h⟩ := h
    obtain ⟨g8, h⟩ := h
    refine aw_iaload 38 dX5_staminaOf_37 g7 g8 rfl ?_
    exact aw_ireturn (ty := .int) dX5_staminaOf_38 rfl rfl (leb rfl) (leb rfl) ⟨_, rfl, h⟩
  · replace h := h.2 c4
    refine aw_iconst 21 (v := 0) dX5_staminaOf_20 kI_0 rfl ?_
    refine aw_goto 38 dX5_staminaOf_21 rfl ?_
    exact aw_ireturn (ty := .int) dX5_staminaOf_38 rfl rfl (leb rfl) (leb rfl) ⟨_, rfl, h⟩
set_option maxRecDepth 20000 in
theorem am_X5_staminaOf {G : GG} (hG : G.1.stackTraces = false) {l0 : Nat} {l1 : Int32} {l2 : Int32} {X : XH} {K : Int32 → XH → Prop} (h : w_X5_staminaOf l0 l1 l2 X K) : AM G M_X5_staminaOf X [.ref l0, .int l1, .int l2] (KrI K) := AM_of (by decide +kernel) rfl (leb rfl) hG (by
  show AW G M_X5_staminaOf 0 [(0, .ref l0), (1, .int l1), (2, .int l2)] [] X 0 0 _
  unfold w_X5_staminaOf at h
  refine aw_aload_n 1 dX5_staminaOf_0 rfl 0 rfl rfl ?_
  refine aw_iload_n 2 dX5_staminaOf_1 rfl 1 rfl rfl ?_
  refine aw_iload_n 3 dX5_staminaOf_2 rfl 2 rfl rfl ?_
  refine aw_callS (M' := M_X5_isVoice) 6 104 [.int _, .int _] [.ref _] dX5_staminaOf_3 lk_RX5_104 ms_X5_isVoice mp_X5_isVoice rfl ⟨leb rfl, leb rfl⟩ rfl (leb rfl) (leb rfl) (leb rfl) rfl (am_X5_isVoice hG h) (kkI fun v2 X1 h => ?_) (kxN KrI.no)
  refine aw_widen (cc' := 0) (ss' := 0) (leb rfl) (leb rfl) ?_
  refine aw_if_eq 13 9 dX5_staminaOf_6 rfl rfl (fun c3 => ?_) (fun c3 => ?_)
  · replace h := h.1 c3
    refine aw_iconst 14 (v := 1) dX5_staminaOf_13 kI_1 rfl ?_
    exact aw_pick [0, 1, 2] rfl (aw_X5_staminaOf_14 hG  h)
  · replace h := h.2 c3
    refine aw_iconst 10 (v := 0) dX5_staminaOf_9 kI_0 rfl ?_
    refine aw_goto 14 dX5_staminaOf_10 rfl ?_
    exact aw_pick [0, 1, 2] rfl (aw_X5_staminaOf_14 hG  h))
set_option maxRecDepth 20000 in
theorem am_X4_strengthLeft {G : GG} (hG : G.1.stackTraces = false) {l0 : Nat} {l1 : Int32} {l2 : Int32} {X : XH} {K : Int32 → XH → Prop} {KX : String → XH → Prop} (h : w_X4_strengthLeft l0 l1 l2 X K KX) : AM G M_X4_strengthLeft X [.ref l0, .int l1, .int l2] (KxT (KrI K) KX) := AM_of (by decide +kernel) rfl (leb rfl) hG (by
  show AW G M_X4_strengthLeft 0 [(0, .ref l0), (1, .int l1), (2, .int l2)] [] X 0 0 _
  unfold w_X4_strengthLeft at h
  refine aw_iload_n 1 dX4_strengthLeft_0 rfl 1 rfl rfl ?_
  refine aw_iload_n 2 dX4_strengthLeft_1 rfl 2 rfl rfl ?_
  refine aw_callS (M' := M_X4_checkVoice) 5 150 [.int _, .int _] [] dX4_strengthLeft_2 lk_RX4_150 ms_X4_checkVoice mp_X4_checkVoice rfl ⟨leb rfl, leb rfl⟩ rfl (leb rfl) (leb rfl) (leb rfl) rfl (am_X4_checkVoice hG h) (kkT (kkV fun X1 h => ?_)) (kxT KrV.no fun E X h => at_out rfl (leb rfl) (leb rfl) (Or.inr ⟨_, rfl, h⟩))
  refine aw_widen (cc' := 2) (ss' := 12) (leb rfl) (leb rfl) ?_
  refine aw_aload_n 6 dX4_strengthLeft_5 rfl 0 rfl rfl ?_
  obtain ⟨g2, h⟩ := h
  obtain ⟨g3, h⟩ := h
  refine aw_getR 9 dX4_strengthLeft_6 fl_RX4_10 rfl g2 g3 rfl ?_
  refine aw_iload_n 10 dX4_strengthLeft_9 rfl 1 rfl rfl ?_
  refine aw_iload_n 11 dX4_strengthLeft_10 rfl 2 rfl rfl ?_
  obtain ⟨g6, h⟩ := h
  refine aw_callV (M' := M_X3_strengthAt) 14 175 3 (hR X1 l0 0) [.int _, .int _] [] dX4_strengthLeft_11 lk_RX4_175 mv_X3_strengthAt mp_X3_strengthAt rfl ⟨leb rfl, leb rfl⟩ rfl (ltb rfl) g6 rfl (leb rfl) (leb rfl) (leb rfl) rfl (am_X3_strengthAt hG h) (kkI fun v5 X4 h => ?_) (kxN KrI.no)
  refine aw_widen (cc' := 2) (ss' := 12) (leb rfl) (leb rfl) ?_
  exact aw_ireturn (ty := .int) dX4_strengthLeft_14 rfl rfl (leb rfl) (leb rfl) (Or.inl ⟨_, rfl, h⟩))
set_option maxRecDepth 20000 in
theorem am_L_strengthLeft {G : GG} (hG : G.1.stackTraces = false) {l0 : Nat} {l1 : Int32} {l2 : Int32} {l3 : Nat} {X : XH} {K : Int32 → XH → Prop} (h : w_L_strengthLeft l0 l1 l2 l3 X K) : AM G M_L_strengthLeft X [.ref l0, .int l1, .int l2, .ref l3] (KrI K) := AM_ofH (by decide +kernel) (0, 10, 13, 13) [] rfl (leb rfl) hG (by
  show AW G M_L_strengthLeft 0 [(0, .ref l0), (1, .int l1), (2, .int l2), (3, .ref l3)] [] X 0 0 _
  unfold w_L_strengthLeft at h
  refine aw_aload_n 1 dL_strengthLeft_0 rfl 3 rfl rfl ?_
  refine aw_iconst 2 (v := 0) dL_strengthLeft_1 kI_0 rfl ?_
  refine aw_aload_n 3 dL_strengthLeft_2 rfl 0 rfl rfl ?_
  refine aw_iload_n 4 dL_strengthLeft_3 rfl 1 rfl rfl ?_
  refine aw_iload_n 5 dL_strengthLeft_4 rfl 2 rfl rfl ?_
  obtain ⟨g3, h⟩ := h
  refine aw_callV (M' := M_X4_strengthLeft) 8 117 4 l0 [.int _, .int _] [.int _, .ref _] dL_strengthLeft_5 lk_RL_117 mv_X4_strengthLeft mp_X4_strengthLeft rfl ⟨leb rfl, leb rfl⟩ rfl (ltb rfl) g3 rfl (leb rfl) (leb rfl) (leb rfl) rfl (am_X4_strengthLeft hG h) (kkT (kkI fun v2 X1 h => ?_)) (kxT KrI.no fun E X1 h => ?_)
  · refine aw_widen (cc' := 2) (ss' := 12) (leb rfl) (leb rfl) ?_
    refine aw_i2l 9 dL_strengthLeft_8 rfl ?_
    obtain ⟨g4, h⟩ := h
    obtain ⟨g5, h⟩ := h
    refine aw_lastore 10 dL_strengthLeft_9 g4 g5 rfl ?_
    refine aw_goto 17 dL_strengthLeft_10 rfl ?_
    refine aw_iconst 18 (v := 0) dL_strengthLeft_17 kI_0 rfl ?_
    exact aw_ireturn (ty := .int) dL_strengthLeft_18 rfl rfl (leb rfl) (leb rfl) ⟨_, rfl, h⟩
  · obtain ⟨hE, h⟩ := h
    rcases hE with rfl
    refine aw_atc (lv' := [(0, .ref _), (1, .int _), (2, .int _), (3, .ref _)]) [] (0, 10, 13, 13) [] rfl (fun z hz => nomatch hz) (by decide) (by decide) (tk3 (i := 61) (by decide +kernel) rfl) (by decide) 4 2 15 (Or.inr ⟨dL_strengthLeft_13, rfl⟩) (ltb rfl) rfl ?_
    refine aw_widen (cc' := 2) (ss' := 12) (leb rfl) (leb rfl) ?_
    replace h := h rfl
    refine aw_iconst 16 (v := 1) dL_strengthLeft_15 kI_1 rfl ?_
    exact aw_ireturn (ty := .int) dL_strengthLeft_16 rfl rfl (leb rfl) (leb rfl) ⟨_, rfl, h⟩)
set_option maxRecDepth 20000 in
theorem aw_X5_strengthLeft_14 {G : GG} (hG : G.1.stackTraces = false)  {l0 : Nat} {l1 : Int32} {l2 : Int32} {s0 : Nat} {s1 : Int32} {X : XH} {K : Int32 → XH → Prop}  (h : w_X5_strengthLeft_14  l0 l1 l2 s0 s1 X K) : AW G M_X5_strengthLeft 14 [(0, .ref l0), (1, .int l1), (2, .int l2)] [.int s1, .ref s0] X 0 0 (KrI K) := by
  unfold w_X5_strengthLeft_14 at h
  obtain ⟨g3, h⟩ := h
  refine aw_callV (M' := M_X5_refused) 17 81 5 s0 [.int _] [] dX5_strengthLeft_14 lk_RX5_81 mv_X5_refused mp_X5_refused rfl ⟨leb rfl, leb rfl⟩ rfl (ltb rfl) g3 rfl (leb rfl) (leb rfl) (leb rfl) rfl (am_X5_refused hG h) (kkI fun v2 X1 h => ?_) (kxN KrI.no)
  refine aw_widen (cc' := 0) (ss' := 0) (leb rfl) (leb rfl) ?_
  refine aw_if_eq 24 20 dX5_strengthLeft_17 rfl rfl (fun c4 => ?_) (fun c4 => ?_)
  · replace h := h.1 c4
    refine aw_aload_n 25 dX5_strengthLeft_24 rfl 0 rfl rfl ?_
    refine aw_iload_n 26 dX5_strengthLeft_25 rfl 1 rfl rfl ?_
    refine aw_iload_n 27 dX5_strengthLeft_26 rfl 2 rfl rfl ?_
    obtain ⟨g7, h⟩ := h
    refine aw_callV (M' := M_X5_left) 30 65 5 l0 [.int _, .int _] [] dX5_strengthLeft_27 lk_RX5_65 mv_X5_left mp_X5_left rfl ⟨leb rfl, leb rfl⟩ rfl (ltb rfl) g7 rfl (leb rfl) (leb rfl) (leb rfl) rfl (am_X5_left hG h) (kkI fun v6 X5 h => ?_) (kxN KrI.no)
    refine aw_widen (cc' := 0) (ss' := 0) (leb rfl) (leb rfl) ?_
    exact aw_ireturn (ty := .int) dX5_strengthLeft_30 rfl rfl (leb rfl) (leb rfl) ⟨_, rfl, h⟩
  · replace h := h.2 c4
    refine aw_iconst 21 (v := 0) dX5_strengthLeft_20 kI_0 rfl ?_
    refine aw_goto 30 dX5_strengthLeft_21 rfl ?_
    exact aw_ireturn (ty := .int) dX5_strengthLeft_30 rfl rfl (leb rfl) (leb rfl) ⟨_, rfl, h⟩
set_option maxRecDepth 20000 in
theorem am_X5_strengthLeft {G : GG} (hG : G.1.stackTraces = false) {l0 : Nat} {l1 : Int32} {l2 : Int32} {X : XH} {K : Int32 → XH → Prop} (h : w_X5_strengthLeft l0 l1 l2 X K) : AM G M_X5_strengthLeft X [.ref l0, .int l1, .int l2] (KrI K) := AM_of (by decide +kernel) rfl (leb rfl) hG (by
  show AW G M_X5_strengthLeft 0 [(0, .ref l0), (1, .int l1), (2, .int l2)] [] X 0 0 _
  unfold w_X5_strengthLeft at h
  refine aw_aload_n 1 dX5_strengthLeft_0 rfl 0 rfl rfl ?_
  refine aw_iload_n 2 dX5_strengthLeft_1 rfl 1 rfl rfl ?_
  refine aw_iload_n 3 dX5_strengthLeft_2 rfl 2 rfl rfl ?_
  refine aw_callS (M' := M_X5_isVoice) 6 104 [.int _, .int _] [.ref _] dX5_strengthLeft_3 lk_RX5_104 ms_X5_isVoice mp_X5_isVoice rfl ⟨leb rfl, leb rfl⟩ rfl (leb rfl) (leb rfl) (leb rfl) rfl (am_X5_isVoice hG h) (kkI fun v2 X1 h => ?_) (kxN KrI.no)
  refine aw_widen (cc' := 0) (ss' := 0) (leb rfl) (leb rfl) ?_
  refine aw_if_eq 13 9 dX5_strengthLeft_6 rfl rfl (fun c3 => ?_) (fun c3 => ?_)
  · replace h := h.1 c3
    refine aw_iconst 14 (v := 1) dX5_strengthLeft_13 kI_1 rfl ?_
    exact aw_pick [0, 1, 2] rfl (aw_X5_strengthLeft_14 hG  h)
  · replace h := h.2 c3
    refine aw_iconst 10 (v := 0) dX5_strengthLeft_9 kI_0 rfl ?_
    refine aw_goto 14 dX5_strengthLeft_10 rfl ?_
    exact aw_pick [0, 1, 2] rfl (aw_X5_strengthLeft_14 hG  h))
set_option maxRecDepth 20000 in
theorem aw_X5_voiced_5 {G : GG} (hG : G.1.stackTraces = false)  {l0 : Nat} {l1 : Int32} {l2 : Int32} {l3 : Int32} {l4 : Int32} {X : XH} {K : Int32 → XH → Prop}  (h : w_X5_voiced_5  l0 l1 l2 l3 l4 X K) : AW G M_X5_voiced 5 [(0, .ref l0), (1, .int l1), (2, .int l2), (3, .int l3), (4, .int l4)] [] X 0 0 (KrI K) :=
  h (fun l0 l1 l2 l3 l4 X => AW G M_X5_voiced 5 [(0, .ref l0), (1, .int l1), (2, .int l2), (3, .int l3), (4, .int l4)] [] X 0 0 (KrI K)) (fun l0 l1 l2 l3 l4 X h => by
    refine aw_iload 7 dX5_voiced_5 4 rfl rfl ?_
    refine aw_aload_n 8 dX5_voiced_7 rfl 0 rfl rfl ?_
    obtain ⟨g1, h⟩ := h
    obtain ⟨g2, h⟩ := h
    refine aw_getR 11 dX5_voiced_8 fl_RX5_7 rfl g1 g2 rfl ?_
    refine aw_sipush 14 (v := 366) dX5_voiced_11 kS_366 rfl ?_
    obtain ⟨g3, h⟩ := h
    obtain ⟨g4, h⟩ := h
    refine aw_iaload 15 dX5_voiced_14 g3 g4 rfl ?_
    refine aw_icmp_ge 63 18 dX5_voiced_15 rfl rfl (fun c5 => ?_) (fun c5 => ?_)
    · replace h := h.1 c5
      refine aw_iload_n 64 dX5_voiced_63 rfl 3 rfl rfl ?_
      exact aw_ireturn (ty := .int) dX5_voiced_64 rfl rfl (leb rfl) (leb rfl) ⟨_, rfl, h⟩
    · replace h := h.2 c5
      refine aw_iload_n 19 dX5_voiced_18 rfl 3 rfl rfl ?_
      refine aw_aload_n 20 dX5_voiced_19 rfl 0 rfl rfl ?_
      refine aw_getR 23 dX5_voiced_20 fl_RX5_7 rfl g1 g2 rfl ?_
      refine aw_iload 25 dX5_voiced_23 4 rfl rfl ?_
      refine aw_iconst 26 (v := 1) dX5_voiced_25 kI_1 rfl ?_
      refine aw_callS (M' := M_X5_at) 29 44 [.int _, .int _] [.ref _, .int _] dX5_voiced_26 lk_RX5_44 ms_X5_at mp_X5_at rfl ⟨leb rfl, leb rfl⟩ rfl (leb rfl) (leb rfl) (leb rfl) rfl (am_X5_at hG h) (kkI fun v7 X6 h => ?_) (kxN KrI.no)
      refine aw_widen (cc' := 0) (ss' := 0) (leb rfl) (leb rfl) ?_
      obtain ⟨g8, h⟩ := h
      obtain ⟨g9, h⟩ := h
      refine aw_iaload 30 dX5_voiced_29 g8 g9 rfl ?_
      refine aw_iload_n 31 dX5_voiced_30 rfl 1 rfl rfl ?_
      refine aw_icmp_ne 54 34 dX5_voiced_31 rfl rfl (fun c10 => ?_) (fun c10 => ?_)
      · replace h := h.1 c10
        refine aw_iconst 55 (v := 0) dX5_voiced_54 kI_0 rfl ?_
        refine aw_iadd 56 dX5_voiced_55 rfl ?_
        refine aw_istore_n 57 (lv' := [(3, _), (0, _), (1, _), (2, _), (4, _)]) dX5_voiced_56 rfl (ltb rfl) rfl rfl ?_
        refine aw_iinc 60 (v := 1) (lv' := [(4, _), (3, _), (0, _), (1, _), (2, _)]) dX5_voiced_57 4 rfl kI_1 (ltb rfl) rfl rfl ?_
        refine aw_goto 5 dX5_voiced_60 rfl ?_
        exact aw_pick [2, 3, 4, 1, 0] rfl h
      · replace h := h.2 c10
        refine aw_aload_n 35 dX5_voiced_34 rfl 0 rfl rfl ?_
        refine aw_iload 37 dX5_voiced_35 4 rfl rfl ?_
        refine aw_iload_n 38 dX5_voiced_37 rfl 2 rfl rfl ?_
        obtain ⟨g13, h⟩ := h
        refine aw_callV (M' := M_X5_isTaken) 41 51 5 l0 [.int _, .int _] [.int _] dX5_voiced_38 lk_RX5_51 mv_X5_isTaken mp_X5_isTaken rfl ⟨leb rfl, leb rfl⟩ rfl (ltb rfl) g13 rfl (leb rfl) (leb rfl) (leb rfl) rfl (am_X5_isTaken hG h) (kkI fun v12 X11 h => ?_) (kxN KrI.no)
        refine aw_widen (cc' := 0) (ss' := 0) (leb rfl) (leb rfl) ?_
        refine aw_if_eq 54 44 dX5_voiced_41 rfl rfl (fun c14 => ?_) (fun c14 => ?_)
        · replace h := h.1 c14
          refine aw_iconst 55 (v := 0) dX5_voiced_54 kI_0 rfl ?_
          refine aw_iadd 56 dX5_voiced_55 rfl ?_
          refine aw_istore_n 57 (lv' := [(3, _), (0, _), (1, _), (2, _), (4, _)]) dX5_voiced_56 rfl (ltb rfl) rfl rfl ?_
          refine aw_iinc 60 (v := 1) (lv' := [(4, _), (3, _), (0, _), (1, _), (2, _)]) dX5_voiced_57 4 rfl kI_1 (ltb rfl) rfl rfl ?_
          refine aw_goto 5 dX5_voiced_60 rfl ?_
          exact aw_pick [2, 3, 4, 1, 0] rfl h
        · replace h := h.2 c14
          refine aw_aload_n 45 dX5_voiced_44 rfl 0 rfl rfl ?_
          refine aw_iload 47 dX5_voiced_45 4 rfl rfl ?_
          refine aw_iload_n 48 dX5_voiced_47 rfl 2 rfl rfl ?_
          obtain ⟨g17, h⟩ := h
          refine aw_callV (M' := M_X5_both) 51 59 5 l0 [.int _, .int _] [.int _] dX5_voiced_48 lk_RX5_59 mv_X5_both mp_X5_both rfl ⟨leb rfl, leb rfl⟩ rfl (ltb rfl) g17 rfl (leb rfl) (leb rfl) (leb rfl) rfl (am_X5_both hG h) (kkI fun v16 X15 h => ?_) (kxN KrI.no)
          refine aw_widen (cc' := 0) (ss' := 0) (leb rfl) (leb rfl) ?_
          refine aw_goto 55 dX5_voiced_51 rfl ?_
          refine aw_iadd 56 dX5_voiced_55 rfl ?_
          refine aw_istore_n 57 (lv' := [(3, _), (0, _), (1, _), (2, _), (4, _)]) dX5_voiced_56 rfl (ltb rfl) rfl rfl ?_
          refine aw_iinc 60 (v := 1) (lv' := [(4, _), (3, _), (0, _), (1, _), (2, _)]) dX5_voiced_57 4 rfl kI_1 (ltb rfl) rfl rfl ?_
          refine aw_goto 5 dX5_voiced_60 rfl ?_
          exact aw_pick [2, 3, 4, 1, 0] rfl h)
set_option maxRecDepth 20000 in
theorem am_X5_voiced {G : GG} (hG : G.1.stackTraces = false) {l0 : Nat} {l1 : Int32} {l2 : Int32} {X : XH} {K : Int32 → XH → Prop} (h : w_X5_voiced l0 l1 l2 X K) : AM G M_X5_voiced X [.ref l0, .int l1, .int l2] (KrI K) := AM_of (by decide +kernel) rfl (leb rfl) hG (by
  show AW G M_X5_voiced 0 [(0, .ref l0), (1, .int l1), (2, .int l2)] [] X 0 0 _
  unfold w_X5_voiced at h
  refine aw_iconst 1 (v := 0) dX5_voiced_0 kI_0 rfl ?_
  refine aw_istore_n 2 (lv' := [(3, _), (0, _), (1, _), (2, _)]) dX5_voiced_1 rfl (ltb rfl) rfl rfl ?_
  refine aw_iconst 3 (v := 0) dX5_voiced_2 kI_0 rfl ?_
  refine aw_istore 5 (lv' := [(4, _), (3, _), (0, _), (1, _), (2, _)]) dX5_voiced_3 (ltb rfl) rfl rfl ?_
  exact aw_pick [2, 3, 4, 1, 0] rfl (aw_X5_voiced_5 hG  h))
set_option maxRecDepth 20000 in
theorem aw_X5_framesOfVoice_14 {G : GG} (hG : G.1.stackTraces = false)  {l0 : Nat} {l1 : Int32} {l2 : Int32} {s0 : Nat} {s1 : Int32} {X : XH} {K : Int32 → XH → Prop}  (h : w_X5_framesOfVoice_14  l0 l1 l2 s0 s1 X K) : AW G M_X5_framesOfVoice 14 [(0, .ref l0), (1, .int l1), (2, .int l2)] [.int s1, .ref s0] X 0 0 (KrI K) := by
  unfold w_X5_framesOfVoice_14 at h
  obtain ⟨g3, h⟩ := h
  refine aw_callV (M' := M_X5_refused) 17 81 5 s0 [.int _] [] dX5_framesOfVoice_14 lk_RX5_81 mv_X5_refused mp_X5_refused rfl ⟨leb rfl, leb rfl⟩ rfl (ltb rfl) g3 rfl (leb rfl) (leb rfl) (leb rfl) rfl (am_X5_refused hG h) (kkI fun v2 X1 h => ?_) (kxN KrI.no)
  refine aw_widen (cc' := 0) (ss' := 0) (leb rfl) (leb rfl) ?_
  refine aw_if_eq 24 20 dX5_framesOfVoice_17 rfl rfl (fun c4 => ?_) (fun c4 => ?_)
  · replace h := h.1 c4
    refine aw_aload_n 25 dX5_framesOfVoice_24 rfl 0 rfl rfl ?_
    refine aw_iload_n 26 dX5_framesOfVoice_25 rfl 1 rfl rfl ?_
    refine aw_iload_n 27 dX5_framesOfVoice_26 rfl 2 rfl rfl ?_
    obtain ⟨g7, h⟩ := h
    refine aw_callV (M' := M_X5_voiced) 30 182 5 l0 [.int _, .int _] [] dX5_framesOfVoice_27 lk_RX5_182 mv_X5_voiced mp_X5_voiced rfl ⟨leb rfl, leb rfl⟩ rfl (ltb rfl) g7 rfl (leb rfl) (leb rfl) (leb rfl) rfl (am_X5_voiced hG h) (kkI fun v6 X5 h => ?_) (kxN KrI.no)
    refine aw_widen (cc' := 0) (ss' := 0) (leb rfl) (leb rfl) ?_
    exact aw_ireturn (ty := .int) dX5_framesOfVoice_30 rfl rfl (leb rfl) (leb rfl) ⟨_, rfl, h⟩
  · replace h := h.2 c4
    refine aw_iconst 21 (v := 0) dX5_framesOfVoice_20 kI_0 rfl ?_
    refine aw_goto 30 dX5_framesOfVoice_21 rfl ?_
    exact aw_ireturn (ty := .int) dX5_framesOfVoice_30 rfl rfl (leb rfl) (leb rfl) ⟨_, rfl, h⟩
set_option maxRecDepth 20000 in
theorem am_X5_framesOfVoice {G : GG} (hG : G.1.stackTraces = false) {l0 : Nat} {l1 : Int32} {l2 : Int32} {X : XH} {K : Int32 → XH → Prop} (h : w_X5_framesOfVoice l0 l1 l2 X K) : AM G M_X5_framesOfVoice X [.ref l0, .int l1, .int l2] (KrI K) := AM_of (by decide +kernel) rfl (leb rfl) hG (by
  show AW G M_X5_framesOfVoice 0 [(0, .ref l0), (1, .int l1), (2, .int l2)] [] X 0 0 _
  unfold w_X5_framesOfVoice at h
  refine aw_aload_n 1 dX5_framesOfVoice_0 rfl 0 rfl rfl ?_
  refine aw_iload_n 2 dX5_framesOfVoice_1 rfl 1 rfl rfl ?_
  refine aw_iload_n 3 dX5_framesOfVoice_2 rfl 2 rfl rfl ?_
  refine aw_callS (M' := M_X5_isVoice) 6 104 [.int _, .int _] [.ref _] dX5_framesOfVoice_3 lk_RX5_104 ms_X5_isVoice mp_X5_isVoice rfl ⟨leb rfl, leb rfl⟩ rfl (leb rfl) (leb rfl) (leb rfl) rfl (am_X5_isVoice hG h) (kkI fun v2 X1 h => ?_) (kxN KrI.no)
  refine aw_widen (cc' := 0) (ss' := 0) (leb rfl) (leb rfl) ?_
  refine aw_if_eq 13 9 dX5_framesOfVoice_6 rfl rfl (fun c3 => ?_) (fun c3 => ?_)
  · replace h := h.1 c3
    refine aw_iconst 14 (v := 1) dX5_framesOfVoice_13 kI_1 rfl ?_
    exact aw_pick [0, 1, 2] rfl (aw_X5_framesOfVoice_14 hG  h)
  · replace h := h.2 c3
    refine aw_iconst 10 (v := 0) dX5_framesOfVoice_9 kI_0 rfl ?_
    refine aw_goto 14 dX5_framesOfVoice_10 rfl ?_
    exact aw_pick [0, 1, 2] rfl (aw_X5_framesOfVoice_14 hG  h))
set_option maxRecDepth 20000 in
theorem am_X2_start {G : GG} (hG : G.1.stackTraces = false) {l0 : Nat} {l1 : Int32} {l2 : Int32} {X : XH} {K : XH → Prop} (h : w_X2_start l0 l1 l2 X K) : AM G M_X2_start X [.ref l0, .int l1, .int l2] (KrV K) := AM_of (by decide +kernel) rfl (leb rfl) hG (by
  show AW G M_X2_start 0 [(0, .ref l0), (1, .int l1), (2, .int l2)] [] X 0 0 _
  unfold w_X2_start at h
  refine aw_aload_n 1 dX2_start_0 rfl 0 rfl rfl ?_
  refine aw_iconst 2 (v := 0) dX2_start_1 kI_0 rfl ?_
  obtain ⟨g1, h⟩ := h
  refine aw_putI 5 dX2_start_2 fl_RX2_18 rfl rfl rfl rfl g1 rfl ?_
  refine aw_aload_n 6 dX2_start_5 rfl 0 rfl rfl ?_
  refine aw_iload_n 7 dX2_start_6 rfl 1 rfl rfl ?_
  refine aw_putI 10 dX2_start_7 fl_RX2_22 rfl rfl rfl rfl g1 rfl ?_
  refine aw_aload_n 11 dX2_start_10 rfl 0 rfl rfl ?_
  refine aw_iload_n 12 dX2_start_11 rfl 2 rfl rfl ?_
  refine aw_putI 15 dX2_start_12 fl_RX2_25 rfl rfl rfl rfl g1 rfl ?_
  exact aw_return dX2_start_15 rfl (leb rfl) (leb rfl) ⟨rfl, h⟩)
set_option maxRecDepth 20000 in
theorem am_X3_isReady {G : GG} (hG : G.1.stackTraces = false) {l0 : Nat} {l1 : Int32} {l2 : Int32} {X : XH} {K : Int32 → XH → Prop} (h : w_X3_isReady l0 l1 l2 X K) : AM G M_X3_isReady X [.ref l0, .int l1, .int l2] (KrI K) := AM_of (by decide +kernel) rfl (leb rfl) hG (by
  show AW G M_X3_isReady 0 [(0, .ref l0), (1, .int l1), (2, .int l2)] [] X 0 0 _
  unfold w_X3_isReady at h
  refine aw_aload_n 1 dX3_isReady_0 rfl 0 rfl rfl ?_
  refine aw_iload_n 2 dX3_isReady_1 rfl 1 rfl rfl ?_
  refine aw_iload_n 3 dX3_isReady_2 rfl 2 rfl rfl ?_
  obtain ⟨g3, h⟩ := h
  refine aw_callV (M' := M_X3_hasFit) 6 105 3 l0 [.int _, .int _] [] dX3_isReady_3 lk_RX3_105 mv_X3_hasFit mp_X3_hasFit rfl ⟨leb rfl, leb rfl⟩ rfl (ltb rfl) g3 rfl (leb rfl) (leb rfl) (leb rfl) rfl (am_X3_hasFit hG h) (kkI fun v2 X1 h => ?_) (kxN KrI.no)
  refine aw_widen (cc' := 0) (ss' := 0) (leb rfl) (leb rfl) ?_
  refine aw_if_eq 22 9 dX3_isReady_6 rfl rfl (fun c4 => ?_) (fun c4 => ?_)
  · replace h := h.1 c4
    refine aw_iconst 23 (v := 0) dX3_isReady_22 kI_0 rfl ?_
    exact aw_ireturn (ty := .boolean) dX3_isReady_23 rfl rfl (leb rfl) (leb rfl) ⟨_, rfl, h⟩
  · replace h := h.2 c4
    refine aw_aload_n 10 dX3_isReady_9 rfl 0 rfl rfl ?_
    refine aw_iload_n 11 dX3_isReady_10 rfl 1 rfl rfl ?_
    refine aw_iload_n 12 dX3_isReady_11 rfl 2 rfl rfl ?_
    obtain ⟨g7, h⟩ := h
    refine aw_callV (M' := M_X3_isTaken) 15 98 3 l0 [.int _, .int _] [] dX3_isReady_12 lk_RX3_98 mv_X3_isTaken mp_X3_isTaken rfl ⟨leb rfl, leb rfl⟩ rfl (ltb rfl) g7 rfl (leb rfl) (leb rfl) (leb rfl) rfl (am_X3_isTaken hG h) (kkI fun v6 X5 h => ?_) (kxN KrI.no)
    refine aw_widen (cc' := 0) (ss' := 0) (leb rfl) (leb rfl) ?_
    refine aw_if_ne 22 18 dX3_isReady_15 rfl rfl (fun c8 => ?_) (fun c8 => ?_)
    · replace h := h.1 c8
      refine aw_iconst 23 (v := 0) dX3_isReady_22 kI_0 rfl ?_
      exact aw_ireturn (ty := .boolean) dX3_isReady_23 rfl rfl (leb rfl) (leb rfl) ⟨_, rfl, h⟩
    · replace h := h.2 c8
      refine aw_iconst 19 (v := 1) dX3_isReady_18 kI_1 rfl ?_
      refine aw_goto 23 dX3_isReady_19 rfl ?_
      exact aw_ireturn (ty := .boolean) dX3_isReady_23 rfl rfl (leb rfl) (leb rfl) ⟨_, rfl, h⟩)
set_option maxRecDepth 20000 in
theorem am_X2_add {G : GG} (hG : G.1.stackTraces = false) {l0 : Nat} {l1 : Int32} {X : XH} {K : XH → Prop} (h : w_X2_add l0 l1 X K) : AM G M_X2_add X [.ref l0, .int l1] (KrV K) := AM_of (by decide +kernel) rfl (leb rfl) hG (by
  show AW G M_X2_add 0 [(0, .ref l0), (1, .int l1)] [] X 0 0 _
  unfold w_X2_add at h
  refine aw_aload_n 1 dX2_add_0 rfl 0 rfl rfl ?_
  obtain ⟨g1, h⟩ := h
  refine aw_getI 4 dX2_add_1 fl_RX2_18 rfl g1 rfl ?_
  refine aw_aload_n 5 dX2_add_4 rfl 0 rfl rfl ?_
  obtain ⟨g2, h⟩ := h
  refine aw_getR 8 dX2_add_5 fl_RX2_9 rfl g1 g2 rfl ?_
  obtain ⟨g3, h⟩ := h
  refine aw_alen 9 dX2_add_8 g3 rfl ?_
  refine aw_icmp_ge 34 12 dX2_add_9 rfl rfl (fun c4 => ?_) (fun c4 => ?_)
  · replace h := h.1 c4
    exact aw_return dX2_add_34 rfl (leb rfl) (leb rfl) ⟨rfl, h⟩
  · replace h := h.2 c4
    refine aw_aload_n 13 dX2_add_12 rfl 0 rfl rfl ?_
    refine aw_getR 16 dX2_add_13 fl_RX2_9 rfl g1 g2 rfl ?_
    refine aw_aload_n 17 dX2_add_16 rfl 0 rfl rfl ?_
    refine aw_getI 20 dX2_add_17 fl_RX2_18 rfl g1 rfl ?_
    refine aw_iload_n 21 dX2_add_20 rfl 1 rfl rfl ?_
    refine aw_callSN (M' := M_X4_put) 24 28 [.ref _, .int _, .int _] [] dX2_add_21 (by decide) ms_X4_put mp_X4_put rfl ⟨leb rfl, leb rfl⟩ rfl (leb rfl) (leb rfl) (leb rfl) rfl (am_X4_put hG h) (kkV fun X5 h => ?_) KrV.no
    refine aw_widen (cc' := 0) (ss' := 0) (leb rfl) (leb rfl) ?_
    refine aw_aload_n 25 dX2_add_24 rfl 0 rfl rfl ?_
    refine aw_dup 26 dX2_add_25 rfl rfl ?_
    obtain ⟨g6, h⟩ := h
    refine aw_getI 29 dX2_add_26 fl_RX2_18 rfl g6 rfl ?_
    refine aw_iconst 30 (v := 1) dX2_add_29 kI_1 rfl ?_
    refine aw_iadd 31 dX2_add_30 rfl ?_
    refine aw_putI 34 dX2_add_31 fl_RX2_18 rfl rfl rfl rfl g6 rfl ?_
    exact aw_return dX2_add_34 rfl (leb rfl) (leb rfl) ⟨rfl, h⟩)
set_option maxRecDepth 20000 in
theorem aw_X3_fillPlan_24 {G : GG} (hG : G.1.stackTraces = false)  {l0 : Nat} {l1 : Nat} {l2 : Int32} {l3 : Int32} {l4 : Int32} {X : XH} {K : XH → Prop}  (h : w_X3_fillPlan_24  l0 l1 l2 l3 l4 X K) : AW G M_X3_fillPlan 24 [(0, .ref l0), (1, .ref l1), (2, .int l2), (3, .int l3), (4, .int l4)] [] X 0 0 (KrV K) :=
  h (fun l0 l1 l2 l3 l4 X => AW G M_X3_fillPlan 24 [(0, .ref l0), (1, .ref l1), (2, .int l2), (3, .int l3), (4, .int l4)] [] X 0 0 (KrV K)) (fun l0 l1 l2 l3 l4 X h => by
    refine aw_iload 26 dX3_fillPlan_24 4 rfl rfl ?_
    refine aw_aload_n 27 dX3_fillPlan_26 rfl 0 rfl rfl ?_
    obtain ⟨g1, h⟩ := h
    refine aw_getI 30 dX3_fillPlan_27 fl_RX3_45 rfl g1 rfl ?_
    refine aw_icmp_ge 70 33 dX3_fillPlan_30 rfl rfl (fun c2 => ?_) (fun c2 => ?_)
    · replace h := h.1 c2
      exact aw_return dX3_fillPlan_70 rfl (leb rfl) (leb rfl) ⟨rfl, h⟩
    · replace h := h.2 c2
      refine aw_aload_n 34 dX3_fillPlan_33 rfl 0 rfl rfl ?_
      refine aw_iload 36 dX3_fillPlan_34 4 rfl rfl ?_
      refine aw_callV (M' := M_X3_speakerAt) 39 77 3 l0 [.int _] [] dX3_fillPlan_36 lk_RX3_77 mv_X3_speakerAt mp_X3_speakerAt rfl ⟨leb rfl, leb rfl⟩ rfl (ltb rfl) g1 rfl (leb rfl) (leb rfl) (leb rfl) rfl (am_X3_speakerAt hG h) (kkI fun v4 X3 h => ?_) (kxN KrI.no)
      refine aw_widen (cc' := 0) (ss' := 0) (leb rfl) (leb rfl) ?_
      refine aw_iload_n 40 dX3_fillPlan_39 rfl 2 rfl rfl ?_
      refine aw_icmp_ne 64 43 dX3_fillPlan_40 rfl rfl (fun c5 => ?_) (fun c5 => ?_)
      · replace h := h.1 c5
        refine aw_iinc 67 (v := 1) (lv' := [(4, _), (0, _), (1, _), (2, _), (3, _)]) dX3_fillPlan_64 4 rfl kI_1 (ltb rfl) rfl rfl ?_
        refine aw_goto 24 dX3_fillPlan_67 rfl ?_
        exact aw_pick [1, 2, 3, 4, 0] rfl h
      · replace h := h.2 c5
        refine aw_aload_n 44 dX3_fillPlan_43 rfl 0 rfl rfl ?_
        refine aw_iload 46 dX3_fillPlan_44 4 rfl rfl ?_
        refine aw_iload_n 47 dX3_fillPlan_46 rfl 3 rfl rfl ?_
        obtain ⟨g8, h⟩ := h
        refine aw_callV (M' := M_X3_isReady) 50 134 3 l0 [.int _, .int _] [] dX3_fillPlan_47 lk_RX3_134 mv_X3_isReady mp_X3_isReady rfl ⟨leb rfl, leb rfl⟩ rfl (ltb rfl) g8 rfl (leb rfl) (leb rfl) (leb rfl) rfl (am_X3_isReady hG h) (kkI fun v7 X6 h => ?_) (kxN KrI.no)
        refine aw_widen (cc' := 0) (ss' := 0) (leb rfl) (leb rfl) ?_
        refine aw_if_eq 64 53 dX3_fillPlan_50 rfl rfl (fun c9 => ?_) (fun c9 => ?_)
        · replace h := h.1 c9
          refine aw_iinc 67 (v := 1) (lv' := [(4, _), (0, _), (1, _), (2, _), (3, _)]) dX3_fillPlan_64 4 rfl kI_1 (ltb rfl) rfl rfl ?_
          refine aw_goto 24 dX3_fillPlan_67 rfl ?_
          exact aw_pick [1, 2, 3, 4, 0] rfl h
        · replace h := h.2 c9
          refine aw_aload_n 54 dX3_fillPlan_53 rfl 1 rfl rfl ?_
          refine aw_aload_n 55 dX3_fillPlan_54 rfl 0 rfl rfl ?_
          refine aw_iload 57 dX3_fillPlan_55 4 rfl rfl ?_
          refine aw_iload_n 58 dX3_fillPlan_57 rfl 3 rfl rfl ?_
          obtain ⟨g12, h⟩ := h
          refine aw_callV (M' := M_X3_spokenAt) 61 85 3 l0 [.int _, .int _] [.ref _] dX3_fillPlan_58 lk_RX3_85 mv_X3_spokenAt mp_X3_spokenAt rfl ⟨leb rfl, leb rfl⟩ rfl (ltb rfl) g12 rfl (leb rfl) (leb rfl) (leb rfl) rfl (am_X3_spokenAt hG h) (kkI fun v11 X10 h => ?_) (kxN KrI.no)
          refine aw_widen (cc' := 0) (ss' := 0) (leb rfl) (leb rfl) ?_
          obtain ⟨g14, h⟩ := h
          refine aw_callV (M' := M_X2_add) 64 142 2 l1 [.int _] [] dX3_fillPlan_61 lk_RX3_142 mv_X2_add mp_X2_add rfl ⟨leb rfl, leb rfl⟩ rfl (ltb rfl) g14 rfl (leb rfl) (leb rfl) (leb rfl) rfl (am_X2_add hG h) (kkV fun X13 h => ?_) (kxN KrV.no)
          refine aw_widen (cc' := 0) (ss' := 0) (leb rfl) (leb rfl) ?_
          refine aw_iinc 67 (v := 1) (lv' := [(4, _), (0, _), (1, _), (2, _), (3, _)]) dX3_fillPlan_64 4 rfl kI_1 (ltb rfl) rfl rfl ?_
          refine aw_goto 24 dX3_fillPlan_67 rfl ?_
          exact aw_pick [1, 2, 3, 4, 0] rfl h)
set_option maxRecDepth 20000 in
theorem am_X3_fillPlan {G : GG} (hG : G.1.stackTraces = false) {l0 : Nat} {l1 : Nat} {l2 : Int32} {l3 : Int32} {X : XH} {K : XH → Prop} (h : w_X3_fillPlan l0 l1 l2 l3 X K) : AM G M_X3_fillPlan X [.ref l0, .ref l1, .int l2, .int l3] (KrV K) := AM_of (by decide +kernel) rfl (leb rfl) hG (by
  show AW G M_X3_fillPlan 0 [(0, .ref l0), (1, .ref l1), (2, .int l2), (3, .int l3)] [] X 0 0 _
  unfold w_X3_fillPlan at h
  refine aw_aload_n 1 dX3_fillPlan_0 rfl 1 rfl rfl ?_
  refine aw_ifnonnull 5 dX3_fillPlan_1 rfl ?_
  refine aw_aload_n 6 dX3_fillPlan_5 rfl 1 rfl rfl ?_
  refine aw_aload_n 7 dX3_fillPlan_6 rfl 0 rfl rfl ?_
  refine aw_iload_n 8 dX3_fillPlan_7 rfl 2 rfl rfl ?_
  refine aw_iload_n 9 dX3_fillPlan_8 rfl 3 rfl rfl ?_
  obtain ⟨g3, h⟩ := h
  refine aw_callV (M' := M_X3_strengthAt) 12 111 3 l0 [.int _, .int _] [.ref _] dX3_fillPlan_9 lk_RX3_111 mv_X3_strengthAt mp_X3_strengthAt rfl ⟨leb rfl, leb rfl⟩ rfl (ltb rfl) g3 rfl (leb rfl) (leb rfl) (leb rfl) rfl (am_X3_strengthAt hG h) (kkI fun v2 X1 h => ?_) (kxN KrI.no)
  refine aw_widen (cc' := 0) (ss' := 0) (leb rfl) (leb rfl) ?_
  refine aw_aload_n 13 dX3_fillPlan_12 rfl 0 rfl rfl ?_
  refine aw_iload_n 14 dX3_fillPlan_13 rfl 2 rfl rfl ?_
  refine aw_iload_n 15 dX3_fillPlan_14 rfl 3 rfl rfl ?_
  obtain ⟨g6, h⟩ := h
  refine aw_callV (M' := M_X3_staminaAt) 18 128 3 l0 [.int _, .int _] [.int _, .ref _] dX3_fillPlan_15 lk_RX3_128 mv_X3_staminaAt mp_X3_staminaAt rfl ⟨leb rfl, leb rfl⟩ rfl (ltb rfl) g6 rfl (leb rfl) (leb rfl) (leb rfl) rfl (am_X3_staminaAt hG h) (kkI fun v5 X4 h => ?_) (kxN KrI.no)
  refine aw_widen (cc' := 0) (ss' := 0) (leb rfl) (leb rfl) ?_
  obtain ⟨g8, h⟩ := h
  refine aw_callV (M' := M_X2_start) 21 137 2 l1 [.int _, .int _] [] dX3_fillPlan_18 lk_RX3_137 mv_X2_start mp_X2_start rfl ⟨leb rfl, leb rfl⟩ rfl (ltb rfl) g8 rfl (leb rfl) (leb rfl) (leb rfl) rfl (am_X2_start hG h) (kkV fun X7 h => ?_) (kxN KrV.no)
  refine aw_widen (cc' := 0) (ss' := 0) (leb rfl) (leb rfl) ?_
  refine aw_iconst 22 (v := 0) dX3_fillPlan_21 kI_0 rfl ?_
  refine aw_istore 24 (lv' := [(4, _), (0, _), (1, _), (2, _), (3, _)]) dX3_fillPlan_22 (ltb rfl) rfl rfl ?_
  exact aw_pick [1, 2, 3, 4, 0] rfl (aw_X3_fillPlan_24 hG  h))
set_option maxRecDepth 20000 in
theorem aw_X2_hasTooLong_2 {G : GG} (hG : G.1.stackTraces = false)  {l0 : Nat} {l1 : Int32} {X : XH} {K : Int32 → XH → Prop}  (h : w_X2_hasTooLong_2  l0 l1 X K) : AW G M_X2_hasTooLong 2 [(0, .ref l0), (1, .int l1)] [] X 0 0 (KrI K) :=
  h (fun l0 l1 X => AW G M_X2_hasTooLong 2 [(0, .ref l0), (1, .int l1)] [] X 0 0 (KrI K)) (fun l0 l1 X h => by
    refine aw_iload_n 3 dX2_hasTooLong_2 rfl 1 rfl rfl ?_
    refine aw_aload_n 4 dX2_hasTooLong_3 rfl 0 rfl rfl ?_
    obtain ⟨g1, h⟩ := h
    refine aw_getI 7 dX2_hasTooLong_4 fl_RX2_18 rfl g1 rfl ?_
    refine aw_icmp_ge 33 10 dX2_hasTooLong_7 rfl rfl (fun c2 => ?_) (fun c2 => ?_)
    · replace h := h.1 c2
      refine aw_iconst 34 (v := 0) dX2_hasTooLong_33 kI_0 rfl ?_
      exact aw_ireturn (ty := .boolean) dX2_hasTooLong_34 rfl rfl (leb rfl) (leb rfl) ⟨_, rfl, h⟩
    · replace h := h.2 c2
      refine aw_aload_n 11 dX2_hasTooLong_10 rfl 0 rfl rfl ?_
      obtain ⟨g3, h⟩ := h
      refine aw_getR 14 dX2_hasTooLong_11 fl_RX2_9 rfl g1 g3 rfl ?_
      refine aw_iload_n 15 dX2_hasTooLong_14 rfl 1 rfl rfl ?_
      refine aw_callSN (M' := M_X4_at) 18 32 [.ref _, .int _] [] dX2_hasTooLong_15 (by decide) ms_X4_at mp_X4_at rfl ⟨leb rfl, leb rfl⟩ rfl (leb rfl) (leb rfl) (leb rfl) rfl (am_X4_at hG h) (kkI fun v5 X4 h => ?_) KrI.no
      refine aw_widen (cc' := 0) (ss' := 0) (leb rfl) (leb rfl) ?_
      refine aw_aload_n 19 dX2_hasTooLong_18 rfl 0 rfl rfl ?_
      obtain ⟨g6, h⟩ := h
      refine aw_getI 22 dX2_hasTooLong_19 fl_RX2_25 rfl g6 rfl ?_
      refine aw_icmp_le 27 25 dX2_hasTooLong_22 rfl rfl (fun c7 => ?_) (fun c7 => ?_)
      · replace h := h.1 c7
        refine aw_iinc 30 (v := 1) (lv' := [(1, _), (0, _)]) dX2_hasTooLong_27 1 rfl kI_1 (ltb rfl) rfl rfl ?_
        refine aw_goto 2 dX2_hasTooLong_30 rfl ?_
        exact aw_pick [1, 0] rfl h
      · replace h := h.2 c7
        refine aw_iconst 26 (v := 1) dX2_hasTooLong_25 kI_1 rfl ?_
        exact aw_ireturn (ty := .boolean) dX2_hasTooLong_26 rfl rfl (leb rfl) (leb rfl) ⟨_, rfl, h⟩)
set_option maxRecDepth 20000 in
theorem am_X2_hasTooLong {G : GG} (hG : G.1.stackTraces = false) {l0 : Nat} {X : XH} {K : Int32 → XH → Prop} (h : w_X2_hasTooLong l0 X K) : AM G M_X2_hasTooLong X [.ref l0] (KrI K) := AM_of (by decide +kernel) rfl (leb rfl) hG (by
  show AW G M_X2_hasTooLong 0 [(0, .ref l0)] [] X 0 0 _
  unfold w_X2_hasTooLong at h
  refine aw_iconst 1 (v := 0) dX2_hasTooLong_0 kI_0 rfl ?_
  refine aw_istore_n 2 (lv' := [(1, _), (0, _)]) dX2_hasTooLong_1 rfl (ltb rfl) rfl rfl ?_
  exact aw_pick [1, 0] rfl (aw_X2_hasTooLong_2 hG  h))
set_option maxRecDepth 20000 in
theorem am_X4_checkPlan {G : GG} (hG : G.1.stackTraces = false) {l0 : Nat} {l1 : Int32} {l2 : Int32} {X : XH} {K : XH → Prop} {KX : String → XH → Prop} (h : w_X4_checkPlan l0 l1 l2 X K KX) : AM G M_X4_checkPlan X [.ref l0, .int l1, .int l2] (KxT (KrV K) KX) := AM_of (by decide +kernel) rfl (leb rfl) hG (by
  show AW G M_X4_checkPlan 0 [(0, .ref l0), (1, .int l1), (2, .int l2)] [] X 0 0 _
  unfold w_X4_checkPlan at h
  refine aw_aload_n 1 dX4_checkPlan_0 rfl 0 rfl rfl ?_
  obtain ⟨g1, h⟩ := h
  obtain ⟨g2, h⟩ := h
  refine aw_getR 4 dX4_checkPlan_1 fl_RX4_10 rfl g1 g2 rfl ?_
  refine aw_aload_n 5 dX4_checkPlan_4 rfl 0 rfl rfl ?_
  obtain ⟨g3, h⟩ := h
  refine aw_getR 8 dX4_checkPlan_5 fl_RX4_41 rfl g1 g3 rfl ?_
  refine aw_iload_n 9 dX4_checkPlan_8 rfl 1 rfl rfl ?_
  refine aw_iload_n 10 dX4_checkPlan_9 rfl 2 rfl rfl ?_
  obtain ⟨g5, h⟩ := h
  refine aw_callV (M' := M_X3_fillPlan) 13 401 3 (hR X l0 0) [.ref _, .int _, .int _] [] dX4_checkPlan_10 lk_RX4_401 mv_X3_fillPlan mp_X3_fillPlan rfl ⟨leb rfl, leb rfl⟩ rfl (ltb rfl) g5 rfl (leb rfl) (leb rfl) (leb rfl) rfl (am_X3_fillPlan hG h) (kkV fun X4 h => ?_) (kxN KrV.no)
  refine aw_widen (cc' := 0) (ss' := 0) (leb rfl) (leb rfl) ?_
  refine aw_aload_n 14 dX4_checkPlan_13 rfl 0 rfl rfl ?_
  obtain ⟨g6, h⟩ := h
  obtain ⟨g7, h⟩ := h
  refine aw_getR 17 dX4_checkPlan_14 fl_RX4_41 rfl g6 g7 rfl ?_
  obtain ⟨g10, h⟩ := h
  refine aw_callV (M' := M_X2_hasTooLong) 20 405 2 (hR X4 l0 5) [] [] dX4_checkPlan_17 lk_RX4_405 mv_X2_hasTooLong mp_X2_hasTooLong rfl ⟨leb rfl, leb rfl⟩ rfl (ltb rfl) g10 rfl (leb rfl) (leb rfl) (leb rfl) rfl (am_X2_hasTooLong hG h) (kkI fun v9 X8 h => ?_) (kxN KrI.no)
  refine aw_widen (cc' := 0) (ss' := 0) (leb rfl) (leb rfl) ?_
  refine aw_if_eq 34 23 dX4_checkPlan_20 rfl rfl (fun c11 => ?_) (fun c11 => ?_)
  · replace h := h.1 c11
    exact aw_return dX4_checkPlan_34 rfl (leb rfl) (leb rfl) (Or.inl ⟨rfl, h⟩)
  · replace h := h.2 c11
    exact aw_throw xcS 60 438 64 rfl th_xcS (by decide) (Or.inr ⟨dX4_checkPlan_23, dX4_checkPlan_26, dX4_checkPlan_27, dX4_checkPlan_30, dX4_checkPlan_33⟩) rfl (ltb rfl) (leb rfl) (leb rfl) (leb rfl) (Or.inr ⟨_, rfl, h⟩))
set_option maxRecDepth 20000 in
theorem aw_X2_goThrough_18 {G : GG} (hG : G.1.stackTraces = false)  {l0 : Nat} {l1 : Int32} {l2 : Int32} {l3 : Int32} {X : XH} {K : Int32 → XH → Prop}  (h : w_X2_goThrough_18  l0 l1 l2 l3 X K) : AW G M_X2_goThrough 18 [(0, .ref l0), (1, .int l1), (2, .int l2), (3, .int l3)] [] X 0 0 (KrI K) :=
  h (fun l0 l1 l2 l3 X => AW G M_X2_goThrough 18 [(0, .ref l0), (1, .int l1), (2, .int l2), (3, .int l3)] [] X 0 0 (KrI K)) (fun l0 l1 l2 l3 X h => by
    refine aw_iload_n 19 dX2_goThrough_18 rfl 3 rfl rfl ?_
    refine aw_aload_n 20 dX2_goThrough_19 rfl 0 rfl rfl ?_
    obtain ⟨g1, h⟩ := h
    refine aw_getI 23 dX2_goThrough_20 fl_RX2_18 rfl g1 rfl ?_
    refine aw_icmp_ge 61 26 dX2_goThrough_23 rfl rfl (fun c2 => ?_) (fun c2 => ?_)
    · replace h := h.1 c2
      refine aw_iload_n 62 dX2_goThrough_61 rfl 1 rfl rfl ?_
      exact aw_ireturn (ty := .int) dX2_goThrough_62 rfl rfl (leb rfl) (leb rfl) ⟨_, rfl, h⟩
    · replace h := h.2 c2
      refine aw_aload_n 27 dX2_goThrough_26 rfl 0 rfl rfl ?_
      obtain ⟨g3, h⟩ := h
      refine aw_getR 30 dX2_goThrough_27 fl_RX2_9 rfl g1 g3 rfl ?_
      refine aw_iload_n 31 dX2_goThrough_30 rfl 3 rfl rfl ?_
      refine aw_callSN (M' := M_X4_at) 34 32 [.ref _, .int _] [] dX2_goThrough_31 (by decide) ms_X4_at mp_X4_at rfl ⟨leb rfl, leb rfl⟩ rfl (leb rfl) (leb rfl) (leb rfl) rfl (am_X4_at hG h) (kkI fun v5 X4 h => ?_) KrI.no
      refine aw_widen (cc' := 0) (ss' := 0) (leb rfl) (leb rfl) ?_
      refine aw_istore 36 (lv' := [(4, _), (0, _), (1, _), (2, _), (3, _)]) dX2_goThrough_34 (ltb rfl) rfl rfl ?_
      refine aw_iload 38 dX2_goThrough_36 0 rfl rfl ?_
      refine aw_iload_n 39 dX2_goThrough_38 rfl 3 rfl rfl ?_
      refine aw_icmp_le 50 42 dX2_goThrough_39 rfl rfl (fun c6 => ?_) (fun c6 => ?_)
      · replace h := h.1 c6
        refine aw_iload_n 51 dX2_goThrough_50 rfl 3 rfl rfl ?_
        refine aw_iload 53 dX2_goThrough_51 0 rfl rfl ?_
        refine aw_isub 54 dX2_goThrough_53 rfl ?_
        refine aw_istore_n 55 (lv' := [(2, _), (4, _), (0, _), (1, _), (3, _)]) dX2_goThrough_54 rfl (ltb rfl) rfl rfl ?_
        refine aw_iinc 58 (v := 1) (lv' := [(3, _), (2, _), (4, _), (0, _), (1, _)]) dX2_goThrough_55 4 rfl kI_1 (ltb rfl) rfl rfl ?_
        refine aw_goto 18 dX2_goThrough_58 rfl ?_
        exact aw_pick [3, 4, 1, 0] rfl h
      · replace h := h.2 c6
        refine aw_iinc 45 (v := 1) (lv' := [(1, _), (4, _), (0, _), (2, _), (3, _)]) dX2_goThrough_42 2 rfl kI_1 (ltb rfl) rfl rfl ?_
        refine aw_aload_n 46 dX2_goThrough_45 rfl 2 rfl rfl ?_
        obtain ⟨g7, h⟩ := h
        refine aw_getI 49 dX2_goThrough_46 fl_RX2_25 rfl g7 rfl ?_
        refine aw_istore_n 50 (lv' := [(2, _), (1, _), (4, _), (0, _), (3, _)]) dX2_goThrough_49 rfl (ltb rfl) rfl rfl ?_
        refine aw_iload_n 51 dX2_goThrough_50 rfl 0 rfl rfl ?_
        refine aw_iload 53 dX2_goThrough_51 2 rfl rfl ?_
        refine aw_isub 54 dX2_goThrough_53 rfl ?_
        refine aw_istore_n 55 (lv' := [(2, _), (1, _), (4, _), (0, _), (3, _)]) dX2_goThrough_54 rfl (ltb rfl) rfl rfl ?_
        refine aw_iinc 58 (v := 1) (lv' := [(3, _), (2, _), (1, _), (4, _), (0, _)]) dX2_goThrough_55 4 rfl kI_1 (ltb rfl) rfl rfl ?_
        refine aw_goto 18 dX2_goThrough_58 rfl ?_
        exact aw_pick [4, 2, 1, 0] rfl h)
set_option maxRecDepth 20000 in
theorem am_X2_goThrough {G : GG} (hG : G.1.stackTraces = false) {l0 : Nat} {X : XH} {K : Int32 → XH → Prop} (h : w_X2_goThrough l0 X K) : AM G M_X2_goThrough X [.ref l0] (KrI K) := AM_of (by decide +kernel) rfl (leb rfl) hG (by
  show AW G M_X2_goThrough 0 [(0, .ref l0)] [] X 0 0 _
  unfold w_X2_goThrough at h
  refine aw_aload_n 1 dX2_goThrough_0 rfl 0 rfl rfl ?_
  obtain ⟨g1, h⟩ := h
  refine aw_getI 4 dX2_goThrough_1 fl_RX2_18 rfl g1 rfl ?_
  refine aw_if_ne 9 7 dX2_goThrough_4 rfl rfl (fun c2 => ?_) (fun c2 => ?_)
  · replace h := h.1 c2
    refine aw_iconst 10 (v := 1) dX2_goThrough_9 kI_1 rfl ?_
    refine aw_istore_n 11 (lv' := [(1, _), (0, _)]) dX2_goThrough_10 rfl (ltb rfl) rfl rfl ?_
    refine aw_aload_n 12 dX2_goThrough_11 rfl 1 rfl rfl ?_
    refine aw_getI 15 dX2_goThrough_12 fl_RX2_22 rfl g1 rfl ?_
    refine aw_istore_n 16 (lv' := [(2, _), (1, _), (0, _)]) dX2_goThrough_15 rfl (ltb rfl) rfl rfl ?_
    refine aw_iconst 17 (v := 0) dX2_goThrough_16 kI_0 rfl ?_
    refine aw_istore_n 18 (lv' := [(3, _), (2, _), (1, _), (0, _)]) dX2_goThrough_17 rfl (ltb rfl) rfl rfl ?_
    exact aw_pick [3, 2, 1, 0] rfl (aw_X2_goThrough_18 hG  h)
  · replace h := h.2 c2
    refine aw_iconst 8 (v := 0) dX2_goThrough_7 kI_0 rfl ?_
    exact aw_ireturn (ty := .int) dX2_goThrough_8 rfl rfl (leb rfl) (leb rfl) ⟨_, rfl, h⟩)
set_option maxRecDepth 20000 in
theorem am_X4_sessionsByGoing {G : GG} (hG : G.1.stackTraces = false) {l0 : Nat} {l1 : Int32} {l2 : Int32} {X : XH} {K : Int32 → XH → Prop} {KX : String → XH → Prop} (h : w_X4_sessionsByGoing l0 l1 l2 X K KX) : AM G M_X4_sessionsByGoing X [.ref l0, .int l1, .int l2] (KxT (KrI K) KX) := AM_of (by decide +kernel) rfl (leb rfl) hG (by
  show AW G M_X4_sessionsByGoing 0 [(0, .ref l0), (1, .int l1), (2, .int l2)] [] X 0 0 _
  unfold w_X4_sessionsByGoing at h
  refine aw_iload_n 1 dX4_sessionsByGoing_0 rfl 1 rfl rfl ?_
  refine aw_iload_n 2 dX4_sessionsByGoing_1 rfl 2 rfl rfl ?_
  refine aw_callS (M' := M_X4_checkVoice) 5 150 [.int _, .int _] [] dX4_sessionsByGoing_2 lk_RX4_150 ms_X4_checkVoice mp_X4_checkVoice rfl ⟨leb rfl, leb rfl⟩ rfl (leb rfl) (leb rfl) (leb rfl) rfl (am_X4_checkVoice hG h) (kkT (kkV fun X1 h => ?_)) (kxT KrV.no fun E X h => at_out rfl (leb rfl) (leb rfl) (Or.inr ⟨_, rfl, h⟩))
  refine aw_widen (cc' := 2) (ss' := 12) (leb rfl) (leb rfl) ?_
  refine aw_aload_n 6 dX4_sessionsByGoing_5 rfl 0 rfl rfl ?_
  refine aw_iload_n 7 dX4_sessionsByGoing_6 rfl 1 rfl rfl ?_
  refine aw_iload_n 8 dX4_sessionsByGoing_7 rfl 2 rfl rfl ?_
  obtain ⟨g3, h⟩ := h
  refine aw_callV (M' := M_X4_checkPlan) 11 298 4 l0 [.int _, .int _] [] dX4_sessionsByGoing_8 lk_RX4_298 mv_X4_checkPlan mp_X4_checkPlan rfl ⟨leb rfl, leb rfl⟩ rfl (ltb rfl) g3 rfl (leb rfl) (leb rfl) (leb rfl) rfl (am_X4_checkPlan hG h) (kkT (kkV fun X2 h => ?_)) (kxT KrV.no fun E X h => at_out rfl (leb rfl) (leb rfl) (Or.inr ⟨_, rfl, h⟩))
  refine aw_widen (cc' := 3) (ss' := 18) (leb rfl) (leb rfl) ?_
  refine aw_aload_n 12 dX4_sessionsByGoing_11 rfl 0 rfl rfl ?_
  obtain ⟨g4, h⟩ := h
  obtain ⟨g5, h⟩ := h
  refine aw_getR 15 dX4_sessionsByGoing_12 fl_RX4_41 rfl g4 g5 rfl ?_
  obtain ⟨g8, h⟩ := h
  refine aw_callV (M' := M_X2_goThrough) 18 301 2 (hR X2 l0 5) [] [] dX4_sessionsByGoing_15 lk_RX4_301 mv_X2_goThrough mp_X2_goThrough rfl ⟨leb rfl, leb rfl⟩ rfl (ltb rfl) g8 rfl (leb rfl) (leb rfl) (leb rfl) rfl (am_X2_goThrough hG h) (kkI fun v7 X6 h => ?_) (kxN KrI.no)
  refine aw_widen (cc' := 3) (ss' := 18) (leb rfl) (leb rfl) ?_
  exact aw_ireturn (ty := .int) dX4_sessionsByGoing_18 rfl rfl (leb rfl) (leb rfl) (Or.inl ⟨_, rfl, h⟩))
set_option maxRecDepth 20000 in
theorem am_L_sessionsByGoing {G : GG} (hG : G.1.stackTraces = false) {l0 : Nat} {l1 : Int32} {l2 : Int32} {l3 : Nat} {X : XH} {K : Int32 → XH → Prop} (h : w_L_sessionsByGoing l0 l1 l2 l3 X K) : AM G M_L_sessionsByGoing X [.ref l0, .int l1, .int l2, .ref l3] (KrI K) := AM_ofH (by decide +kernel) (0, 10, 13, 13) [(0, 10, 17, 17)] rfl (leb rfl) hG (by
  show AW G M_L_sessionsByGoing 0 [(0, .ref l0), (1, .int l1), (2, .int l2), (3, .ref l3)] [] X 0 0 _
  unfold w_L_sessionsByGoing at h
  refine aw_aload_n 1 dL_sessionsByGoing_0 rfl 3 rfl rfl ?_
  refine aw_iconst 2 (v := 0) dL_sessionsByGoing_1 kI_0 rfl ?_
  refine aw_aload_n 3 dL_sessionsByGoing_2 rfl 0 rfl rfl ?_
  refine aw_iload_n 4 dL_sessionsByGoing_3 rfl 1 rfl rfl ?_
  refine aw_iload_n 5 dL_sessionsByGoing_4 rfl 2 rfl rfl ?_
  obtain ⟨g3, h⟩ := h
  refine aw_callV (M' := M_X4_sessionsByGoing) 8 123 4 l0 [.int _, .int _] [.int _, .ref _] dL_sessionsByGoing_5 lk_RL_123 mv_X4_sessionsByGoing mp_X4_sessionsByGoing rfl ⟨leb rfl, leb rfl⟩ rfl (ltb rfl) g3 rfl (leb rfl) (leb rfl) (leb rfl) rfl (am_X4_sessionsByGoing hG h) (kkT (kkI fun v2 X1 h => ?_)) (kxT KrI.no fun E X1 h => ?_)
  · refine aw_widen (cc' := 3) (ss' := 18) (leb rfl) (leb rfl) ?_
    refine aw_i2l 9 dL_sessionsByGoing_8 rfl ?_
    obtain ⟨g4, h⟩ := h
    obtain ⟨g5, h⟩ := h
    refine aw_lastore 10 dL_sessionsByGoing_9 g4 g5 rfl ?_
    refine aw_goto 21 dL_sessionsByGoing_10 rfl ?_
    refine aw_iconst 22 (v := 0) dL_sessionsByGoing_21 kI_0 rfl ?_
    exact aw_ireturn (ty := .int) dL_sessionsByGoing_22 rfl rfl (leb rfl) (leb rfl) ⟨_, rfl, h⟩
  · obtain ⟨hE, h⟩ := h
    rcases hE with rfl | rfl
    · refine aw_atc (lv' := [(0, .ref _), (1, .int _), (2, .int _), (3, .ref _)]) [] (0, 10, 13, 13) [(0, 10, 17, 17)] rfl (fun z hz => nomatch hz) (by decide) (by decide) (tk3 (i := 61) (by decide +kernel) rfl) (by decide) 4 2 15 (Or.inr ⟨dL_sessionsByGoing_13, rfl⟩) (ltb rfl) rfl ?_
      refine aw_widen (cc' := 3) (ss' := 18) (leb rfl) (leb rfl) ?_
      replace h := h.1 rfl
      refine aw_iconst 16 (v := 1) dL_sessionsByGoing_15 kI_1 rfl ?_
      exact aw_ireturn (ty := .int) dL_sessionsByGoing_16 rfl rfl (leb rfl) (leb rfl) ⟨_, rfl, h⟩
    · refine aw_atc (lv' := [(0, .ref _), (1, .int _), (2, .int _), (3, .ref _)]) [(0, 10, 13, 13)] (0, 10, 17, 17) [] rfl (by intro z hz; simp only [List.mem_cons, List.not_mem_nil, or_false] at hz; rcases hz with rfl <;> first | exact ⟨by decide, xcI, tk3 (i := 61) (by decide +kernel) rfl, by decide⟩) (by decide) (by decide) (tk3 (i := 63) (by decide +kernel) rfl) (by decide) 4 2 19 (Or.inr ⟨dL_sessionsByGoing_17, rfl⟩) (ltb rfl) rfl ?_
      refine aw_widen (cc' := 3) (ss' := 18) (leb rfl) (leb rfl) ?_
      replace h := h.2 rfl
      refine aw_iconst 20 (v := 2) dL_sessionsByGoing_19 kI_2 rfl ?_
      exact aw_ireturn (ty := .int) dL_sessionsByGoing_20 rfl rfl (leb rfl) (leb rfl) ⟨_, rfl, h⟩)
set_option maxRecDepth 20000 in
theorem am_X5_isReady {G : GG} (hG : G.1.stackTraces = false) {l0 : Nat} {l1 : Int32} {l2 : Int32} {X : XH} {K : Int32 → XH → Prop} (h : w_X5_isReady l0 l1 l2 X K) : AM G M_X5_isReady X [.ref l0, .int l1, .int l2] (KrI K) := AM_of (by decide +kernel) rfl (leb rfl) hG (by
  show AW G M_X5_isReady 0 [(0, .ref l0), (1, .int l1), (2, .int l2)] [] X 0 0 _
  unfold w_X5_isReady at h
  refine aw_aload_n 1 dX5_isReady_0 rfl 0 rfl rfl ?_
  refine aw_iload_n 2 dX5_isReady_1 rfl 1 rfl rfl ?_
  refine aw_iload_n 3 dX5_isReady_2 rfl 2 rfl rfl ?_
  obtain ⟨g3, h⟩ := h
  refine aw_callV (M' := M_X5_reason) 6 68 5 l0 [.int _, .int _] [] dX5_isReady_3 lk_RX5_68 mv_X5_reason mp_X5_reason rfl ⟨leb rfl, leb rfl⟩ rfl (ltb rfl) g3 rfl (leb rfl) (leb rfl) (leb rfl) rfl (am_X5_reason hG h) (kkI fun v2 X1 h => ?_) (kxN KrI.no)
  refine aw_widen (cc' := 0) (ss' := 0) (leb rfl) (leb rfl) ?_
  refine aw_istore_n 7 (lv' := [(3, _), (0, _), (1, _), (2, _)]) dX5_isReady_6 rfl (ltb rfl) rfl rfl ?_
  refine aw_iload_n 8 dX5_isReady_7 rfl 0 rfl rfl ?_
  refine aw_if_eq 16 11 dX5_isReady_8 rfl rfl (fun c4 => ?_) (fun c4 => ?_)
  · replace h := h.1 c4
    refine aw_iconst 17 (v := 1) dX5_isReady_16 kI_1 rfl ?_
    refine aw_goto 21 dX5_isReady_17 rfl ?_
    exact aw_ireturn (ty := .boolean) dX5_isReady_21 rfl rfl (leb rfl) (leb rfl) ⟨_, rfl, h⟩
  · replace h := h.2 c4
    refine aw_iload_n 12 dX5_isReady_11 rfl 0 rfl rfl ?_
    refine aw_iconst 13 (v := 4) dX5_isReady_12 kI_4 rfl ?_
    refine aw_icmp_ne 20 16 dX5_isReady_13 rfl rfl (fun c5 => ?_) (fun c5 => ?_)
    · replace h := h.1 c5
      refine aw_iconst 21 (v := 0) dX5_isReady_20 kI_0 rfl ?_
      exact aw_ireturn (ty := .boolean) dX5_isReady_21 rfl rfl (leb rfl) (leb rfl) ⟨_, rfl, h⟩
    · replace h := h.2 c5
      refine aw_iconst 17 (v := 1) dX5_isReady_16 kI_1 rfl ?_
      refine aw_goto 21 dX5_isReady_17 rfl ?_
      exact aw_ireturn (ty := .boolean) dX5_isReady_21 rfl rfl (leb rfl) (leb rfl) ⟨_, rfl, h⟩)
set_option maxRecDepth 20000 in
theorem aw_X5_sessions_111 {G : GG} (hG : G.1.stackTraces = false) {P29 : Nat → Int32 → Int32 → Int32 → Int32 → Int32 → Int32 → XH → Prop} {l0 : Nat} {l1 : Int32} {l2 : Int32} {l3 : Int32} {l4 : Int32} {l6 : Int32} {l7 : Int32} {s0 : Int32} {s1 : Int32} {X : XH} {K : Int32 → XH → Prop} (hO29 : ∀ (l0 : Nat) (l1 : Int32) (l2 : Int32) (l3 : Int32) (l4 : Int32) (l5 : Int32) (l6 : Int32) (X : XH), P29 l0 l1 l2 l3 l4 l5 l6 X → AW G M_X5_sessions 29 [(0, .ref l0), (1, .int l1), (2, .int l2), (3, .int l3), (4, .int l4), (5, .int l5), (6, .int l6)] [] X 0 0 (KrI K)) (h : w_X5_sessions_111 P29 l0 l1 l2 l3 l4 l6 l7 s0 s1 X K) : AW G M_X5_sessions 111 [(0, .ref l0), (1, .int l1), (2, .int l2), (3, .int l3), (4, .int l4), (6, .int l6), (7, .int l7)] [.int s1, .int s0] X 0 0 (KrI K) := by
  unfold w_X5_sessions_111 at h
  refine aw_iadd 112 dX5_sessions_111 rfl ?_
  refine aw_istore 114 (lv' := [(5, _), (0, _), (1, _), (2, _), (3, _), (4, _), (6, _), (7, _)]) dX5_sessions_112 (ltb rfl) rfl rfl ?_
  refine aw_iload 116 dX5_sessions_114 7 rfl rfl ?_
  refine aw_iload 118 dX5_sessions_116 5 rfl rfl ?_
  refine aw_icmp_le 125 121 dX5_sessions_118 rfl rfl (fun c1 => ?_) (fun c1 => ?_)
  · replace h := h.1 c1
    refine aw_iload 127 dX5_sessions_125 5 rfl rfl ?_
    refine aw_iload 129 dX5_sessions_127 7 rfl rfl ?_
    refine aw_isub 130 dX5_sessions_129 rfl ?_
    refine aw_istore 132 (lv' := [(4, _), (5, _), (0, _), (1, _), (2, _), (3, _), (6, _), (7, _)]) dX5_sessions_130 (ltb rfl) rfl rfl ?_
    refine aw_iinc 135 (v := 1) (lv' := [(6, _), (4, _), (5, _), (0, _), (1, _), (2, _), (3, _), (7, _)]) dX5_sessions_132 6 rfl kI_1 (ltb rfl) rfl rfl ?_
    refine aw_goto 29 dX5_sessions_135 rfl ?_
    exact aw_pick [3, 4, 5, 6, 1, 2, 0] rfl (hO29 _ _ _ _ _ _ _ _ h)
  · replace h := h.2 c1
    refine aw_iload_n 122 dX5_sessions_121 rfl 4 rfl rfl ?_
    refine aw_goto 127 dX5_sessions_122 rfl ?_
    refine aw_iload 129 dX5_sessions_127 7 rfl rfl ?_
    refine aw_isub 130 dX5_sessions_129 rfl ?_
    refine aw_istore 132 (lv' := [(4, _), (5, _), (0, _), (1, _), (2, _), (3, _), (6, _), (7, _)]) dX5_sessions_130 (ltb rfl) rfl rfl ?_
    refine aw_iinc 135 (v := 1) (lv' := [(6, _), (4, _), (5, _), (0, _), (1, _), (2, _), (3, _), (7, _)]) dX5_sessions_132 6 rfl kI_1 (ltb rfl) rfl rfl ?_
    refine aw_goto 29 dX5_sessions_135 rfl ?_
    exact aw_pick [3, 4, 5, 6, 1, 2, 0] rfl (hO29 _ _ _ _ _ _ _ _ h)
set_option maxRecDepth 20000 in
theorem aw_X5_sessions_29 {G : GG} (hG : G.1.stackTraces = false)  {l0 : Nat} {l1 : Int32} {l2 : Int32} {l3 : Int32} {l4 : Int32} {l5 : Int32} {l6 : Int32} {X : XH} {K : Int32 → XH → Prop}  (h : w_X5_sessions_29  l0 l1 l2 l3 l4 l5 l6 X K) : AW G M_X5_sessions 29 [(0, .ref l0), (1, .int l1), (2, .int l2), (3, .int l3), (4, .int l4), (5, .int l5), (6, .int l6)] [] X 0 0 (KrI K) :=
  h (fun l0 l1 l2 l3 l4 l5 l6 X => AW G M_X5_sessions 29 [(0, .ref l0), (1, .int l1), (2, .int l2), (3, .int l3), (4, .int l4), (5, .int l5), (6, .int l6)] [] X 0 0 (KrI K)) (fun l0 l1 l2 l3 l4 l5 l6 X h => by
    refine aw_iload 31 dX5_sessions_29 6 rfl rfl ?_
    refine aw_aload_n 32 dX5_sessions_31 rfl 0 rfl rfl ?_
    obtain ⟨g1, h⟩ := h
    obtain ⟨g2, h⟩ := h
    refine aw_getR 35 dX5_sessions_32 fl_RX5_7 rfl g1 g2 rfl ?_
    refine aw_sipush 38 (v := 366) dX5_sessions_35 kS_366 rfl ?_
    obtain ⟨g3, h⟩ := h
    obtain ⟨g4, h⟩ := h
    refine aw_iaload 39 dX5_sessions_38 g3 g4 rfl ?_
    refine aw_icmp_ge 138 42 dX5_sessions_39 rfl rfl (fun c5 => ?_) (fun c5 => ?_)
    · replace h := h.1 c5
      refine aw_iload 140 dX5_sessions_138 5 rfl rfl ?_
      exact aw_ireturn (ty := .int) dX5_sessions_140 rfl rfl (leb rfl) (leb rfl) ⟨_, rfl, h⟩
    · replace h := h.2 c5
      refine aw_aload_n 43 dX5_sessions_42 rfl 0 rfl rfl ?_
      refine aw_getR 46 dX5_sessions_43 fl_RX5_7 rfl g1 g2 rfl ?_
      refine aw_iload 48 dX5_sessions_46 6 rfl rfl ?_
      refine aw_iconst 49 (v := 1) dX5_sessions_48 kI_1 rfl ?_
      refine aw_callS (M' := M_X5_at) 52 44 [.int _, .int _] [.ref _] dX5_sessions_49 lk_RX5_44 ms_X5_at mp_X5_at rfl ⟨leb rfl, leb rfl⟩ rfl (leb rfl) (leb rfl) (leb rfl) rfl (am_X5_at hG h) (kkI fun v7 X6 h => ?_) (kxN KrI.no)
      refine aw_widen (cc' := 0) (ss' := 0) (leb rfl) (leb rfl) ?_
      obtain ⟨g8, h⟩ := h
      obtain ⟨g9, h⟩ := h
      refine aw_iaload 53 dX5_sessions_52 g8 g9 rfl ?_
      refine aw_iload_n 54 dX5_sessions_53 rfl 1 rfl rfl ?_
      refine aw_icmp_ne 132 57 dX5_sessions_54 rfl rfl (fun c10 => ?_) (fun c10 => ?_)
      · replace h := h.1 c10
        refine aw_iinc 135 (v := 1) (lv' := [(6, _), (0, _), (1, _), (2, _), (3, _), (4, _), (5, _)]) dX5_sessions_132 6 rfl kI_1 (ltb rfl) rfl rfl ?_
        refine aw_goto 29 dX5_sessions_135 rfl ?_
        exact aw_pick [1, 2, 3, 4, 5, 6, 0] rfl h
      · replace h := h.2 c10
        refine aw_aload_n 58 dX5_sessions_57 rfl 0 rfl rfl ?_
        refine aw_iload 60 dX5_sessions_58 6 rfl rfl ?_
        refine aw_iload_n 61 dX5_sessions_60 rfl 2 rfl rfl ?_
        obtain ⟨g13, h⟩ := h
        refine aw_callV (M' := M_X5_isReady) 64 185 5 l0 [.int _, .int _] [] dX5_sessions_61 lk_RX5_185 mv_X5_isReady mp_X5_isReady rfl ⟨leb rfl, leb rfl⟩ rfl (ltb rfl) g13 rfl (leb rfl) (leb rfl) (leb rfl) rfl (am_X5_isReady hG h) (kkI fun v12 X11 h => ?_) (kxN KrI.no)
        refine aw_widen (cc' := 0) (ss' := 0) (leb rfl) (leb rfl) ?_
        refine aw_if_eq 132 67 dX5_sessions_64 rfl rfl (fun c14 => ?_) (fun c14 => ?_)
        · replace h := h.1 c14
          refine aw_iinc 135 (v := 1) (lv' := [(6, _), (0, _), (1, _), (2, _), (3, _), (4, _), (5, _)]) dX5_sessions_132 6 rfl kI_1 (ltb rfl) rfl rfl ?_
          refine aw_goto 29 dX5_sessions_135 rfl ?_
          exact aw_pick [1, 2, 3, 4, 5, 6, 0] rfl h
        · replace h := h.2 c14
          refine aw_aload_n 68 dX5_sessions_67 rfl 0 rfl rfl ?_
          refine aw_iload 70 dX5_sessions_68 6 rfl rfl ?_
          refine aw_iload_n 71 dX5_sessions_70 rfl 2 rfl rfl ?_
          obtain ⟨g17, h⟩ := h
          refine aw_callV (M' := M_X5_both) 74 59 5 l0 [.int _, .int _] [] dX5_sessions_71 lk_RX5_59 mv_X5_both mp_X5_both rfl ⟨leb rfl, leb rfl⟩ rfl (ltb rfl) g17 rfl (leb rfl) (leb rfl) (leb rfl) rfl (am_X5_both hG h) (kkI fun v16 X15 h => ?_) (kxN KrI.no)
          refine aw_widen (cc' := 0) (ss' := 0) (leb rfl) (leb rfl) ?_
          refine aw_istore 76 (lv' := [(7, _), (0, _), (1, _), (2, _), (3, _), (4, _), (5, _), (6, _)]) dX5_sessions_74 (ltb rfl) rfl rfl ?_
          refine aw_iload 78 dX5_sessions_76 0 rfl rfl ?_
          refine aw_iload_n 79 dX5_sessions_78 rfl 4 rfl rfl ?_
          refine aw_icmp_le 84 82 dX5_sessions_79 rfl rfl (fun c18 => ?_) (fun c18 => ?_)
          · replace h := h.1 c18
            refine aw_iload 86 dX5_sessions_84 6 rfl rfl ?_
            refine aw_if_ne 93 89 dX5_sessions_86 rfl rfl (fun c19 => ?_) (fun c19 => ?_)
            · replace h := h.1 c19
              refine aw_iload 95 dX5_sessions_93 6 rfl rfl ?_
              refine aw_istore 97 (lv' := [(5, _), (7, _), (0, _), (1, _), (2, _), (3, _), (4, _), (6, _)]) dX5_sessions_95 (ltb rfl) rfl rfl ?_
              refine aw_iload 99 dX5_sessions_97 0 rfl rfl ?_
              refine aw_iload 101 dX5_sessions_99 1 rfl rfl ?_
              refine aw_iload 103 dX5_sessions_101 6 rfl rfl ?_
              refine aw_icmp_le 110 106 dX5_sessions_103 rfl rfl (fun c20 => ?_) (fun c20 => ?_)
              · replace h := h.1 c20
                refine aw_iconst 111 (v := 0) dX5_sessions_110 kI_0 rfl ?_
                exact aw_pick [2, 3, 4, 5, 6, 7, 1] rfl (aw_X5_sessions_111 hG (fun _ _ _ _ _ _ _ _ h => h) h)
              · replace h := h.2 c20
                refine aw_iconst 107 (v := 1) dX5_sessions_106 kI_1 rfl ?_
                refine aw_goto 111 dX5_sessions_107 rfl ?_
                exact aw_pick [2, 3, 4, 5, 6, 7, 1] rfl (aw_X5_sessions_111 hG (fun _ _ _ _ _ _ _ _ h => h) h)
            · replace h := h.2 c19
              refine aw_iconst 90 (v := 1) dX5_sessions_89 kI_1 rfl ?_
              refine aw_goto 95 dX5_sessions_90 rfl ?_
              refine aw_istore 97 (lv' := [(5, _), (7, _), (0, _), (1, _), (2, _), (3, _), (4, _), (6, _)]) dX5_sessions_95 (ltb rfl) rfl rfl ?_
              refine aw_iload 99 dX5_sessions_97 0 rfl rfl ?_
              refine aw_iload 101 dX5_sessions_99 1 rfl rfl ?_
              refine aw_iload 103 dX5_sessions_101 6 rfl rfl ?_
              refine aw_icmp_le 110 106 dX5_sessions_103 rfl rfl (fun c21 => ?_) (fun c21 => ?_)
              · replace h := h.1 c21
                refine aw_iconst 111 (v := 0) dX5_sessions_110 kI_0 rfl ?_
                exact aw_pick [2, 3, 4, 5, 6, 7, 1] rfl (aw_X5_sessions_111 hG (fun _ _ _ _ _ _ _ _ h => h) h)
              · replace h := h.2 c21
                refine aw_iconst 107 (v := 1) dX5_sessions_106 kI_1 rfl ?_
                refine aw_goto 111 dX5_sessions_107 rfl ?_
                exact aw_pick [2, 3, 4, 5, 6, 7, 1] rfl (aw_X5_sessions_111 hG (fun _ _ _ _ _ _ _ _ h => h) h)
          · replace h := h.2 c18
            refine aw_iconst 83 (v := -1) dX5_sessions_82 kI_m1 rfl ?_
            exact aw_ireturn (ty := .int) dX5_sessions_83 rfl rfl (leb rfl) (leb rfl) ⟨_, rfl, h⟩)
set_option maxRecDepth 20000 in
theorem am_X5_sessions {G : GG} (hG : G.1.stackTraces = false) {l0 : Nat} {l1 : Int32} {l2 : Int32} {X : XH} {K : Int32 → XH → Prop} (h : w_X5_sessions l0 l1 l2 X K) : AM G M_X5_sessions X [.ref l0, .int l1, .int l2] (KrI K) := AM_of (by decide +kernel) rfl (leb rfl) hG (by
  show AW G M_X5_sessions 0 [(0, .ref l0), (1, .int l1), (2, .int l2)] [] X 0 0 _
  unfold w_X5_sessions at h
  refine aw_aload_n 1 dX5_sessions_0 rfl 0 rfl rfl ?_
  obtain ⟨g1, h⟩ := h
  obtain ⟨g2, h⟩ := h
  refine aw_getR 4 dX5_sessions_1 fl_RX5_7 rfl g1 g2 rfl ?_
  refine aw_sipush 7 (v := 312) dX5_sessions_4 kS_312 rfl ?_
  refine aw_iconst 8 (v := 3) dX5_sessions_7 kI_3 rfl ?_
  refine aw_iload_n 9 dX5_sessions_8 rfl 1 rfl rfl ?_
  refine aw_imul 10 dX5_sessions_9 rfl ?_
  refine aw_iadd 11 dX5_sessions_10 rfl ?_
  refine aw_iload_n 12 dX5_sessions_11 rfl 2 rfl rfl ?_
  refine aw_iadd 13 dX5_sessions_12 rfl ?_
  obtain ⟨g3, h⟩ := h
  obtain ⟨g4, h⟩ := h
  refine aw_iaload 14 dX5_sessions_13 g3 g4 rfl ?_
  refine aw_istore_n 15 (lv' := [(3, _), (0, _), (1, _), (2, _)]) dX5_sessions_14 rfl (ltb rfl) rfl rfl ?_
  refine aw_aload_n 16 dX5_sessions_15 rfl 1 rfl rfl ?_
  refine aw_iload_n 17 dX5_sessions_16 rfl 2 rfl rfl ?_
  refine aw_iload_n 18 dX5_sessions_17 rfl 3 rfl rfl ?_
  refine aw_callV (M' := M_X5_left) 21 65 5 l0 [.int _, .int _] [] dX5_sessions_18 lk_RX5_65 mv_X5_left mp_X5_left rfl ⟨leb rfl, leb rfl⟩ rfl (ltb rfl) g1 rfl (leb rfl) (leb rfl) (leb rfl) rfl (am_X5_left hG h) (kkI fun v6 X5 h => ?_) (kxN KrI.no)
  refine aw_widen (cc' := 0) (ss' := 0) (leb rfl) (leb rfl) ?_
  refine aw_istore 23 (lv' := [(4, _), (3, _), (0, _), (1, _), (2, _)]) dX5_sessions_21 (ltb rfl) rfl rfl ?_
  refine aw_iconst 24 (v := 0) dX5_sessions_23 kI_0 rfl ?_
  refine aw_istore 26 (lv' := [(5, _), (4, _), (3, _), (0, _), (1, _), (2, _)]) dX5_sessions_24 (ltb rfl) rfl rfl ?_
  refine aw_iconst 27 (v := 0) dX5_sessions_26 kI_0 rfl ?_
  refine aw_istore 29 (lv' := [(6, _), (5, _), (4, _), (3, _), (0, _), (1, _), (2, _)]) dX5_sessions_27 (ltb rfl) rfl rfl ?_
  exact aw_pick [4, 5, 6, 3, 2, 1, 0] rfl (aw_X5_sessions_29 hG  h))
set_option maxRecDepth 20000 in
theorem aw_X5_inSessions_27 {G : GG} (hG : G.1.stackTraces = false)  {l0 : Nat} {l1 : Int32} {l2 : Int32} {s0 : Nat} {s1 : Int32} {X : XH} {K : Int32 → XH → Prop}  (h : w_X5_inSessions_27  l0 l1 l2 s0 s1 X K) : AW G M_X5_inSessions 27 [(0, .ref l0), (1, .int l1), (2, .int l2)] [.int s1, .ref s0] X 0 0 (KrI K) := by
  unfold w_X5_inSessions_27 at h
  obtain ⟨g3, h⟩ := h
  refine aw_callV (M' := M_X5_refused) 30 81 5 s0 [.int _] [] dX5_inSessions_27 lk_RX5_81 mv_X5_refused mp_X5_refused rfl ⟨leb rfl, leb rfl⟩ rfl (ltb rfl) g3 rfl (leb rfl) (leb rfl) (leb rfl) rfl (am_X5_refused hG h) (kkI fun v2 X1 h => ?_) (kxN KrI.no)
  refine aw_widen (cc' := 0) (ss' := 0) (leb rfl) (leb rfl) ?_
  refine aw_if_eq 37 33 dX5_inSessions_30 rfl rfl (fun c4 => ?_) (fun c4 => ?_)
  · replace h := h.1 c4
    refine aw_aload_n 38 dX5_inSessions_37 rfl 0 rfl rfl ?_
    refine aw_iload_n 39 dX5_inSessions_38 rfl 1 rfl rfl ?_
    refine aw_iload_n 40 dX5_inSessions_39 rfl 2 rfl rfl ?_
    obtain ⟨g7, h⟩ := h
    refine aw_callV (M' := M_X5_sessions) 43 188 5 l0 [.int _, .int _] [] dX5_inSessions_40 lk_RX5_188 mv_X5_sessions mp_X5_sessions rfl ⟨leb rfl, leb rfl⟩ rfl (ltb rfl) g7 rfl (leb rfl) (leb rfl) (leb rfl) rfl (am_X5_sessions hG h) (kkI fun v6 X5 h => ?_) (kxN KrI.no)
    refine aw_widen (cc' := 0) (ss' := 0) (leb rfl) (leb rfl) ?_
    exact aw_ireturn (ty := .int) dX5_inSessions_43 rfl rfl (leb rfl) (leb rfl) ⟨_, rfl, h⟩
  · replace h := h.2 c4
    refine aw_iconst 34 (v := 0) dX5_inSessions_33 kI_0 rfl ?_
    refine aw_goto 43 dX5_inSessions_34 rfl ?_
    exact aw_ireturn (ty := .int) dX5_inSessions_43 rfl rfl (leb rfl) (leb rfl) ⟨_, rfl, h⟩
set_option maxRecDepth 20000 in
theorem am_X5_inSessions {G : GG} (hG : G.1.stackTraces = false) {l0 : Nat} {l1 : Int32} {l2 : Int32} {X : XH} {K : Int32 → XH → Prop} (h : w_X5_inSessions l0 l1 l2 X K) : AM G M_X5_inSessions X [.ref l0, .int l1, .int l2] (KrI K) := AM_of (by decide +kernel) rfl (leb rfl) hG (by
  show AW G M_X5_inSessions 0 [(0, .ref l0), (1, .int l1), (2, .int l2)] [] X 0 0 _
  unfold w_X5_inSessions at h
  refine aw_aload_n 1 dX5_inSessions_0 rfl 0 rfl rfl ?_
  refine aw_iload_n 2 dX5_inSessions_1 rfl 1 rfl rfl ?_
  refine aw_iload_n 3 dX5_inSessions_2 rfl 2 rfl rfl ?_
  refine aw_callS (M' := M_X5_isVoice) 6 104 [.int _, .int _] [.ref _] dX5_inSessions_3 lk_RX5_104 ms_X5_isVoice mp_X5_isVoice rfl ⟨leb rfl, leb rfl⟩ rfl (leb rfl) (leb rfl) (leb rfl) rfl (am_X5_isVoice hG h) (kkI fun v2 X1 h => ?_) (kxN KrI.no)
  refine aw_widen (cc' := 0) (ss' := 0) (leb rfl) (leb rfl) ?_
  refine aw_if_ne 13 9 dX5_inSessions_6 rfl rfl (fun c3 => ?_) (fun c3 => ?_)
  · replace h := h.1 c3
    refine aw_aload_n 14 dX5_inSessions_13 rfl 0 rfl rfl ?_
    refine aw_iload_n 15 dX5_inSessions_14 rfl 1 rfl rfl ?_
    refine aw_iload_n 16 dX5_inSessions_15 rfl 2 rfl rfl ?_
    obtain ⟨g6, h⟩ := h
    refine aw_callV (M' := M_X5_sessions) 19 188 5 l0 [.int _, .int _] [.ref _] dX5_inSessions_16 lk_RX5_188 mv_X5_sessions mp_X5_sessions rfl ⟨leb rfl, leb rfl⟩ rfl (ltb rfl) g6 rfl (leb rfl) (leb rfl) (leb rfl) rfl (am_X5_sessions hG h) (kkI fun v5 X4 h => ?_) (kxN KrI.no)
    refine aw_widen (cc' := 0) (ss' := 0) (leb rfl) (leb rfl) ?_
    refine aw_if_ge 26 22 dX5_inSessions_19 rfl rfl (fun c7 => ?_) (fun c7 => ?_)
    · replace h := h.1 c7
      refine aw_iconst 27 (v := 0) dX5_inSessions_26 kI_0 rfl ?_
      exact aw_pick [0, 1, 2] rfl (aw_X5_inSessions_27 hG  h)
    · replace h := h.2 c7
      refine aw_iconst 23 (v := 2) dX5_inSessions_22 kI_2 rfl ?_
      refine aw_goto 27 dX5_inSessions_23 rfl ?_
      exact aw_pick [0, 1, 2] rfl (aw_X5_inSessions_27 hG  h)
  · replace h := h.2 c3
    refine aw_iconst 10 (v := 1) dX5_inSessions_9 kI_1 rfl ?_
    refine aw_goto 27 dX5_inSessions_10 rfl ?_
    exact aw_pick [0, 1, 2] rfl (aw_X5_inSessions_27 hG  h))
set_option maxRecDepth 20000 in
theorem am_X5_sessionsByGoing {G : GG} (hG : G.1.stackTraces = false) {l0 : Nat} {l1 : Int32} {l2 : Int32} {X : XH} {K : Int32 → XH → Prop} (h : w_X5_sessionsByGoing l0 l1 l2 X K) : AM G M_X5_sessionsByGoing X [.ref l0, .int l1, .int l2] (KrI K) := AM_of (by decide +kernel) rfl (leb rfl) hG (by
  show AW G M_X5_sessionsByGoing 0 [(0, .ref l0), (1, .int l1), (2, .int l2)] [] X 0 0 _
  unfold w_X5_sessionsByGoing at h
  refine aw_aload_n 1 dX5_sessionsByGoing_0 rfl 0 rfl rfl ?_
  refine aw_iload_n 2 dX5_sessionsByGoing_1 rfl 1 rfl rfl ?_
  refine aw_iload_n 3 dX5_sessionsByGoing_2 rfl 2 rfl rfl ?_
  obtain ⟨g3, h⟩ := h
  refine aw_callV (M' := M_X5_inSessions) 6 191 5 l0 [.int _, .int _] [] dX5_sessionsByGoing_3 lk_RX5_191 mv_X5_inSessions mp_X5_inSessions rfl ⟨leb rfl, leb rfl⟩ rfl (ltb rfl) g3 rfl (leb rfl) (leb rfl) (leb rfl) rfl (am_X5_inSessions hG h) (kkI fun v2 X1 h => ?_) (kxN KrI.no)
  refine aw_widen (cc' := 0) (ss' := 0) (leb rfl) (leb rfl) ?_
  exact aw_ireturn (ty := .int) dX5_sessionsByGoing_6 rfl rfl (leb rfl) (leb rfl) ⟨_, rfl, h⟩)
end XWK7
