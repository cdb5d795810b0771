/-! the walks of methods, as predicates -/
section XWK3
set_option maxRecDepth 20000 in
theorem aw_X5_addClause_51 {G : GG} (hG : G.1.stackTraces = false)  {l0 : Nat} {l1 : Int32} {l2 : Int32} {l3 : Int32} {s0 : Nat} {s1 : Int32} {X : XH} {K : Int32 → XH → Prop}  (h : w_X5_addClause_51  l0 l1 l2 l3 s0 s1 X K) : AW G M_X5_addClause 51 [(0, .ref l0), (1, .int l1), (2, .int l2), (3, .int l3)] [.int s1, .ref s0] X 0 0 (KrI K) := by
  unfold w_X5_addClause_51 at h
  obtain ⟨g3, h⟩ := h
  refine aw_callV (M' := M_X5_refused) 54 81 5 s0 [.int _] [] dX5_addClause_51 lk_RX5_81 mv_X5_refused mp_X5_refused rfl ⟨leb rfl, leb rfl⟩ rfl (ltb rfl) g3 rfl (leb rfl) (leb rfl) (leb rfl) rfl (am_X5_refused hG h) (kkI fun v2 X1 h => ?_) (kxN KrI.no)
  refine aw_widen (cc' := 0) (ss' := 0) (leb rfl) (leb rfl) ?_
  refine aw_if_eq 59 57 dX5_addClause_54 rfl rfl (fun c4 => ?_) (fun c4 => ?_)
  · replace h := h.1 c4
    refine aw_aload_n 60 dX5_addClause_59 rfl 0 rfl rfl ?_
    obtain ⟨g6, h⟩ := h
    refine aw_callV (M' := M_X5_saves) 63 84 5 l0 [] [] dX5_addClause_60 lk_RX5_84 mv_X5_saves mp_X5_saves rfl ⟨leb rfl, leb rfl⟩ rfl (ltb rfl) g6 rfl (leb rfl) (leb rfl) (leb rfl) rfl (am_X5_saves hG h) (kkV fun X5 h => ?_) (kxN KrV.no)
    refine aw_widen (cc' := 0) (ss' := 0) (leb rfl) (leb rfl) ?_
    refine aw_aload_n 64 dX5_addClause_63 rfl 0 rfl rfl ?_
    refine aw_iload_n 65 dX5_addClause_64 rfl 1 rfl rfl ?_
    refine aw_iload_n 66 dX5_addClause_65 rfl 2 rfl rfl ?_
    refine aw_iload_n 67 dX5_addClause_66 rfl 3 rfl rfl ?_
    refine aw_iconst 68 (v := 0) dX5_addClause_67 kI_0 rfl ?_
    obtain ⟨g8, h⟩ := h
    refine aw_callV (M' := M_X5_adds) 71 87 5 l0 [.int _, .int _, .int _, .int _] [] dX5_addClause_68 lk_RX5_87 mv_X5_adds mp_X5_adds rfl ⟨leb rfl, leb rfl⟩ rfl (ltb rfl) g8 rfl (leb rfl) (leb rfl) (leb rfl) rfl (am_X5_adds hG h) (kkV fun X7 h => ?_) (kxN KrV.no)
    refine aw_widen (cc' := 0) (ss' := 0) (leb rfl) (leb rfl) ?_
    refine aw_aload_n 72 dX5_addClause_71 rfl 0 rfl rfl ?_
    obtain ⟨g9, h⟩ := h
    obtain ⟨g10, h⟩ := h
    refine aw_getR 75 dX5_addClause_72 fl_RX5_7 rfl g9 g10 rfl ?_
    refine aw_sipush 78 (v := 366) dX5_addClause_75 kS_366 rfl ?_
    obtain ⟨g11, h⟩ := h
    obtain ⟨g12, h⟩ := h
    refine aw_iaload 79 dX5_addClause_78 g11 g12 rfl ?_
    refine aw_iconst 80 (v := 1) dX5_addClause_79 kI_1 rfl ?_
    refine aw_isub 81 dX5_addClause_80 rfl ?_
    exact aw_ireturn (ty := .int) dX5_addClause_81 rfl rfl (leb rfl) (leb rfl) ⟨_, rfl, h⟩
  · replace h := h.2 c4
    refine aw_iconst 58 (v := 0) dX5_addClause_57 kI_0 rfl ?_
    exact aw_ireturn (ty := .int) dX5_addClause_58 rfl rfl (leb rfl) (leb rfl) ⟨_, rfl, h⟩
set_option maxRecDepth 20000 in
theorem am_X5_addClause {G : GG} (hG : G.1.stackTraces = false) {l0 : Nat} {l1 : Int32} {l2 : Int32} {l3 : Int32} {X : XH} {K : Int32 → XH → Prop} (h : w_X5_addClause l0 l1 l2 l3 X K) : AM G M_X5_addClause X [.ref l0, .int l1, .int l2, .int l3] (KrI K) := AM_of (by decide +kernel) rfl (leb rfl) hG (by
  show AW G M_X5_addClause 0 [(0, .ref l0), (1, .int l1), (2, .int l2), (3, .int l3)] [] X 0 0 _
  unfold w_X5_addClause at h
  refine aw_aload_n 1 dX5_addClause_0 rfl 0 rfl rfl ?_
  refine aw_iload_n 2 dX5_addClause_1 rfl 1 rfl rfl ?_
  refine aw_callS (M' := M_X5_isReel) 5 75 [.int _] [.ref _] dX5_addClause_2 lk_RX5_75 ms_X5_isReel mp_X5_isReel rfl ⟨leb rfl, leb rfl⟩ rfl (leb rfl) (leb rfl) (leb rfl) rfl (am_X5_isReel hG h) (kkI fun v2 X1 h => ?_) (kxN KrI.no)
  refine aw_widen (cc' := 0) (ss' := 0) (leb rfl) (leb rfl) ?_
  refine aw_if_eq 15 8 dX5_addClause_5 rfl rfl (fun c3 => ?_) (fun c3 => ?_)
  · replace h := h.1 c3
    refine aw_iconst 16 (v := 1) dX5_addClause_15 kI_1 rfl ?_
    refine aw_goto 51 dX5_addClause_16 rfl ?_
    exact aw_pick [0, 1, 2, 3] rfl (aw_X5_addClause_51 hG  h)
  · replace h := h.2 c3
    refine aw_iload_n 9 dX5_addClause_8 rfl 2 rfl rfl ?_
    refine aw_callS (M' := M_X5_isState) 12 78 [.int _] [.ref _] dX5_addClause_9 lk_RX5_78 ms_X5_isState mp_X5_isState rfl ⟨leb rfl, leb rfl⟩ rfl (leb rfl) (leb rfl) (leb rfl) rfl (am_X5_isState hG h) (kkI fun v5 X4 h => ?_) (kxN KrI.no)
    refine aw_widen (cc' := 0) (ss' := 0) (leb rfl) (leb rfl) ?_
    refine aw_if_ne 19 15 dX5_addClause_12 rfl rfl (fun c6 => ?_) (fun c6 => ?_)
    · replace h := h.1 c6
      refine aw_iload_n 20 dX5_addClause_19 rfl 3 rfl rfl ?_
      refine aw_iconst 21 (v := 4) dX5_addClause_20 kI_4 rfl ?_
      refine aw_bipush 23 (v := 60) dX5_addClause_21 kB_60 rfl ?_
      refine aw_callS (M' := M_X5_in) 26 30 [.int _, .int _, .int _] [.ref _] dX5_addClause_23 lk_RX5_30 ms_X5_in mp_X5_in rfl ⟨leb rfl, leb rfl⟩ rfl (leb rfl) (leb rfl) (leb rfl) rfl (am_X5_in hG h) (kkI fun v8 X7 h => ?_) (kxN KrI.no)
      refine aw_widen (cc' := 0) (ss' := 0) (leb rfl) (leb rfl) ?_
      refine aw_if_ne 33 29 dX5_addClause_26 rfl rfl (fun c9 => ?_) (fun c9 => ?_)
      · replace h := h.1 c9
        refine aw_aload_n 34 dX5_addClause_33 rfl 0 rfl rfl ?_
        obtain ⟨g10, h⟩ := h
        obtain ⟨g11, h⟩ := h
        refine aw_getR 37 dX5_addClause_34 fl_RX5_7 rfl g10 g11 rfl ?_
        refine aw_sipush 40 (v := 366) dX5_addClause_37 kS_366 rfl ?_
        obtain ⟨g12, h⟩ := h
        obtain ⟨g13, h⟩ := h
        refine aw_iaload 41 dX5_addClause_40 g12 g13 rfl ?_
        refine aw_bipush 43 (v := 24) dX5_addClause_41 kB_24 rfl ?_
        refine aw_icmp_ne 50 46 dX5_addClause_43 rfl rfl (fun c14 => ?_) (fun c14 => ?_)
        · replace h := h.1 c14
          refine aw_iconst 51 (v := 0) dX5_addClause_50 kI_0 rfl ?_
          exact aw_pick [0, 1, 2, 3] rfl (aw_X5_addClause_51 hG  h)
        · replace h := h.2 c14
          refine aw_iconst 47 (v := 3) dX5_addClause_46 kI_3 rfl ?_
          refine aw_goto 51 dX5_addClause_47 rfl ?_
          exact aw_pick [0, 1, 2, 3] rfl (aw_X5_addClause_51 hG  h)
      · replace h := h.2 c9
        refine aw_iconst 30 (v := 2) dX5_addClause_29 kI_2 rfl ?_
        refine aw_goto 51 dX5_addClause_30 rfl ?_
        exact aw_pick [0, 1, 2, 3] rfl (aw_X5_addClause_51 hG  h)
    · replace h := h.2 c6
      refine aw_iconst 16 (v := 1) dX5_addClause_15 kI_1 rfl ?_
      refine aw_goto 51 dX5_addClause_16 rfl ?_
      exact aw_pick [0, 1, 2, 3] rfl (aw_X5_addClause_51 hG  h))
set_option maxRecDepth 20000 in
theorem am_X5_thrown {G : GG} (hG : G.1.stackTraces = false) {l0 : Nat} {X : XH} {K : Int32 → XH → Prop} (h : w_X5_thrown l0 X K) : AM G M_X5_thrown X [.ref l0] (KrI K) := AM_of (by decide +kernel) rfl (leb rfl) hG (by
  show AW G M_X5_thrown 0 [(0, .ref l0)] [] X 0 0 _
  unfold w_X5_thrown at h
  refine aw_aload_n 1 dX5_thrown_0 rfl 0 rfl rfl ?_
  obtain ⟨g1, h⟩ := h
  refine aw_getI 4 dX5_thrown_1 fl_RX5_26 rfl g1 rfl ?_
  exact aw_ireturn (ty := .int) dX5_thrown_4 rfl rfl (leb rfl) (leb rfl) ⟨_, rfl, h⟩)
set_option maxRecDepth 20000 in
theorem am_X5_isClause {G : GG} (hG : G.1.stackTraces = false) {l0 : Nat} {l1 : Int32} {X : XH} {K : Int32 → XH → Prop} (h : w_X5_isClause l0 l1 X K) : AM G M_X5_isClause X [.ref l0, .int l1] (KrI K) := AM_of (by decide +kernel) rfl (leb rfl) hG (by
  show AW G M_X5_isClause 0 [(0, .ref l0), (1, .int l1)] [] X 0 0 _
  unfold w_X5_isClause at h
  refine aw_iload_n 1 dX5_isClause_0 rfl 1 rfl rfl ?_
  refine aw_iconst 2 (v := 0) dX5_isClause_1 kI_0 rfl ?_
  refine aw_aload_n 3 dX5_isClause_2 rfl 0 rfl rfl ?_
  obtain ⟨g1, h⟩ := h
  obtain ⟨g2, h⟩ := h
  refine aw_getR 6 dX5_isClause_3 fl_RX5_7 rfl g1 g2 rfl ?_
  refine aw_sipush 9 (v := 366) dX5_isClause_6 kS_366 rfl ?_
  obtain ⟨g3, h⟩ := h
  obtain ⟨g4, h⟩ := h
  refine aw_iaload 10 dX5_isClause_9 g3 g4 rfl ?_
  refine aw_iconst 11 (v := 1) dX5_isClause_10 kI_1 rfl ?_
  refine aw_isub 12 dX5_isClause_11 rfl ?_
  refine aw_callS (M' := M_X5_in) 15 30 [.int _, .int _, .int _] [] dX5_isClause_12 lk_RX5_30 ms_X5_in mp_X5_in rfl ⟨leb rfl, leb rfl⟩ rfl (leb rfl) (leb rfl) (leb rfl) rfl (am_X5_in hG h) (kkI fun v6 X5 h => ?_) (kxN KrI.no)
  refine aw_widen (cc' := 0) (ss' := 0) (leb rfl) (leb rfl) ?_
  obtain ⟨g7, h⟩ := h
  exact aw_ireturn (ty := .boolean) dX5_isClause_15 rfl (narZ g7) (leb rfl) (leb rfl) ⟨_, rfl, h⟩)
set_option maxRecDepth 20000 in
theorem am_X5_isTaken {G : GG} (hG : G.1.stackTraces = false) {l0 : Nat} {l1 : Int32} {l2 : Int32} {X : XH} {K : Int32 → XH → Prop} (h : w_X5_isTaken l0 l1 l2 X K) : AM G M_X5_isTaken X [.ref l0, .int l1, .int l2] (KrI K) := AM_of (by decide +kernel) rfl (leb rfl) hG (by
  show AW G M_X5_isTaken 0 [(0, .ref l0), (1, .int l1), (2, .int l2)] [] X 0 0 _
  unfold w_X5_isTaken at h
  refine aw_aload_n 1 dX5_isTaken_0 rfl 0 rfl rfl ?_
  obtain ⟨g1, h⟩ := h
  obtain ⟨g2, h⟩ := h
  refine aw_getR 4 dX5_isTaken_1 fl_RX5_7 rfl g1 g2 rfl ?_
  refine aw_iload_n 5 dX5_isTaken_4 rfl 1 rfl rfl ?_
  refine aw_bipush 7 (v := 10) dX5_isTaken_5 kB_10 rfl ?_
  refine aw_iload_n 8 dX5_isTaken_7 rfl 2 rfl rfl ?_
  refine aw_iadd 9 dX5_isTaken_8 rfl ?_
  refine aw_callS (M' := M_X5_at) 12 44 [.int _, .int _] [.ref _] dX5_isTaken_9 lk_RX5_44 ms_X5_at mp_X5_at rfl ⟨leb rfl, leb rfl⟩ rfl (leb rfl) (leb rfl) (leb rfl) rfl (am_X5_at hG h) (kkI fun v4 X3 h => ?_) (kxN KrI.no)
  refine aw_widen (cc' := 0) (ss' := 0) (leb rfl) (leb rfl) ?_
  obtain ⟨g5, h⟩ := h
  obtain ⟨g6, h⟩ := h
  refine aw_iaload 13 dX5_isTaken_12 g5 g6 rfl ?_
  refine aw_if_le 20 16 dX5_isTaken_13 rfl rfl (fun c7 => ?_) (fun c7 => ?_)
  · replace h := h.1 c7
    refine aw_iconst 21 (v := 0) dX5_isTaken_20 kI_0 rfl ?_
    exact aw_ireturn (ty := .boolean) dX5_isTaken_21 rfl rfl (leb rfl) (leb rfl) ⟨_, rfl, h⟩
  · replace h := h.2 c7
    refine aw_iconst 17 (v := 1) dX5_isTaken_16 kI_1 rfl ?_
    refine aw_goto 21 dX5_isTaken_17 rfl ?_
    exact aw_ireturn (ty := .boolean) dX5_isTaken_21 rfl rfl (leb rfl) (leb rfl) ⟨_, rfl, h⟩)
set_option maxRecDepth 20000 in
theorem am_X5_isTakenAnywhere {G : GG} (hG : G.1.stackTraces = false) {l0 : Nat} {l1 : Int32} {X : XH} {K : Int32 → XH → Prop} (h : w_X5_isTakenAnywhere l0 l1 X K) : AM G M_X5_isTakenAnywhere X [.ref l0, .int l1] (KrI K) := AM_of (by decide +kernel) rfl (leb rfl) hG (by
  show AW G M_X5_isTakenAnywhere 0 [(0, .ref l0), (1, .int l1)] [] X 0 0 _
  unfold w_X5_isTakenAnywhere at h
  refine aw_aload_n 1 dX5_isTakenAnywhere_0 rfl 0 rfl rfl ?_
  refine aw_iload_n 2 dX5_isTakenAnywhere_1 rfl 1 rfl rfl ?_
  refine aw_iconst 3 (v := 0) dX5_isTakenAnywhere_2 kI_0 rfl ?_
  obtain ⟨g3, h⟩ := h
  refine aw_callV (M' := M_X5_isTaken) 6 51 5 l0 [.int _, .int _] [] dX5_isTakenAnywhere_3 lk_RX5_51 mv_X5_isTaken mp_X5_isTaken rfl ⟨leb rfl, leb rfl⟩ rfl (ltb rfl) g3 rfl (leb rfl) (leb rfl) (leb rfl) rfl (am_X5_isTaken hG h) (kkI fun v2 X1 h => ?_) (kxN KrI.no)
  refine aw_widen (cc' := 0) (ss' := 0) (leb rfl) (leb rfl) ?_
  refine aw_if_ne 27 9 dX5_isTakenAnywhere_6 rfl rfl (fun c4 => ?_) (fun c4 => ?_)
  · replace h := h.1 c4
    refine aw_iconst 28 (v := 1) dX5_isTakenAnywhere_27 kI_1 rfl ?_
    refine aw_goto 32 dX5_isTakenAnywhere_28 rfl ?_
    exact aw_ireturn (ty := .boolean) dX5_isTakenAnywhere_32 rfl rfl (leb rfl) (leb rfl) ⟨_, rfl, h⟩
  · replace h := h.2 c4
    refine aw_aload_n 10 dX5_isTakenAnywhere_9 rfl 0 rfl rfl ?_
    refine aw_iload_n 11 dX5_isTakenAnywhere_10 rfl 1 rfl rfl ?_
    refine aw_iconst 12 (v := 1) dX5_isTakenAnywhere_11 kI_1 rfl ?_
    obtain ⟨g7, h⟩ := h
    refine aw_callV (M' := M_X5_isTaken) 15 51 5 l0 [.int _, .int _] [] dX5_isTakenAnywhere_12 lk_RX5_51 mv_X5_isTaken mp_X5_isTaken rfl ⟨leb rfl, leb rfl⟩ rfl (ltb rfl) g7 rfl (leb rfl) (leb rfl) (leb rfl) rfl (am_X5_isTaken hG h) (kkI fun v6 X5 h => ?_) (kxN KrI.no)
    refine aw_widen (cc' := 0) (ss' := 0) (leb rfl) (leb rfl) ?_
    refine aw_if_ne 27 18 dX5_isTakenAnywhere_15 rfl rfl (fun c8 => ?_) (fun c8 => ?_)
    · replace h := h.1 c8
      refine aw_iconst 28 (v := 1) dX5_isTakenAnywhere_27 kI_1 rfl ?_
      refine aw_goto 32 dX5_isTakenAnywhere_28 rfl ?_
      exact aw_ireturn (ty := .boolean) dX5_isTakenAnywhere_32 rfl rfl (leb rfl) (leb rfl) ⟨_, rfl, h⟩
    · replace h := h.2 c8
      refine aw_aload_n 19 dX5_isTakenAnywhere_18 rfl 0 rfl rfl ?_
      refine aw_iload_n 20 dX5_isTakenAnywhere_19 rfl 1 rfl rfl ?_
      refine aw_iconst 21 (v := 2) dX5_isTakenAnywhere_20 kI_2 rfl ?_
      obtain ⟨g11, h⟩ := h
      refine aw_callV (M' := M_X5_isTaken) 24 51 5 l0 [.int _, .int _] [] dX5_isTakenAnywhere_21 lk_RX5_51 mv_X5_isTaken mp_X5_isTaken rfl ⟨leb rfl, leb rfl⟩ rfl (ltb rfl) g11 rfl (leb rfl) (leb rfl) (leb rfl) rfl (am_X5_isTaken hG h) (kkI fun v10 X9 h => ?_) (kxN KrI.no)
      refine aw_widen (cc' := 0) (ss' := 0) (leb rfl) (leb rfl) ?_
      refine aw_if_eq 31 27 dX5_isTakenAnywhere_24 rfl rfl (fun c12 => ?_) (fun c12 => ?_)
      · replace h := h.1 c12
        refine aw_iconst 32 (v := 0) dX5_isTakenAnywhere_31 kI_0 rfl ?_
        exact aw_ireturn (ty := .boolean) dX5_isTakenAnywhere_32 rfl rfl (leb rfl) (leb rfl) ⟨_, rfl, h⟩
      · replace h := h.2 c12
        refine aw_iconst 28 (v := 1) dX5_isTakenAnywhere_27 kI_1 rfl ?_
        refine aw_goto 32 dX5_isTakenAnywhere_28 rfl ?_
        exact aw_ireturn (ty := .boolean) dX5_isTakenAnywhere_32 rfl rfl (leb rfl) (leb rfl) ⟨_, rfl, h⟩)
set_option maxRecDepth 20000 in
theorem am_X5_sets {G : GG} (hG : G.1.stackTraces = false) {l0 : Nat} {l1 : Int32} {l2 : Int32} {X : XH} {K : Int32 → XH → Prop} (h : w_X5_sets l0 l1 l2 X K) : AM G M_X5_sets X [.ref l0, .int l1, .int l2] (KrI K) := AM_of (by decide +kernel) rfl (leb rfl) hG (by
  show AW G M_X5_sets 0 [(0, .ref l0), (1, .int l1), (2, .int l2)] [] X 0 0 _
  unfold w_X5_sets at h
  refine aw_aload_n 1 dX5_sets_0 rfl 0 rfl rfl ?_
  obtain ⟨g2, h⟩ := h
  refine aw_callV (M' := M_X5_saves) 4 84 5 l0 [] [] dX5_sets_1 lk_RX5_84 mv_X5_saves mp_X5_saves rfl ⟨leb rfl, leb rfl⟩ rfl (ltb rfl) g2 rfl (leb rfl) (leb rfl) (leb rfl) rfl (am_X5_saves hG h) (kkV fun X1 h => ?_) (kxN KrV.no)
  refine aw_widen (cc' := 0) (ss' := 0) (leb rfl) (leb rfl) ?_
  refine aw_aload_n 5 dX5_sets_4 rfl 0 rfl rfl ?_
  obtain ⟨g3, h⟩ := h
  obtain ⟨g4, h⟩ := h
  refine aw_getR 8 dX5_sets_5 fl_RX5_7 rfl g3 g4 rfl ?_
  refine aw_iload_n 9 dX5_sets_8 rfl 1 rfl rfl ?_
  obtain ⟨g5, h⟩ := h
  obtain ⟨g6, h⟩ := h
  refine aw_iaload 10 dX5_sets_9 g5 g6 rfl ?_
  refine aw_istore_n 11 (lv' := [(3, _), (0, _), (1, _), (2, _)]) dX5_sets_10 rfl (ltb rfl) rfl rfl ?_
  refine aw_aload_n 12 dX5_sets_11 rfl 1 rfl rfl ?_
  refine aw_getR 15 dX5_sets_12 fl_RX5_7 rfl g3 g4 rfl ?_
  refine aw_iload_n 16 dX5_sets_15 rfl 2 rfl rfl ?_
  refine aw_iload_n 17 dX5_sets_16 rfl 3 rfl rfl ?_
  refine aw_iastore 18 dX5_sets_17 g5 g6 rfl ?_
  refine aw_iload_n 19 dX5_sets_18 rfl 0 rfl rfl ?_
  exact aw_ireturn (ty := .int) dX5_sets_19 rfl rfl (leb rfl) (leb rfl) ⟨_, rfl, h⟩)
set_option maxRecDepth 20000 in
theorem aw_X5_changeLips_54 {G : GG} (hG : G.1.stackTraces = false)  {l0 : Nat} {l1 : Int32} {l2 : Int32} {s0 : Nat} {s1 : Int32} {X : XH} {K : Int32 → XH → Prop}  (h : w_X5_changeLips_54  l0 l1 l2 s0 s1 X K) : AW G M_X5_changeLips 54 [(0, .ref l0), (1, .int l1), (2, .int l2)] [.int s1, .ref s0] X 0 0 (KrI K) := by
  unfold w_X5_changeLips_54 at h
  obtain ⟨g3, h⟩ := h
  refine aw_callV (M' := M_X5_refused) 57 81 5 s0 [.int _] [] dX5_changeLips_54 lk_RX5_81 mv_X5_refused mp_X5_refused rfl ⟨leb rfl, leb rfl⟩ rfl (ltb rfl) g3 rfl (leb rfl) (leb rfl) (leb rfl) rfl (am_X5_refused hG h) (kkI fun v2 X1 h => ?_) (kxN KrI.no)
  refine aw_widen (cc' := 0) (ss' := 0) (leb rfl) (leb rfl) ?_
  refine aw_if_eq 64 60 dX5_changeLips_57 rfl rfl (fun c4 => ?_) (fun c4 => ?_)
  · replace h := h.1 c4
    refine aw_aload_n 65 dX5_changeLips_64 rfl 0 rfl rfl ?_
    refine aw_iload_n 66 dX5_changeLips_65 rfl 1 rfl rfl ?_
    refine aw_iconst 67 (v := 2) dX5_changeLips_66 kI_2 rfl ?_
    refine aw_callS (M' := M_X5_at) 70 44 [.int _, .int _] [.ref _] dX5_changeLips_67 lk_RX5_44 ms_X5_at mp_X5_at rfl ⟨leb rfl, leb rfl⟩ rfl (leb rfl) (leb rfl) (leb rfl) rfl (am_X5_at hG h) (kkI fun v6 X5 h => ?_) (kxN KrI.no)
    refine aw_widen (cc' := 0) (ss' := 0) (leb rfl) (leb rfl) ?_
    refine aw_iload_n 71 dX5_changeLips_70 rfl 2 rfl rfl ?_
    obtain ⟨g9, h⟩ := h
    refine aw_callV (M' := M_X5_sets) 74 94 5 l0 [.int _, .int _] [] dX5_changeLips_71 lk_RX5_94 mv_X5_sets mp_X5_sets rfl ⟨leb rfl, leb rfl⟩ rfl (ltb rfl) g9 rfl (leb rfl) (leb rfl) (leb rfl) rfl (am_X5_sets hG h) (kkI fun v8 X7 h => ?_) (kxN KrI.no)
    refine aw_widen (cc' := 0) (ss' := 0) (leb rfl) (leb rfl) ?_
    exact aw_ireturn (ty := .int) dX5_changeLips_74 rfl rfl (leb rfl) (leb rfl) ⟨_, rfl, h⟩
  · replace h := h.2 c4
    refine aw_iconst 61 (v := 0) dX5_changeLips_60 kI_0 rfl ?_
    refine aw_goto 74 dX5_changeLips_61 rfl ?_
    exact aw_ireturn (ty := .int) dX5_changeLips_74 rfl rfl (leb rfl) (leb rfl) ⟨_, rfl, h⟩
set_option maxRecDepth 20000 in
theorem am_X5_changeLips {G : GG} (hG : G.1.stackTraces = false) {l0 : Nat} {l1 : Int32} {l2 : Int32} {X : XH} {K : Int32 → XH → Prop} (h : w_X5_changeLips l0 l1 l2 X K) : AM G M_X5_changeLips X [.ref l0, .int l1, .int l2] (KrI K) := AM_of (by decide +kernel) rfl (leb rfl) hG (by
  show AW G M_X5_changeLips 0 [(0, .ref l0), (1, .int l1), (2, .int l2)] [] X 0 0 _
  unfold w_X5_changeLips at h
  refine aw_aload_n 1 dX5_changeLips_0 rfl 0 rfl rfl ?_
  refine aw_aload_n 2 dX5_changeLips_1 rfl 0 rfl rfl ?_
  refine aw_iload_n 3 dX5_changeLips_2 rfl 1 rfl rfl ?_
  obtain ⟨g3, h⟩ := h
  refine aw_callV (M' := M_X5_isClause) 6 34 5 l0 [.int _] [.ref _] dX5_changeLips_3 lk_RX5_34 mv_X5_isClause mp_X5_isClause rfl ⟨leb rfl, leb rfl⟩ rfl (ltb rfl) g3 rfl (leb rfl) (leb rfl) (leb rfl) rfl (am_X5_isClause hG h) (kkI fun v2 X1 h => ?_) (kxN KrI.no)
  refine aw_widen (cc' := 0) (ss' := 0) (leb rfl) (leb rfl) ?_
  refine aw_if_ne 13 9 dX5_changeLips_6 rfl rfl (fun c4 => ?_) (fun c4 => ?_)
  · replace h := h.1 c4
    refine aw_iload_n 14 dX5_changeLips_13 rfl 2 rfl rfl ?_
    refine aw_iconst 15 (v := 4) dX5_changeLips_14 kI_4 rfl ?_
    refine aw_bipush 17 (v := 60) dX5_changeLips_15 kB_60 rfl ?_
    refine aw_callS (M' := M_X5_in) 20 30 [.int _, .int _, .int _] [.ref _] dX5_changeLips_17 lk_RX5_30 ms_X5_in mp_X5_in rfl ⟨leb rfl, leb rfl⟩ rfl (leb rfl) (leb rfl) (leb rfl) rfl (am_X5_in hG h) (kkI fun v6 X5 h => ?_) (kxN KrI.no)
    refine aw_widen (cc' := 0) (ss' := 0) (leb rfl) (leb rfl) ?_
    refine aw_if_ne 27 23 dX5_changeLips_20 rfl rfl (fun c7 => ?_) (fun c7 => ?_)
    · replace h := h.1 c7
      refine aw_aload_n 28 dX5_changeLips_27 rfl 0 rfl rfl ?_
      refine aw_iload_n 29 dX5_changeLips_28 rfl 1 rfl rfl ?_
      obtain ⟨g10, h⟩ := h
      refine aw_callV (M' := M_X5_isTakenAnywhere) 32 91 5 l0 [.int _] [.ref _] dX5_changeLips_29 lk_RX5_91 mv_X5_isTakenAnywhere mp_X5_isTakenAnywhere rfl ⟨leb rfl, leb rfl⟩ rfl (ltb rfl) g10 rfl (leb rfl) (leb rfl) (leb rfl) rfl (am_X5_isTakenAnywhere hG h) (kkI fun v9 X8 h => ?_) (kxN KrI.no)
      refine aw_widen (cc' := 0) (ss' := 0) (leb rfl) (leb rfl) ?_
      refine aw_if_ne 49 35 dX5_changeLips_32 rfl rfl (fun c11 => ?_) (fun c11 => ?_)
      · replace h := h.1 c11
        refine aw_iconst 50 (v := 3) dX5_changeLips_49 kI_3 rfl ?_
        refine aw_goto 54 dX5_changeLips_50 rfl ?_
        exact aw_pick [0, 1, 2] rfl (aw_X5_changeLips_54 hG  h)
      · replace h := h.2 c11
        refine aw_aload_n 36 dX5_changeLips_35 rfl 0 rfl rfl ?_
        obtain ⟨g12, h⟩ := h
        obtain ⟨g13, h⟩ := h
        refine aw_getR 39 dX5_changeLips_36 fl_RX5_7 rfl g12 g13 rfl ?_
        refine aw_iload_n 40 dX5_changeLips_39 rfl 1 rfl rfl ?_
        refine aw_iconst 41 (v := 3) dX5_changeLips_40 kI_3 rfl ?_
        refine aw_callS (M' := M_X5_at) 44 44 [.int _, .int _] [.ref _, .ref _] dX5_changeLips_41 lk_RX5_44 ms_X5_at mp_X5_at rfl ⟨leb rfl, leb rfl⟩ rfl (leb rfl) (leb rfl) (leb rfl) rfl (am_X5_at hG h) (kkI fun v15 X14 h => ?_) (kxN KrI.no)
        refine aw_widen (cc' := 0) (ss' := 0) (leb rfl) (leb rfl) ?_
        obtain ⟨g16, h⟩ := h
        obtain ⟨g17, h⟩ := h
        refine aw_iaload 45 dX5_changeLips_44 g16 g17 rfl ?_
        refine aw_iload_n 46 dX5_changeLips_45 rfl 2 rfl rfl ?_
        refine aw_icmp_le 53 49 dX5_changeLips_46 rfl rfl (fun c18 => ?_) (fun c18 => ?_)
        · replace h := h.1 c18
          refine aw_iconst 54 (v := 0) dX5_changeLips_53 kI_0 rfl ?_
          exact aw_pick [0, 1, 2] rfl (aw_X5_changeLips_54 hG  h)
        · replace h := h.2 c18
          refine aw_iconst 50 (v := 3) dX5_changeLips_49 kI_3 rfl ?_
          refine aw_goto 54 dX5_changeLips_50 rfl ?_
          exact aw_pick [0, 1, 2] rfl (aw_X5_changeLips_54 hG  h)
    · replace h := h.2 c7
      refine aw_iconst 24 (v := 2) dX5_changeLips_23 kI_2 rfl ?_
      refine aw_goto 54 dX5_changeLips_24 rfl ?_
      exact aw_pick [0, 1, 2] rfl (aw_X5_changeLips_54 hG  h)
  · replace h := h.2 c4
    refine aw_iconst 10 (v := 1) dX5_changeLips_9 kI_1 rfl ?_
    refine aw_goto 54 dX5_changeLips_10 rfl ?_
    exact aw_pick [0, 1, 2] rfl (aw_X5_changeLips_54 hG  h))
set_option maxRecDepth 20000 in
theorem aw_X5_changeSigh_54 {G : GG} (hG : G.1.stackTraces = false)  {l0 : Nat} {l1 : Int32} {l2 : Int32} {s0 : Nat} {s1 : Int32} {X : XH} {K : Int32 → XH → Prop}  (h : w_X5_changeSigh_54  l0 l1 l2 s0 s1 X K) : AW G M_X5_changeSigh 54 [(0, .ref l0), (1, .int l1), (2, .int l2)] [.int s1, .ref s0] X 0 0 (KrI K) := by
  unfold w_X5_changeSigh_54 at h
  obtain ⟨g3, h⟩ := h
  refine aw_callV (M' := M_X5_refused) 57 81 5 s0 [.int _] [] dX5_changeSigh_54 lk_RX5_81 mv_X5_refused mp_X5_refused rfl ⟨leb rfl, leb rfl⟩ rfl (ltb rfl) g3 rfl (leb rfl) (leb rfl) (leb rfl) rfl (am_X5_refused hG h) (kkI fun v2 X1 h => ?_) (kxN KrI.no)
  refine aw_widen (cc' := 0) (ss' := 0) (leb rfl) (leb rfl) ?_
  refine aw_if_eq 64 60 dX5_changeSigh_57 rfl rfl (fun c4 => ?_) (fun c4 => ?_)
  · replace h := h.1 c4
    refine aw_aload_n 65 dX5_changeSigh_64 rfl 0 rfl rfl ?_
    refine aw_iload_n 66 dX5_changeSigh_65 rfl 1 rfl rfl ?_
    refine aw_iconst 67 (v := 3) dX5_changeSigh_66 kI_3 rfl ?_
    refine aw_callS (M' := M_X5_at) 70 44 [.int _, .int _] [.ref _] dX5_changeSigh_67 lk_RX5_44 ms_X5_at mp_X5_at rfl ⟨leb rfl, leb rfl⟩ rfl (leb rfl) (leb rfl) (leb rfl) rfl (am_X5_at hG h) (kkI fun v6 X5 h => ?_) (kxN KrI.no)
    refine aw_widen (cc' := 0) (ss' := 0) (leb rfl) (leb rfl) ?_
    refine aw_iload_n 71 dX5_changeSigh_70 rfl 2 rfl rfl ?_
    obtain ⟨g9, h⟩ := h
    refine aw_callV (M' := M_X5_sets) 74 94 5 l0 [.int _, .int _] [] dX5_changeSigh_71 lk_RX5_94 mv_X5_sets mp_X5_sets rfl ⟨leb rfl, leb rfl⟩ rfl (ltb rfl) g9 rfl (leb rfl) (leb rfl) (leb rfl) rfl (am_X5_sets hG h) (kkI fun v8 X7 h => ?_) (kxN KrI.no)
    refine aw_widen (cc' := 0) (ss' := 0) (leb rfl) (leb rfl) ?_
    exact aw_ireturn (ty := .int) dX5_changeSigh_74 rfl rfl (leb rfl) (leb rfl) ⟨_, rfl, h⟩
  · replace h := h.2 c4
    refine aw_iconst 61 (v := 0) dX5_changeSigh_60 kI_0 rfl ?_
    refine aw_goto 74 dX5_changeSigh_61 rfl ?_
    exact aw_ireturn (ty := .int) dX5_changeSigh_74 rfl rfl (leb rfl) (leb rfl) ⟨_, rfl, h⟩
set_option maxRecDepth 20000 in
theorem am_X5_changeSigh {G : GG} (hG : G.1.stackTraces = false) {l0 : Nat} {l1 : Int32} {l2 : Int32} {X : XH} {K : Int32 → XH → Prop} (h : w_X5_changeSigh l0 l1 l2 X K) : AM G M_X5_changeSigh X [.ref l0, .int l1, .int l2] (KrI K) := AM_of (by decide +kernel) rfl (leb rfl) hG (by
  show AW G M_X5_changeSigh 0 [(0, .ref l0), (1, .int l1), (2, .int l2)] [] X 0 0 _
  unfold w_X5_changeSigh at h
  refine aw_aload_n 1 dX5_changeSigh_0 rfl 0 rfl rfl ?_
  refine aw_aload_n 2 dX5_changeSigh_1 rfl 0 rfl rfl ?_
  refine aw_iload_n 3 dX5_changeSigh_2 rfl 1 rfl rfl ?_
  obtain ⟨g3, h⟩ := h
  refine aw_callV (M' := M_X5_isClause) 6 34 5 l0 [.int _] [.ref _] dX5_changeSigh_3 lk_RX5_34 mv_X5_isClause mp_X5_isClause rfl ⟨leb rfl, leb rfl⟩ rfl (ltb rfl) g3 rfl (leb rfl) (leb rfl) (leb rfl) rfl (am_X5_isClause hG h) (kkI fun v2 X1 h => ?_) (kxN KrI.no)
  refine aw_widen (cc' := 0) (ss' := 0) (leb rfl) (leb rfl) ?_
  refine aw_if_ne 13 9 dX5_changeSigh_6 rfl rfl (fun c4 => ?_) (fun c4 => ?_)
  · replace h := h.1 c4
    refine aw_iload_n 14 dX5_changeSigh_13 rfl 2 rfl rfl ?_
    refine aw_iconst 15 (v := 0) dX5_changeSigh_14 kI_0 rfl ?_
    refine aw_bipush 17 (v := 20) dX5_changeSigh_15 kB_20 rfl ?_
    refine aw_callS (M' := M_X5_in) 20 30 [.int _, .int _, .int _] [.ref _] dX5_changeSigh_17 lk_RX5_30 ms_X5_in mp_X5_in rfl ⟨leb rfl, leb rfl⟩ rfl (leb rfl) (leb rfl) (leb rfl) rfl (am_X5_in hG h) (kkI fun v6 X5 h => ?_) (kxN KrI.no)
    refine aw_widen (cc' := 0) (ss' := 0) (leb rfl) (leb rfl) ?_
    refine aw_if_ne 27 23 dX5_changeSigh_20 rfl rfl (fun c7 => ?_) (fun c7 => ?_)
    · replace h := h.1 c7
      refine aw_aload_n 28 dX5_changeSigh_27 rfl 0 rfl rfl ?_
      refine aw_iload_n 29 dX5_changeSigh_28 rfl 1 rfl rfl ?_
      obtain ⟨g10, h⟩ := h
      refine aw_callV (M' := M_X5_isTakenAnywhere) 32 91 5 l0 [.int _] [.ref _] dX5_changeSigh_29 lk_RX5_91 mv_X5_isTakenAnywhere mp_X5_isTakenAnywhere rfl ⟨leb rfl, leb rfl⟩ rfl (ltb rfl) g10 rfl (leb rfl) (leb rfl) (leb rfl) rfl (am_X5_isTakenAnywhere hG h) (kkI fun v9 X8 h => ?_) (kxN KrI.no)
      refine aw_widen (cc' := 0) (ss' := 0) (leb rfl) (leb rfl) ?_
      refine aw_if_ne 49 35 dX5_changeSigh_32 rfl rfl (fun c11 => ?_) (fun c11 => ?_)
      · replace h := h.1 c11
        refine aw_iconst 50 (v := 3) dX5_changeSigh_49 kI_3 rfl ?_
        refine aw_goto 54 dX5_changeSigh_50 rfl ?_
        exact aw_pick [0, 1, 2] rfl (aw_X5_changeSigh_54 hG  h)
      · replace h := h.2 c11
        refine aw_iload_n 36 dX5_changeSigh_35 rfl 2 rfl rfl ?_
        refine aw_aload_n 37 dX5_changeSigh_36 rfl 0 rfl rfl ?_
        obtain ⟨g12, h⟩ := h
        obtain ⟨g13, h⟩ := h
        refine aw_getR 40 dX5_changeSigh_37 fl_RX5_7 rfl g12 g13 rfl ?_
        refine aw_iload_n 41 dX5_changeSigh_40 rfl 1 rfl rfl ?_
        refine aw_iconst 42 (v := 2) dX5_changeSigh_41 kI_2 rfl ?_
        refine aw_callS (M' := M_X5_at) 45 44 [.int _, .int _] [.ref _, .int _, .ref _] dX5_changeSigh_42 lk_RX5_44 ms_X5_at mp_X5_at rfl ⟨leb rfl, leb rfl⟩ rfl (leb rfl) (leb rfl) (leb rfl) rfl (am_X5_at hG h) (kkI fun v15 X14 h => ?_) (kxN KrI.no)
        refine aw_widen (cc' := 0) (ss' := 0) (leb rfl) (leb rfl) ?_
        obtain ⟨g16, h⟩ := h
        obtain ⟨g17, h⟩ := h
        refine aw_iaload 46 dX5_changeSigh_45 g16 g17 rfl ?_
        refine aw_icmp_le 53 49 dX5_changeSigh_46 rfl rfl (fun c18 => ?_) (fun c18 => ?_)
        · replace h := h.1 c18
          refine aw_iconst 54 (v := 0) dX5_changeSigh_53 kI_0 rfl ?_
          exact aw_pick [0, 1, 2] rfl (aw_X5_changeSigh_54 hG  h)
        · replace h := h.2 c18
          refine aw_iconst 50 (v := 3) dX5_changeSigh_49 kI_3 rfl ?_
          refine aw_goto 54 dX5_changeSigh_50 rfl ?_
          exact aw_pick [0, 1, 2] rfl (aw_X5_changeSigh_54 hG  h)
    · replace h := h.2 c7
      refine aw_iconst 24 (v := 2) dX5_changeSigh_23 kI_2 rfl ?_
      refine aw_goto 54 dX5_changeSigh_24 rfl ?_
      exact aw_pick [0, 1, 2] rfl (aw_X5_changeSigh_54 hG  h)
  · replace h := h.2 c4
    refine aw_iconst 10 (v := 1) dX5_changeSigh_9 kI_1 rfl ?_
    refine aw_goto 54 dX5_changeSigh_10 rfl ?_
    exact aw_pick [0, 1, 2] rfl (aw_X5_changeSigh_54 hG  h))
set_option maxRecDepth 20000 in
theorem am_X4_moveClause {G : GG} (hG : G.1.stackTraces = false) {l0 : Nat} {l1 : Int32} {l2 : Int32} {X : XH} {K : Int32 → XH → Prop} {KX : String → XH → Prop} (h : w_X4_moveClause l0 l1 l2 X K KX) : AM G M_X4_moveClause X [.ref l0, .int l1, .int l2] (KxT (KrI K) KX) := AM_of (by decide +kernel) rfl (leb rfl) hG (by
  show AW G M_X4_moveClause 0 [(0, .ref l0), (1, .int l1), (2, .int l2)] [] X 0 0 _
  unfold w_X4_moveClause at h
  refine aw_aload_n 1 dX4_moveClause_0 rfl 0 rfl rfl ?_
  refine aw_iload_n 2 dX4_moveClause_1 rfl 1 rfl rfl ?_
  obtain ⟨g2, h⟩ := h
  refine aw_callV (M' := M_X4_checkClause) 5 75 4 l0 [.int _] [] dX4_moveClause_2 lk_RX4_75 mv_X4_checkClause mp_X4_checkClause rfl ⟨leb rfl, leb rfl⟩ rfl (ltb rfl) g2 rfl (leb rfl) (leb rfl) (leb rfl) rfl (am_X4_checkClause hG h) (kkT (kkV fun X1 h => ?_)) (kxT KrV.no fun E X h => at_out rfl (leb rfl) (leb rfl) (Or.inr ⟨_, rfl, h⟩))
  refine aw_widen (cc' := 1) (ss' := 6) (leb rfl) (leb rfl) ?_
  refine aw_iload_n 6 dX4_moveClause_5 rfl 2 rfl rfl ?_
  refine aw_callS (M' := M_X4_checkReel) 9 45 [.int _] [] dX4_moveClause_6 lk_RX4_45 ms_X4_checkReel mp_X4_checkReel rfl ⟨leb rfl, leb rfl⟩ rfl (leb rfl) (leb rfl) (leb rfl) rfl (am_X4_checkReel hG h) (kkT (kkV fun X3 h => ?_)) (kxT KrV.no fun E X h => at_out rfl (leb rfl) (leb rfl) (Or.inr ⟨_, rfl, h⟩))
  refine aw_widen (cc' := 2) (ss' := 12) (leb rfl) (leb rfl) ?_
  refine aw_aload_n 10 dX4_moveClause_9 rfl 0 rfl rfl ?_
  obtain ⟨g4, h⟩ := h
  obtain ⟨g5, h⟩ := h
  refine aw_getR 13 dX4_moveClause_10 fl_RX4_10 rfl g4 g5 rfl ?_
  refine aw_iload_n 14 dX4_moveClause_13 rfl 1 rfl rfl ?_
  obtain ⟨g8, h⟩ := h
  refine aw_callV (M' := M_X3_isRecordedAnywhere) 17 78 3 (hR X3 l0 0) [.int _] [] dX4_moveClause_14 lk_RX4_78 mv_X3_isRecordedAnywhere mp_X3_isRecordedAnywhere rfl ⟨leb rfl, leb rfl⟩ rfl (ltb rfl) g8 rfl (leb rfl) (leb rfl) (leb rfl) rfl (am_X3_isRecordedAnywhere hG h) (kkI fun v7 X6 h => ?_) (kxN KrI.no)
  refine aw_widen (cc' := 2) (ss' := 12) (leb rfl) (leb rfl) ?_
  refine aw_if_ne 32 20 dX4_moveClause_17 rfl rfl (fun c9 => ?_) (fun c9 => ?_)
  · replace h := h.1 c9
    exact aw_throw xcS 60 107 64 rfl th_xcS (by decide) (Or.inl ⟨dX4_moveClause_32, dX4_moveClause_35, dX4_moveClause_36, dX4_moveClause_38, dX4_moveClause_41⟩) rfl (ltb rfl) (leb rfl) (leb rfl) (leb rfl) (Or.inr ⟨_, rfl, h⟩)
  · replace h := h.2 c9
    refine aw_aload_n 21 dX4_moveClause_20 rfl 0 rfl rfl ?_
    obtain ⟨g10, h⟩ := h
    obtain ⟨g11, h⟩ := h
    refine aw_getR 24 dX4_moveClause_21 fl_RX4_10 rfl g10 g11 rfl ?_
    refine aw_iload_n 25 dX4_moveClause_24 rfl 1 rfl rfl ?_
    obtain ⟨g14, h⟩ := h
    refine aw_callV (M' := M_X3_reelAt) 28 104 3 (hR X6 l0 0) [.int _] [] dX4_moveClause_25 lk_RX4_104 mv_X3_reelAt mp_X3_reelAt rfl ⟨leb rfl, leb rfl⟩ rfl (ltb rfl) g14 rfl (leb rfl) (leb rfl) (leb rfl) rfl (am_X3_reelAt hG h) (kkI fun v13 X12 h => ?_) (kxN KrI.no)
    refine aw_widen (cc' := 2) (ss' := 12) (leb rfl) (leb rfl) ?_
    refine aw_iload_n 29 dX4_moveClause_28 rfl 2 rfl rfl ?_
    refine aw_icmp_ne 42 32 dX4_moveClause_29 rfl rfl (fun c15 => ?_) (fun c15 => ?_)
    · replace h := h.1 c15
      refine aw_aload_n 43 dX4_moveClause_42 rfl 0 rfl rfl ?_
      obtain ⟨g16, h⟩ := h
      obtain ⟨g17, h⟩ := h
      refine aw_getR 46 dX4_moveClause_43 fl_RX4_19 rfl g16 g17 rfl ?_
      refine aw_aload_n 47 dX4_moveClause_46 rfl 0 rfl rfl ?_
      obtain ⟨g18, h⟩ := h
      refine aw_getR 50 dX4_moveClause_47 fl_RX4_10 rfl g16 g18 rfl ?_
      obtain ⟨g20, h⟩ := h
      refine aw_callV (M' := M_X1_push) 53 67 1 (hR X12 l0 1) [.ref _] [] dX4_moveClause_50 lk_RX4_67 mv_X1_push mp_X1_push rfl ⟨leb rfl, leb rfl⟩ rfl (ltb rfl) g20 rfl (leb rfl) (leb rfl) (leb rfl) rfl (am_X1_push hG h) (kkV fun X19 h => ?_) (kxN KrV.no)
      refine aw_widen (cc' := 2) (ss' := 12) (leb rfl) (leb rfl) ?_
      refine aw_aload_n 54 dX4_moveClause_53 rfl 0 rfl rfl ?_
      obtain ⟨g21, h⟩ := h
      obtain ⟨g22, h⟩ := h
      refine aw_getR 57 dX4_moveClause_54 fl_RX4_10 rfl g21 g22 rfl ?_
      refine aw_iload_n 58 dX4_moveClause_57 rfl 1 rfl rfl ?_
      obtain ⟨g25, h⟩ := h
      refine aw_callV (M' := M_X3_reelAt) 61 104 3 (hR X19 l0 0) [.int _] [] dX4_moveClause_58 lk_RX4_104 mv_X3_reelAt mp_X3_reelAt rfl ⟨leb rfl, leb rfl⟩ rfl (ltb rfl) g25 rfl (leb rfl) (leb rfl) (leb rfl) rfl (am_X3_reelAt hG h) (kkI fun v24 X23 h => ?_) (kxN KrI.no)
      refine aw_widen (cc' := 2) (ss' := 12) (leb rfl) (leb rfl) ?_
      refine aw_istore_n 62 (lv' := [(3, _), (0, _), (1, _), (2, _)]) dX4_moveClause_61 rfl (ltb rfl) rfl rfl ?_
      refine aw_aload_n 63 dX4_moveClause_62 rfl 1 rfl rfl ?_
      obtain ⟨g26, h⟩ := h
      obtain ⟨g27, h⟩ := h
      refine aw_getR 66 dX4_moveClause_63 fl_RX4_10 rfl g26 g27 rfl ?_
      obtain ⟨g28, h⟩ := h
      obtain ⟨g29, h⟩ := h
      refine aw_getR 69 dX4_moveClause_66 fl_RX4_109 rfl g28 g29 rfl ?_
      refine aw_iload_n 70 dX4_moveClause_69 rfl 2 rfl rfl ?_
      refine aw_iload_n 71 dX4_moveClause_70 rfl 3 rfl rfl ?_
      refine aw_callS (M' := M_X4_put) 74 95 [.ref _, .int _, .int _] [] dX4_moveClause_71 lk_RX4_95 ms_X4_put mp_X4_put rfl ⟨leb rfl, leb rfl⟩ rfl (leb rfl) (leb rfl) (leb rfl) rfl (am_X4_put hG h) (kkV fun X30 h => ?_) (kxN KrV.no)
      refine aw_widen (cc' := 2) (ss' := 12) (leb rfl) (leb rfl) ?_
      refine aw_aload_n 75 dX4_moveClause_74 rfl 1 rfl rfl ?_
      obtain ⟨g31, h⟩ := h
      obtain ⟨g32, h⟩ := h
      refine aw_getR 78 dX4_moveClause_75 fl_RX4_10 rfl g31 g32 rfl ?_
      refine aw_iload_n 79 dX4_moveClause_78 rfl 3 rfl rfl ?_
      obtain ⟨g34, h⟩ := h
      refine aw_callV (M' := M_X3_unmixEverywhere) 82 112 3 (hR X30 l0 0) [.int _] [] dX4_moveClause_79 lk_RX4_112 mv_X3_unmixEverywhere mp_X3_unmixEverywhere rfl ⟨leb rfl, leb rfl⟩ rfl (ltb rfl) g34 rfl (leb rfl) (leb rfl) (leb rfl) rfl (am_X3_unmixEverywhere hG h) (kkV fun X33 h => ?_) (kxN KrV.no)
      refine aw_widen (cc' := 2) (ss' := 12) (leb rfl) (leb rfl) ?_
      refine aw_iload_n 83 dX4_moveClause_82 rfl 0 rfl rfl ?_
      exact aw_ireturn (ty := .int) dX4_moveClause_83 rfl rfl (leb rfl) (leb rfl) (Or.inl ⟨_, rfl, h⟩)
    · replace h := h.2 c15
      exact aw_throw xcS 60 107 64 rfl th_xcS (by decide) (Or.inl ⟨dX4_moveClause_32, dX4_moveClause_35, dX4_moveClause_36, dX4_moveClause_38, dX4_moveClause_41⟩) rfl (ltb rfl) (leb rfl) (leb rfl) (leb rfl) (Or.inr ⟨_, rfl, h⟩))
set_option maxRecDepth 20000 in
theorem am_L_moveClause {G : GG} (hG : G.1.stackTraces = false) {l0 : Nat} {l1 : Int32} {l2 : Int32} {l3 : Nat} {X : XH} {K : Int32 → XH → Prop} (h : w_L_moveClause l0 l1 l2 l3 X K) : AM G M_L_moveClause X [.ref l0, .int l1, .int l2, .ref l3] (KrI K) := AM_ofH (by decide +kernel) (0, 10, 13, 13) [(0, 10, 17, 17)] rfl (leb rfl) hG (by
  show AW G M_L_moveClause 0 [(0, .ref l0), (1, .int l1), (2, .int l2), (3, .ref l3)] [] X 0 0 _
  unfold w_L_moveClause at h
  refine aw_aload_n 1 dL_moveClause_0 rfl 3 rfl rfl ?_
  refine aw_iconst 2 (v := 0) dL_moveClause_1 kI_0 rfl ?_
  refine aw_aload_n 3 dL_moveClause_2 rfl 0 rfl rfl ?_
  refine aw_iload_n 4 dL_moveClause_3 rfl 1 rfl rfl ?_
  refine aw_iload_n 5 dL_moveClause_4 rfl 2 rfl rfl ?_
  obtain ⟨g3, h⟩ := h
  refine aw_callV (M' := M_X4_moveClause) 8 26 4 l0 [.int _, .int _] [.int _, .ref _] dL_moveClause_5 lk_RL_26 mv_X4_moveClause mp_X4_moveClause rfl ⟨leb rfl, leb rfl⟩ rfl (ltb rfl) g3 rfl (leb rfl) (leb rfl) (leb rfl) rfl (am_X4_moveClause hG h) (kkT (kkI fun v2 X1 h => ?_)) (kxT KrI.no fun E X1 h => ?_)
  · refine aw_widen (cc' := 3) (ss' := 18) (leb rfl) (leb rfl) ?_
    refine aw_i2l 9 dL_moveClause_8 rfl ?_
    obtain ⟨g4, h⟩ := h
    obtain ⟨g5, h⟩ := h
    refine aw_lastore 10 dL_moveClause_9 g4 g5 rfl ?_
    refine aw_goto 21 dL_moveClause_10 rfl ?_
    refine aw_iconst 22 (v := 0) dL_moveClause_21 kI_0 rfl ?_
    exact aw_ireturn (ty := .int) dL_moveClause_22 rfl rfl (leb rfl) (leb rfl) ⟨_, rfl, h⟩
  · obtain ⟨hE, h⟩ := h
    rcases hE with rfl | rfl
    · refine aw_atc (lv' := [(0, .ref _), (1, .int _), (2, .int _), (3, .ref _)]) [] (0, 10, 13, 13) [(0, 10, 17, 17)] rfl (fun z hz => nomatch hz) (by decide) (by decide) (tk3 (i := 61) (by decide +kernel) rfl) (by decide) 4 2 15 (Or.inr ⟨dL_moveClause_13, rfl⟩) (ltb rfl) rfl ?_
      refine aw_widen (cc' := 3) (ss' := 18) (leb rfl) (leb rfl) ?_
      replace h := h.1 rfl
      refine aw_iconst 16 (v := 1) dL_moveClause_15 kI_1 rfl ?_
      exact aw_ireturn (ty := .int) dL_moveClause_16 rfl rfl (leb rfl) (leb rfl) ⟨_, rfl, h⟩
    · refine aw_atc (lv' := [(0, .ref _), (1, .int _), (2, .int _), (3, .ref _)]) [(0, 10, 13, 13)] (0, 10, 17, 17) [] rfl (by intro z hz; simp only [List.mem_cons, List.not_mem_nil, or_false] at hz; rcases hz with rfl <;> first | exact ⟨by decide, xcI, tk3 (i := 61) (by decide +kernel) rfl, by decide⟩) (by decide) (by decide) (tk3 (i := 63) (by decide +kernel) rfl) (by decide) 4 2 19 (Or.inr ⟨dL_moveClause_17, rfl⟩) (ltb rfl) rfl ?_
      refine aw_widen (cc' := 3) (ss' := 18) (leb rfl) (leb rfl) ?_
      replace h := h.2 rfl
      refine aw_iconst 20 (v := 2) dL_moveClause_19 kI_2 rfl ?_
      exact aw_ireturn (ty := .int) dL_moveClause_20 rfl rfl (leb rfl) (leb rfl) ⟨_, rfl, h⟩)
set_option maxRecDepth 20000 in
theorem aw_X5_moveClause_47 {G : GG} (hG : G.1.stackTraces = false)  {l0 : Nat} {l1 : Int32} {l2 : Int32} {s0 : Nat} {s1 : Int32} {X : XH} {K : Int32 → XH → Prop}  (h : w_X5_moveClause_47  l0 l1 l2 s0 s1 X K) : AW G M_X5_moveClause 47 [(0, .ref l0), (1, .int l1), (2, .int l2)] [.int s1, .ref s0] X 0 0 (KrI K) := by
  unfold w_X5_moveClause_47 at h
  obtain ⟨g3, h⟩ := h
  refine aw_callV (M' := M_X5_refused) 50 81 5 s0 [.int _] [] dX5_moveClause_47 lk_RX5_81 mv_X5_refused mp_X5_refused rfl ⟨leb rfl, leb rfl⟩ rfl (ltb rfl) g3 rfl (leb rfl) (leb rfl) (leb rfl) rfl (am_X5_refused hG h) (kkI fun v2 X1 h => ?_) (kxN KrI.no)
  refine aw_widen (cc' := 0) (ss' := 0) (leb rfl) (leb rfl) ?_
  refine aw_if_eq 55 53 dX5_moveClause_50 rfl rfl (fun c4 => ?_) (fun c4 => ?_)
  · replace h := h.1 c4
    refine aw_aload_n 56 dX5_moveClause_55 rfl 0 rfl rfl ?_
    refine aw_iload_n 57 dX5_moveClause_56 rfl 1 rfl rfl ?_
    refine aw_iconst 58 (v := 0) dX5_moveClause_57 kI_0 rfl ?_
    refine aw_callS (M' := M_X5_at) 61 44 [.int _, .int _] [.ref _] dX5_moveClause_58 lk_RX5_44 ms_X5_at mp_X5_at rfl ⟨leb rfl, leb rfl⟩ rfl (leb rfl) (leb rfl) (leb rfl) rfl (am_X5_at hG h) (kkI fun v6 X5 h => ?_) (kxN KrI.no)
    refine aw_widen (cc' := 0) (ss' := 0) (leb rfl) (leb rfl) ?_
    refine aw_iload_n 62 dX5_moveClause_61 rfl 2 rfl rfl ?_
    obtain ⟨g9, h⟩ := h
    refine aw_callV (M' := M_X5_sets) 65 94 5 l0 [.int _, .int _] [] dX5_moveClause_62 lk_RX5_94 mv_X5_sets mp_X5_sets rfl ⟨leb rfl, leb rfl⟩ rfl (ltb rfl) g9 rfl (leb rfl) (leb rfl) (leb rfl) rfl (am_X5_sets hG h) (kkI fun v8 X7 h => ?_) (kxN KrI.no)
    refine aw_widen (cc' := 0) (ss' := 0) (leb rfl) (leb rfl) ?_
    refine aw_istore_n 66 (lv' := [(3, _), (0, _), (1, _), (2, _)]) dX5_moveClause_65 rfl (ltb rfl) rfl rfl ?_
    refine aw_aload_n 67 dX5_moveClause_66 rfl 1 rfl rfl ?_
    refine aw_iload_n 68 dX5_moveClause_67 rfl 3 rfl rfl ?_
    obtain ⟨g11, h⟩ := h
    refine aw_callV (M' := M_X5_unmixes) 71 71 5 l0 [.int _] [] dX5_moveClause_68 lk_RX5_71 mv_X5_unmixes mp_X5_unmixes rfl ⟨leb rfl, leb rfl⟩ rfl (ltb rfl) g11 rfl (leb rfl) (leb rfl) (leb rfl) rfl (am_X5_unmixes hG h) (kkV fun X10 h => ?_) (kxN KrV.no)
    refine aw_widen (cc' := 0) (ss' := 0) (leb rfl) (leb rfl) ?_
    refine aw_iload_n 72 dX5_moveClause_71 rfl 0 rfl rfl ?_
    exact aw_ireturn (ty := .int) dX5_moveClause_72 rfl rfl (leb rfl) (leb rfl) ⟨_, rfl, h⟩
  · replace h := h.2 c4
    refine aw_iconst 54 (v := 0) dX5_moveClause_53 kI_0 rfl ?_
    exact aw_ireturn (ty := .int) dX5_moveClause_54 rfl rfl (leb rfl) (leb rfl) ⟨_, rfl, h⟩
set_option maxRecDepth 20000 in
theorem am_X5_moveClause {G : GG} (hG : G.1.stackTraces = false) {l0 : Nat} {l1 : Int32} {l2 : Int32} {X : XH} {K : Int32 → XH → Prop} (h : w_X5_moveClause l0 l1 l2 X K) : AM G M_X5_moveClause X [.ref l0, .int l1, .int l2] (KrI K) := AM_of (by decide +kernel) rfl (leb rfl) hG (by
  show AW G M_X5_moveClause 0 [(0, .ref l0), (1, .int l1), (2, .int l2)] [] X 0 0 _
  unfold w_X5_moveClause at h
  refine aw_aload_n 1 dX5_moveClause_0 rfl 0 rfl rfl ?_
  refine aw_aload_n 2 dX5_moveClause_1 rfl 0 rfl rfl ?_
  refine aw_iload_n 3 dX5_moveClause_2 rfl 1 rfl rfl ?_
  obtain ⟨g3, h⟩ := h
  refine aw_callV (M' := M_X5_isClause) 6 34 5 l0 [.int _] [.ref _] dX5_moveClause_3 lk_RX5_34 mv_X5_isClause mp_X5_isClause rfl ⟨leb rfl, leb rfl⟩ rfl (ltb rfl) g3 rfl (leb rfl) (leb rfl) (leb rfl) rfl (am_X5_isClause hG h) (kkI fun v2 X1 h => ?_) (kxN KrI.no)
  refine aw_widen (cc' := 0) (ss' := 0) (leb rfl) (leb rfl) ?_
  refine aw_if_eq 16 9 dX5_moveClause_6 rfl rfl (fun c4 => ?_) (fun c4 => ?_)
  · replace h := h.1 c4
    refine aw_iconst 17 (v := 1) dX5_moveClause_16 kI_1 rfl ?_
    refine aw_goto 47 dX5_moveClause_17 rfl ?_
    exact aw_pick [0, 1, 2] rfl (aw_X5_moveClause_47 hG  h)
  · replace h := h.2 c4
    refine aw_iload_n 10 dX5_moveClause_9 rfl 2 rfl rfl ?_
    refine aw_callS (M' := M_X5_isReel) 13 75 [.int _] [.ref _] dX5_moveClause_10 lk_RX5_75 ms_X5_isReel mp_X5_isReel rfl ⟨leb rfl, leb rfl⟩ rfl (leb rfl) (leb rfl) (leb rfl) rfl (am_X5_isReel hG h) (kkI fun v6 X5 h => ?_) (kxN KrI.no)
    refine aw_widen (cc' := 0) (ss' := 0) (leb rfl) (leb rfl) ?_
    refine aw_if_ne 20 16 dX5_moveClause_13 rfl rfl (fun c7 => ?_) (fun c7 => ?_)
    · replace h := h.1 c7
      refine aw_aload_n 21 dX5_moveClause_20 rfl 0 rfl rfl ?_
      refine aw_iload_n 22 dX5_moveClause_21 rfl 1 rfl rfl ?_
      obtain ⟨g10, h⟩ := h
      refine aw_callV (M' := M_X5_isTakenAnywhere) 25 91 5 l0 [.int _] [.ref _] dX5_moveClause_22 lk_RX5_91 mv_X5_isTakenAnywhere mp_X5_isTakenAnywhere rfl ⟨leb rfl, leb rfl⟩ rfl (ltb rfl) g10 rfl (leb rfl) (leb rfl) (leb rfl) rfl (am_X5_isTakenAnywhere hG h) (kkI fun v9 X8 h => ?_) (kxN KrI.no)
      refine aw_widen (cc' := 0) (ss' := 0) (leb rfl) (leb rfl) ?_
      refine aw_if_ne 42 28 dX5_moveClause_25 rfl rfl (fun c11 => ?_) (fun c11 => ?_)
      · replace h := h.1 c11
        refine aw_iconst 43 (v := 2) dX5_moveClause_42 kI_2 rfl ?_
        refine aw_goto 47 dX5_moveClause_43 rfl ?_
        exact aw_pick [0, 1, 2] rfl (aw_X5_moveClause_47 hG  h)
      · replace h := h.2 c11
        refine aw_aload_n 29 dX5_moveClause_28 rfl 0 rfl rfl ?_
        obtain ⟨g12, h⟩ := h
        obtain ⟨g13, h⟩ := h
        refine aw_getR 32 dX5_moveClause_29 fl_RX5_7 rfl g12 g13 rfl ?_
        refine aw_iload_n 33 dX5_moveClause_32 rfl 1 rfl rfl ?_
        refine aw_iconst 34 (v := 0) dX5_moveClause_33 kI_0 rfl ?_
        refine aw_callS (M' := M_X5_at) 37 44 [.int _, .int _] [.ref _, .ref _] dX5_moveClause_34 lk_RX5_44 ms_X5_at mp_X5_at rfl ⟨leb rfl, leb rfl⟩ rfl (leb rfl) (leb rfl) (leb rfl) rfl (am_X5_at hG h) (kkI fun v15 X14 h => ?_) (kxN KrI.no)
        refine aw_widen (cc' := 0) (ss' := 0) (leb rfl) (leb rfl) ?_
        obtain ⟨g16, h⟩ := h
        obtain ⟨g17, h⟩ := h
        refine aw_iaload 38 dX5_moveClause_37 g16 g17 rfl ?_
        refine aw_iload_n 39 dX5_moveClause_38 rfl 2 rfl rfl ?_
        refine aw_icmp_ne 46 42 dX5_moveClause_39 rfl rfl (fun c18 => ?_) (fun c18 => ?_)
        · replace h := h.1 c18
          refine aw_iconst 47 (v := 0) dX5_moveClause_46 kI_0 rfl ?_
          exact aw_pick [0, 1, 2] rfl (aw_X5_moveClause_47 hG  h)
        · replace h := h.2 c18
          refine aw_iconst 43 (v := 2) dX5_moveClause_42 kI_2 rfl ?_
          refine aw_goto 47 dX5_moveClause_43 rfl ?_
          exact aw_pick [0, 1, 2] rfl (aw_X5_moveClause_47 hG  h)
    · replace h := h.2 c7
      refine aw_iconst 17 (v := 1) dX5_moveClause_16 kI_1 rfl ?_
      refine aw_goto 47 dX5_moveClause_17 rfl ?_
      exact aw_pick [0, 1, 2] rfl (aw_X5_moveClause_47 hG  h))
set_option maxRecDepth 20000 in
theorem am_X3_roomAt {G : GG} (hG : G.1.stackTraces = false) {l0 : Nat} {l1 : Int32} {l2 : Int32} {X : XH} {K : Int32 → XH → Prop} (h : w_X3_roomAt l0 l1 l2 X K) : AM G M_X3_roomAt X [.ref l0, .int l1, .int l2] (KrI K) := AM_of (by decide +kernel) rfl (leb rfl) hG (by
  show AW G M_X3_roomAt 0 [(0, .ref l0), (1, .int l1), (2, .int l2)] [] X 0 0 _
  unfold w_X3_roomAt at h
  refine aw_aload_n 1 dX3_roomAt_0 rfl 0 rfl rfl ?_
  obtain ⟨g1, h⟩ := h
  obtain ⟨g2, h⟩ := h
  refine aw_getR 4 dX3_roomAt_1 fl_RX3_18 rfl g1 g2 rfl ?_
  refine aw_iload_n 5 dX3_roomAt_4 rfl 1 rfl rfl ?_
  refine aw_callSN (M' := M_X4_at) 8 81 [.ref _, .int _] [] dX3_roomAt_5 (by decide) ms_X4_at mp_X4_at rfl ⟨leb rfl, leb rfl⟩ rfl (leb rfl) (leb rfl) (leb rfl) rfl (am_X4_at hG h) (kkI fun v4 X3 h => ?_) KrI.no
  refine aw_widen (cc' := 0) (ss' := 0) (leb rfl) (leb rfl) ?_
  refine aw_aload_n 9 dX3_roomAt_8 rfl 0 rfl rfl ?_
  refine aw_iload_n 10 dX3_roomAt_9 rfl 1 rfl rfl ?_
  refine aw_iload_n 11 dX3_roomAt_10 rfl 2 rfl rfl ?_
  obtain ⟨g7, h⟩ := h
  refine aw_callV (M' := M_X3_spokenAt) 14 85 3 l0 [.int _, .int _] [.int _] dX3_roomAt_11 lk_RX3_85 mv_X3_spokenAt mp_X3_spokenAt rfl ⟨leb rfl, leb rfl⟩ rfl (ltb rfl) g7 rfl (leb rfl) (leb rfl) (leb rfl) rfl (am_X3_spokenAt hG h) (kkI fun v6 X5 h => ?_) (kxN KrI.no)
  refine aw_widen (cc' := 0) (ss' := 0) (leb rfl) (leb rfl) ?_
  refine aw_isub 15 dX3_roomAt_14 rfl ?_
  exact aw_ireturn (ty := .int) dX3_roomAt_15 rfl rfl (leb rfl) (leb rfl) ⟨_, rfl, h⟩)
set_option maxRecDepth 20000 in
theorem am_X4_translate {G : GG} (hG : G.1.stackTraces = false) {l0 : Nat} {l1 : Int32} {l2 : Int32} {l3 : Int32} {X : XH} {K : Int32 → XH → Prop} {KX : String → XH → Prop} (h : w_X4_translate l0 l1 l2 l3 X K KX) : AM G M_X4_translate X [.ref l0, .int l1, .int l2, .int l3] (KxT (KrI K) KX) := AM_of (by decide +kernel) rfl (leb rfl) hG (by
  show AW G M_X4_translate 0 [(0, .ref l0), (1, .int l1), (2, .int l2), (3, .int l3)] [] X 0 0 _
  unfold w_X4_translate at h
  refine aw_aload_n 1 dX4_translate_0 rfl 0 rfl rfl ?_
  refine aw_iload_n 2 dX4_translate_1 rfl 1 rfl rfl ?_
  refine aw_iload_n 3 dX4_translate_2 rfl 2 rfl rfl ?_
  obtain ⟨g2, h⟩ := h
  refine aw_callV (M' := M_X4_checkTranslation) 6 115 4 l0 [.int _, .int _] [] dX4_translate_3 lk_RX4_115 mv_X4_checkTranslation mp_X4_checkTranslation rfl ⟨leb rfl, leb rfl⟩ rfl (ltb rfl) g2 rfl (leb rfl) (leb rfl) (leb rfl) rfl (am_X4_checkTranslation hG h) (kkT (kkV fun X1 h => ?_)) (kxT KrV.no fun E X h => at_out rfl (leb rfl) (leb rfl) (Or.inr ⟨_, rfl, h⟩))
  refine aw_widen (cc' := 2) (ss' := 12) (leb rfl) (leb rfl) ?_
  refine aw_iload_n 7 dX4_translate_6 rfl 3 rfl rfl ?_
  refine aw_iconst 8 (v := 1) dX4_translate_7 kI_1 rfl ?_
  refine aw_bipush 10 (v := 60) dX4_translate_8 kB_60 rfl ?_
  refine aw_callS (M' := M_X4_checkRange) 13 52 [.int _, .int _, .int _] [] dX4_translate_10 lk_RX4_52 ms_X4_checkRange mp_X4_checkRange rfl ⟨leb rfl, leb rfl⟩ rfl (leb rfl) (leb rfl) (leb rfl) rfl (am_X4_checkRange hG h) (kkT (kkV fun X3 h => ?_)) (kxT KrV.no fun E X h => at_out rfl (leb rfl) (leb rfl) (Or.inr ⟨_, rfl, h⟩))
  refine aw_widen (cc' := 3) (ss' := 18) (leb rfl) (leb rfl) ?_
  refine aw_aload_n 14 dX4_translate_13 rfl 0 rfl rfl ?_
  obtain ⟨g4, h⟩ := h
  obtain ⟨g5, h⟩ := h
  refine aw_getR 17 dX4_translate_14 fl_RX4_10 rfl g4 g5 rfl ?_
  refine aw_iload_n 18 dX4_translate_17 rfl 1 rfl rfl ?_
  refine aw_iload_n 19 dX4_translate_18 rfl 2 rfl rfl ?_
  obtain ⟨g8, h⟩ := h
  refine aw_callV (M' := M_X3_isTaken) 22 119 3 (hR X3 l0 0) [.int _, .int _] [] dX4_translate_19 lk_RX4_119 mv_X3_isTaken mp_X3_isTaken rfl ⟨leb rfl, leb rfl⟩ rfl (ltb rfl) g8 rfl (leb rfl) (leb rfl) (leb rfl) rfl (am_X3_isTaken hG h) (kkI fun v7 X6 h => ?_) (kxN KrI.no)
  refine aw_widen (cc' := 3) (ss' := 18) (leb rfl) (leb rfl) ?_
  refine aw_if_eq 35 25 dX4_translate_22 rfl rfl (fun c9 => ?_) (fun c9 => ?_)
  · replace h := h.1 c9
    refine aw_aload_n 36 dX4_translate_35 rfl 0 rfl rfl ?_
    obtain ⟨g10, h⟩ := h
    obtain ⟨g11, h⟩ := h
    refine aw_getR 39 dX4_translate_36 fl_RX4_19 rfl g10 g11 rfl ?_
    refine aw_aload_n 40 dX4_translate_39 rfl 0 rfl rfl ?_
    obtain ⟨g12, h⟩ := h
    refine aw_getR 43 dX4_translate_40 fl_RX4_10 rfl g10 g12 rfl ?_
    obtain ⟨g14, h⟩ := h
    refine aw_callV (M' := M_X1_push) 46 67 1 (hR X6 l0 1) [.ref _] [] dX4_translate_43 lk_RX4_67 mv_X1_push mp_X1_push rfl ⟨leb rfl, leb rfl⟩ rfl (ltb rfl) g14 rfl (leb rfl) (leb rfl) (leb rfl) rfl (am_X1_push hG h) (kkV fun X13 h => ?_) (kxN KrV.no)
    refine aw_widen (cc' := 3) (ss' := 18) (leb rfl) (leb rfl) ?_
    refine aw_aload_n 47 dX4_translate_46 rfl 0 rfl rfl ?_
    obtain ⟨g15, h⟩ := h
    obtain ⟨g16, h⟩ := h
    refine aw_getR 50 dX4_translate_47 fl_RX4_10 rfl g15 g16 rfl ?_
    refine aw_iload_n 51 dX4_translate_50 rfl 1 rfl rfl ?_
    refine aw_iload_n 52 dX4_translate_51 rfl 2 rfl rfl ?_
    refine aw_iload_n 53 dX4_translate_52 rfl 3 rfl rfl ?_
    refine aw_iconst 54 (v := 0) dX4_translate_53 kI_0 rfl ?_
    obtain ⟨g18, h⟩ := h
    refine aw_callV (M' := M_X3_putTranslation) 57 125 3 (hR X13 l0 0) [.int _, .int _, .int _, .int _] [] dX4_translate_54 lk_RX4_125 mv_X3_putTranslation mp_X3_putTranslation rfl ⟨leb rfl, leb rfl⟩ rfl (ltb rfl) g18 rfl (leb rfl) (leb rfl) (leb rfl) rfl (am_X3_putTranslation hG h) (kkV fun X17 h => ?_) (kxN KrV.no)
    refine aw_widen (cc' := 3) (ss' := 18) (leb rfl) (leb rfl) ?_
    refine aw_aload_n 58 dX4_translate_57 rfl 0 rfl rfl ?_
    obtain ⟨g19, h⟩ := h
    obtain ⟨g20, h⟩ := h
    refine aw_getR 61 dX4_translate_58 fl_RX4_10 rfl g19 g20 rfl ?_
    refine aw_iload_n 62 dX4_translate_61 rfl 1 rfl rfl ?_
    refine aw_iload_n 63 dX4_translate_62 rfl 2 rfl rfl ?_
    obtain ⟨g23, h⟩ := h
    refine aw_callV (M' := M_X3_roomAt) 66 129 3 (hR X17 l0 0) [.int _, .int _] [] dX4_translate_63 lk_RX4_129 mv_X3_roomAt mp_X3_roomAt rfl ⟨leb rfl, leb rfl⟩ rfl (ltb rfl) g23 rfl (leb rfl) (leb rfl) (leb rfl) rfl (am_X3_roomAt hG h) (kkI fun v22 X21 h => ?_) (kxN KrI.no)
    refine aw_widen (cc' := 3) (ss' := 18) (leb rfl) (leb rfl) ?_
    exact aw_ireturn (ty := .int) dX4_translate_66 rfl rfl (leb rfl) (leb rfl) (Or.inl ⟨_, rfl, h⟩)
  · replace h := h.2 c9
    exact aw_throw xcS 60 123 64 rfl th_xcS (by decide) (Or.inl ⟨dX4_translate_25, dX4_translate_28, dX4_translate_29, dX4_translate_31, dX4_translate_34⟩) rfl (ltb rfl) (leb rfl) (leb rfl) (leb rfl) (Or.inr ⟨_, rfl, h⟩))
set_option maxRecDepth 20000 in
theorem am_L_translate {G : GG} (hG : G.1.stackTraces = false) {l0 : Nat} {l1 : Int32} {l2 : Int32} {l3 : Int32} {l4 : Nat} {X : XH} {K : Int32 → XH → Prop} (h : w_L_translate l0 l1 l2 l3 l4 X K) : AM G M_L_translate X [.ref l0, .int l1, .int l2, .int l3, .ref l4] (KrI K) := AM_ofH (by decide +kernel) (0, 12, 15, 13) [(0, 12, 19, 15), (0, 12, 23, 17)] rfl (leb rfl) hG (by
  show AW G M_L_translate 0 [(0, .ref l0), (1, .int l1), (2, .int l2), (3, .int l3), (4, .ref l4)] [] X 0 0 _
  unfold w_L_translate at h
  refine aw_aload 2 dL_translate_0 4 rfl rfl ?_
  refine aw_iconst 3 (v := 0) dL_translate_2 kI_0 rfl ?_
  refine aw_aload_n 4 dL_translate_3 rfl 0 rfl rfl ?_
  refine aw_iload_n 5 dL_translate_4 rfl 1 rfl rfl ?_
  refine aw_iload_n 6 dL_translate_5 rfl 2 rfl rfl ?_
  refine aw_iload_n 7 dL_translate_6 rfl 3 rfl rfl ?_
  obtain ⟨g3, h⟩ := h
  refine aw_callV (M' := M_X4_translate) 10 29 4 l0 [.int _, .int _, .int _] [.int _, .ref _] dL_translate_7 lk_RL_29 mv_X4_translate mp_X4_translate rfl ⟨leb rfl, leb rfl⟩ rfl (ltb rfl) g3 rfl (leb rfl) (leb rfl) (leb rfl) rfl (am_X4_translate hG h) (kkT (kkI fun v2 X1 h => ?_)) (kxT KrI.no fun E X1 h => ?_)
  · refine aw_widen (cc' := 4) (ss' := 24) (leb rfl) (leb rfl) ?_
    refine aw_i2l 11 dL_translate_10 rfl ?_
    obtain ⟨g4, h⟩ := h
    obtain ⟨g5, h⟩ := h
    refine aw_lastore 12 dL_translate_11 g4 g5 rfl ?_
    refine aw_goto 27 dL_translate_12 rfl ?_
    refine aw_iconst 28 (v := 0) dL_translate_27 kI_0 rfl ?_
    exact aw_ireturn (ty := .int) dL_translate_28 rfl rfl (leb rfl) (leb rfl) ⟨_, rfl, h⟩
  · obtain ⟨hE, h⟩ := h
    rcases hE with rfl | rfl | rfl
    · refine aw_atc (lv' := [(0, .ref _), (1, .int _), (2, .int _), (3, .int _), (4, .ref _)]) [] (0, 12, 15, 13) [(0, 12, 19, 15), (0, 12, 23, 17)] rfl (fun z hz => nomatch hz) (by decide) (by decide) (tk3 (i := 61) (by decide +kernel) rfl) (by decide) 5 2 17 (Or.inr ⟨dL_translate_15, rfl⟩) (ltb rfl) rfl ?_
      refine aw_widen (cc' := 4) (ss' := 24) (leb rfl) (leb rfl) ?_
      replace h := h.1 rfl
      refine aw_iconst 18 (v := 1) dL_translate_17 kI_1 rfl ?_
      exact aw_ireturn (ty := .int) dL_translate_18 rfl rfl (leb rfl) (leb rfl) ⟨_, rfl, h⟩
    · refine aw_atc (lv' := [(0, .ref _), (1, .int _), (2, .int _), (3, .int _), (4, .ref _)]) [(0, 12, 15, 13)] (0, 12, 19, 15) [(0, 12, 23, 17)] rfl (by intro z hz; simp only [List.mem_cons, List.not_mem_nil, or_false] at hz; rcases hz with rfl <;> first | exact ⟨by decide, xcI, tk3 (i := 61) (by decide +kernel) rfl, by decide⟩) (by decide) (by decide) (tk3 (i := 62) (by decide +kernel) rfl) (by decide) 5 2 21 (Or.inr ⟨dL_translate_19, rfl⟩) (ltb rfl) rfl ?_
      refine aw_widen (cc' := 4) (ss' := 24) (leb rfl) (leb rfl) ?_
      replace h := h.2.1 rfl
      refine aw_iconst 22 (v := 2) dL_translate_21 kI_2 rfl ?_
      exact aw_ireturn (ty := .int) dL_translate_22 rfl rfl (leb rfl) (leb rfl) ⟨_, rfl, h⟩
    · refine aw_atc (lv' := [(0, .ref _), (1, .int _), (2, .int _), (3, .int _), (4, .ref _)]) [(0, 12, 15, 13), (0, 12, 19, 15)] (0, 12, 23, 17) [] rfl (by intro z hz; simp only [List.mem_cons, List.not_mem_nil, or_false] at hz; rcases hz with rfl | rfl <;> first | exact ⟨by decide, xcI, tk3 (i := 61) (by decide +kernel) rfl, by decide⟩ | exact ⟨by decide, xcA, tk3 (i := 62) (by decide +kernel) rfl, by decide⟩) (by decide) (by decide) (tk3 (i := 63) (by decide +kernel) rfl) (by decide) 5 2 25 (Or.inr ⟨dL_translate_23, rfl⟩) (ltb rfl) rfl ?_
      refine aw_widen (cc' := 4) (ss' := 24) (leb rfl) (leb rfl) ?_
      replace h := h.2.2 rfl
      refine aw_iconst 26 (v := 3) dL_translate_25 kI_3 rfl ?_
      exact aw_ireturn (ty := .int) dL_translate_26 rfl rfl (leb rfl) (leb rfl) ⟨_, rfl, h⟩)
set_option maxRecDepth 20000 in
theorem am_X5_isTongue {G : GG} (hG : G.1.stackTraces = false) {l0 : Int32} {X : XH} {K : Int32 → XH → Prop} (h : w_X5_isTongue l0 X K) : AM G M_X5_isTongue X [.int l0] (KrI K) := AM_of (by decide +kernel) rfl (leb rfl) hG (by
  show AW G M_X5_isTongue 0 [(0, .int l0)] [] X 0 0 _
  unfold w_X5_isTongue at h
  refine aw_iload_n 1 dX5_isTongue_0 rfl 0 rfl rfl ?_
  refine aw_iconst 2 (v := 0) dX5_isTongue_1 kI_0 rfl ?_
  refine aw_iconst 3 (v := 2) dX5_isTongue_2 kI_2 rfl ?_
  refine aw_callS (M' := M_X5_in) 6 30 [.int _, .int _, .int _] [] dX5_isTongue_3 lk_RX5_30 ms_X5_in mp_X5_in rfl ⟨leb rfl, leb rfl⟩ rfl (leb rfl) (leb rfl) (leb rfl) rfl (am_X5_in hG h) (kkI fun v2 X1 h => ?_) (kxN KrI.no)
  refine aw_widen (cc' := 0) (ss' := 0) (leb rfl) (leb rfl) ?_
  obtain ⟨g3, h⟩ := h
  exact aw_ireturn (ty := .boolean) dX5_isTongue_6 rfl (narZ g3) (leb rfl) (leb rfl) ⟨_, rfl, h⟩)
set_option maxRecDepth 20000 in
theorem am_X5_are {G : GG} (hG : G.1.stackTraces = false) {l0 : Nat} {l1 : Int32} {l2 : Int32} {X : XH} {K : Int32 → XH → Prop} (h : w_X5_are l0 l1 l2 X K) : AM G M_X5_are X [.ref l0, .int l1, .int l2] (KrI K) := AM_of (by decide +kernel) rfl (leb rfl) hG (by
  show AW G M_X5_are 0 [(0, .ref l0), (1, .int l1), (2, .int l2)] [] X 0 0 _
  unfold w_X5_are at h
  refine aw_aload_n 1 dX5_are_0 rfl 0 rfl rfl ?_
  refine aw_iload_n 2 dX5_are_1 rfl 1 rfl rfl ?_
  obtain ⟨g3, h⟩ := h
  refine aw_callV (M' := M_X5_isClause) 5 34 5 l0 [.int _] [] dX5_are_2 lk_RX5_34 mv_X5_isClause mp_X5_isClause rfl ⟨leb rfl, leb rfl⟩ rfl (ltb rfl) g3 rfl (leb rfl) (leb rfl) (leb rfl) rfl (am_X5_isClause hG h) (kkI fun v2 X1 h => ?_) (kxN KrI.no)
  refine aw_widen (cc' := 0) (ss' := 0) (leb rfl) (leb rfl) ?_
  refine aw_if_eq 19 8 dX5_are_5 rfl rfl (fun c4 => ?_) (fun c4 => ?_)
  · replace h := h.1 c4
    refine aw_iconst 20 (v := 0) dX5_are_19 kI_0 rfl ?_
    exact aw_ireturn (ty := .boolean) dX5_are_20 rfl rfl (leb rfl) (leb rfl) ⟨_, rfl, h⟩
  · replace h := h.2 c4
    refine aw_iload_n 9 dX5_are_8 rfl 2 rfl rfl ?_
    refine aw_callS (M' := M_X5_isTongue) 12 38 [.int _] [] dX5_are_9 lk_RX5_38 ms_X5_isTongue mp_X5_isTongue rfl ⟨leb rfl, leb rfl⟩ rfl (leb rfl) (leb rfl) (leb rfl) rfl (am_X5_isTongue hG h) (kkI fun v6 X5 h => ?_) (kxN KrI.no)
    refine aw_widen (cc' := 0) (ss' := 0) (leb rfl) (leb rfl) ?_
    refine aw_if_eq 19 15 dX5_are_12 rfl rfl (fun c7 => ?_) (fun c7 => ?_)
    · replace h := h.1 c7
      refine aw_iconst 20 (v := 0) dX5_are_19 kI_0 rfl ?_
      exact aw_ireturn (ty := .boolean) dX5_are_20 rfl rfl (leb rfl) (leb rfl) ⟨_, rfl, h⟩
    · replace h := h.2 c7
      refine aw_iconst 16 (v := 1) dX5_are_15 kI_1 rfl ?_
      refine aw_goto 20 dX5_are_16 rfl ?_
      exact aw_ireturn (ty := .boolean) dX5_are_20 rfl rfl (leb rfl) (leb rfl) ⟨_, rfl, h⟩)
set_option maxRecDepth 20000 in
theorem am_X5_frames {G : GG} (hG : G.1.stackTraces = false) {l0 : Nat} {l1 : Int32} {l2 : Int32} {X : XH} {K : Int32 → XH → Prop} (h : w_X5_frames l0 l1 l2 X K) : AM G M_X5_frames X [.ref l0, .int l1, .int l2] (KrI K) := AM_of (by decide +kernel) rfl (leb rfl) hG (by
  show AW G M_X5_frames 0 [(0, .ref l0), (1, .int l1), (2, .int l2)] [] X 0 0 _
  unfold w_X5_frames at h
  refine aw_aload_n 1 dX5_frames_0 rfl 0 rfl rfl ?_
  obtain ⟨g1, h⟩ := h
  obtain ⟨g2, h⟩ := h
  refine aw_getR 4 dX5_frames_1 fl_RX5_7 rfl g1 g2 rfl ?_
  refine aw_iload_n 5 dX5_frames_4 rfl 1 rfl rfl ?_
  refine aw_iconst 6 (v := 4) dX5_frames_5 kI_4 rfl ?_
  refine aw_iload_n 7 dX5_frames_6 rfl 2 rfl rfl ?_
  refine aw_iadd 8 dX5_frames_7 rfl ?_
  refine aw_callS (M' := M_X5_at) 11 44 [.int _, .int _] [.ref _] dX5_frames_8 lk_RX5_44 ms_X5_at mp_X5_at rfl ⟨leb rfl, leb rfl⟩ rfl (leb rfl) (leb rfl) (leb rfl) rfl (am_X5_at hG h) (kkI fun v4 X3 h => ?_) (kxN KrI.no)
  refine aw_widen (cc' := 0) (ss' := 0) (leb rfl) (leb rfl) ?_
  obtain ⟨g5, h⟩ := h
  obtain ⟨g6, h⟩ := h
  refine aw_iaload 12 dX5_frames_11 g5 g6 rfl ?_
  exact aw_ireturn (ty := .int) dX5_frames_12 rfl rfl (leb rfl) (leb rfl) ⟨_, rfl, h⟩)
set_option maxRecDepth 20000 in
theorem am_X5_both {G : GG} (hG : G.1.stackTraces = false) {l0 : Nat} {l1 : Int32} {l2 : Int32} {X : XH} {K : Int32 → XH → Prop} (h : w_X5_both l0 l1 l2 X K) : AM G M_X5_both X [.ref l0, .int l1, .int l2] (KrI K) := AM_of (by decide +kernel) rfl (leb rfl) hG (by
  show AW G M_X5_both 0 [(0, .ref l0), (1, .int l1), (2, .int l2)] [] X 0 0 _
  unfold w_X5_both at h
  refine aw_aload_n 1 dX5_both_0 rfl 0 rfl rfl ?_
  refine aw_iload_n 2 dX5_both_1 rfl 1 rfl rfl ?_
  refine aw_iload_n 3 dX5_both_2 rfl 2 rfl rfl ?_
  obtain ⟨g3, h⟩ := h
  refine aw_callV (M' := M_X5_frames) 6 48 5 l0 [.int _, .int _] [] dX5_both_3 lk_RX5_48 mv_X5_frames mp_X5_frames rfl ⟨leb rfl, leb rfl⟩ rfl (ltb rfl) g3 rfl (leb rfl) (leb rfl) (leb rfl) rfl (am_X5_frames hG h) (kkI fun v2 X1 h => ?_) (kxN KrI.no)
  refine aw_widen (cc' := 0) (ss' := 0) (leb rfl) (leb rfl) ?_
  refine aw_aload_n 7 dX5_both_6 rfl 0 rfl rfl ?_
  obtain ⟨g4, h⟩ := h
  obtain ⟨g5, h⟩ := h
  refine aw_getR 10 dX5_both_7 fl_RX5_7 rfl g4 g5 rfl ?_
  refine aw_iload_n 11 dX5_both_10 rfl 1 rfl rfl ?_
  refine aw_iconst 12 (v := 3) dX5_both_11 kI_3 rfl ?_
  refine aw_callS (M' := M_X5_at) 15 44 [.int _, .int _] [.ref _, .int _] dX5_both_12 lk_RX5_44 ms_X5_at mp_X5_at rfl ⟨leb rfl, leb rfl⟩ rfl (leb rfl) (leb rfl) (leb rfl) rfl (am_X5_at hG h) (kkI fun v7 X6 h => ?_) (kxN KrI.no)
  refine aw_widen (cc' := 0) (ss' := 0) (leb rfl) (leb rfl) ?_
  obtain ⟨g8, h⟩ := h
  obtain ⟨g9, h⟩ := h
  refine aw_iaload 16 dX5_both_15 g8 g9 rfl ?_
  refine aw_iadd 17 dX5_both_16 rfl ?_
  exact aw_ireturn (ty := .int) dX5_both_17 rfl rfl (leb rfl) (leb rfl) ⟨_, rfl, h⟩)
set_option maxRecDepth 20000 in
theorem aw_X5_translate_42 {G : GG} (hG : G.1.stackTraces = false)  {l0 : Nat} {l1 : Int32} {l2 : Int32} {l3 : Int32} {s0 : Nat} {s1 : Int32} {X : XH} {K : Int32 → XH → Prop}  (h : w_X5_translate_42  l0 l1 l2 l3 s0 s1 X K) : AW G M_X5_translate 42 [(0, .ref l0), (1, .int l1), (2, .int l2), (3, .int l3)] [.int s1, .ref s0] X 0 0 (KrI K) := by
  unfold w_X5_translate_42 at h
  obtain ⟨g3, h⟩ := h
  refine aw_callV (M' := M_X5_refused) 45 81 5 s0 [.int _] [] dX5_translate_42 lk_RX5_81 mv_X5_refused mp_X5_refused rfl ⟨leb rfl, leb rfl⟩ rfl (ltb rfl) g3 rfl (leb rfl) (leb rfl) (leb rfl) rfl (am_X5_refused hG h) (kkI fun v2 X1 h => ?_) (kxN KrI.no)
  refine aw_widen (cc' := 0) (ss' := 0) (leb rfl) (leb rfl) ?_
  refine aw_if_eq 50 48 dX5_translate_45 rfl rfl (fun c4 => ?_) (fun c4 => ?_)
  · replace h := h.1 c4
    refine aw_aload_n 51 dX5_translate_50 rfl 0 rfl rfl ?_
    obtain ⟨g6, h⟩ := h
    refine aw_callV (M' := M_X5_saves) 54 84 5 l0 [] [] dX5_translate_51 lk_RX5_84 mv_X5_saves mp_X5_saves rfl ⟨leb rfl, leb rfl⟩ rfl (ltb rfl) g6 rfl (leb rfl) (leb rfl) (leb rfl) rfl (am_X5_saves hG h) (kkV fun X5 h => ?_) (kxN KrV.no)
    refine aw_widen (cc' := 0) (ss' := 0) (leb rfl) (leb rfl) ?_
    refine aw_aload_n 55 dX5_translate_54 rfl 0 rfl rfl ?_
    obtain ⟨g7, h⟩ := h
    obtain ⟨g8, h⟩ := h
    refine aw_getR 58 dX5_translate_55 fl_RX5_7 rfl g7 g8 rfl ?_
    refine aw_iload_n 59 dX5_translate_58 rfl 1 rfl rfl ?_
    refine aw_iconst 60 (v := 4) dX5_translate_59 kI_4 rfl ?_
    refine aw_iload_n 61 dX5_translate_60 rfl 2 rfl rfl ?_
    refine aw_iadd 62 dX5_translate_61 rfl ?_
    refine aw_callS (M' := M_X5_at) 65 44 [.int _, .int _] [.ref _] dX5_translate_62 lk_RX5_44 ms_X5_at mp_X5_at rfl ⟨leb rfl, leb rfl⟩ rfl (leb rfl) (leb rfl) (leb rfl) rfl (am_X5_at hG h) (kkI fun v10 X9 h => ?_) (kxN KrI.no)
    refine aw_widen (cc' := 0) (ss' := 0) (leb rfl) (leb rfl) ?_
    refine aw_iload_n 66 dX5_translate_65 rfl 3 rfl rfl ?_
    obtain ⟨g11, h⟩ := h
    obtain ⟨g12, h⟩ := h
    refine aw_iastore 67 dX5_translate_66 g11 g12 rfl ?_
    refine aw_aload_n 68 dX5_translate_67 rfl 0 rfl rfl ?_
    obtain ⟨g13, h⟩ := h
    obtain ⟨g14, h⟩ := h
    refine aw_getR 71 dX5_translate_68 fl_RX5_7 rfl g13 g14 rfl ?_
    refine aw_iload_n 72 dX5_translate_71 rfl 1 rfl rfl ?_
    refine aw_bipush 74 (v := 7) dX5_translate_72 kB_7 rfl ?_
    refine aw_iload_n 75 dX5_translate_74 rfl 2 rfl rfl ?_
    refine aw_iadd 76 dX5_translate_75 rfl ?_
    refine aw_callS (M' := M_X5_at) 79 44 [.int _, .int _] [.ref _] dX5_translate_76 lk_RX5_44 ms_X5_at mp_X5_at rfl ⟨leb rfl, leb rfl⟩ rfl (leb rfl) (leb rfl) (leb rfl) rfl (am_X5_at hG h) (kkI fun v16 X15 h => ?_) (kxN KrI.no)
    refine aw_widen (cc' := 0) (ss' := 0) (leb rfl) (leb rfl) ?_
    refine aw_iconst 80 (v := 0) dX5_translate_79 kI_0 rfl ?_
    obtain ⟨g17, h⟩ := h
    obtain ⟨g18, h⟩ := h
    refine aw_iastore 81 dX5_translate_80 g17 g18 rfl ?_
    refine aw_aload_n 82 dX5_translate_81 rfl 0 rfl rfl ?_
    obtain ⟨g19, h⟩ := h
    obtain ⟨g20, h⟩ := h
    refine aw_getR 85 dX5_translate_82 fl_RX5_7 rfl g19 g20 rfl ?_
    refine aw_iload_n 86 dX5_translate_85 rfl 1 rfl rfl ?_
    refine aw_iconst 87 (v := 2) dX5_translate_86 kI_2 rfl ?_
    refine aw_callS (M' := M_X5_at) 90 44 [.int _, .int _] [.ref _] dX5_translate_87 lk_RX5_44 ms_X5_at mp_X5_at rfl ⟨leb rfl, leb rfl⟩ rfl (leb rfl) (leb rfl) (leb rfl) rfl (am_X5_at hG h) (kkI fun v22 X21 h => ?_) (kxN KrI.no)
    refine aw_widen (cc' := 0) (ss' := 0) (leb rfl) (leb rfl) ?_
    obtain ⟨g23, h⟩ := h
    obtain ⟨g24, h⟩ := h
    refine aw_iaload 91 dX5_translate_90 g23 g24 rfl ?_
    refine aw_aload_n 92 dX5_translate_91 rfl 0 rfl rfl ?_
    refine aw_iload_n 93 dX5_translate_92 rfl 1 rfl rfl ?_
    refine aw_iload_n 94 dX5_translate_93 rfl 2 rfl rfl ?_
    obtain ⟨g27, h⟩ := h
    refine aw_callV (M' := M_X5_both) 97 59 5 l0 [.int _, .int _] [.int _] dX5_translate_94 lk_RX5_59 mv_X5_both mp_X5_both rfl ⟨leb rfl, leb rfl⟩ rfl (ltb rfl) g27 rfl (leb rfl) (leb rfl) (leb rfl) rfl (am_X5_both hG h) (kkI fun v26 X25 h => ?_) (kxN KrI.no)
    refine aw_widen (cc' := 0) (ss' := 0) (leb rfl) (leb rfl) ?_
    refine aw_isub 98 dX5_translate_97 rfl ?_
    exact aw_ireturn (ty := .int) dX5_translate_98 rfl rfl (leb rfl) (leb rfl) ⟨_, rfl, h⟩
  · replace h := h.2 c4
    refine aw_iconst 49 (v := 0) dX5_translate_48 kI_0 rfl ?_
    exact aw_ireturn (ty := .int) dX5_translate_49 rfl rfl (leb rfl) (leb rfl) ⟨_, rfl, h⟩
set_option maxRecDepth 20000 in
theorem am_X5_translate {G : GG} (hG : G.1.stackTraces = false) {l0 : Nat} {l1 : Int32} {l2 : Int32} {l3 : Int32} {X : XH} {K : Int32 → XH → Prop} (h : w_X5_translate l0 l1 l2 l3 X K) : AM G M_X5_translate X [.ref l0, .int l1, .int l2, .int l3] (KrI K) := AM_of (by decide +kernel) rfl (leb rfl) hG (by
  show AW G M_X5_translate 0 [(0, .ref l0), (1, .int l1), (2, .int l2), (3, .int l3)] [] X 0 0 _
  unfold w_X5_translate at h
  refine aw_aload_n 1 dX5_translate_0 rfl 0 rfl rfl ?_
  refine aw_aload_n 2 dX5_translate_1 rfl 0 rfl rfl ?_
  refine aw_iload_n 3 dX5_translate_2 rfl 1 rfl rfl ?_
  refine aw_iload_n 4 dX5_translate_3 rfl 2 rfl rfl ?_
  obtain ⟨g3, h⟩ := h
  refine aw_callV (M' := M_X5_are) 7 97 5 l0 [.int _, .int _] [.ref _] dX5_translate_4 lk_RX5_97 mv_X5_are mp_X5_are rfl ⟨leb rfl, leb rfl⟩ rfl (ltb rfl) g3 rfl (leb rfl) (leb rfl) (leb rfl) rfl (am_X5_are hG h) (kkI fun v2 X1 h => ?_) (kxN KrI.no)
  refine aw_widen (cc' := 0) (ss' := 0) (leb rfl) (leb rfl) ?_
  refine aw_if_ne 14 10 dX5_translate_7 rfl rfl (fun c4 => ?_) (fun c4 => ?_)
  · replace h := h.1 c4
    refine aw_iload_n 15 dX5_translate_14 rfl 3 rfl rfl ?_
    refine aw_iconst 16 (v := 1) dX5_translate_15 kI_1 rfl ?_
    refine aw_bipush 18 (v := 60) dX5_translate_16 kB_60 rfl ?_
    refine aw_callS (M' := M_X5_in) 21 30 [.int _, .int _, .int _] [.ref _] dX5_translate_18 lk_RX5_30 ms_X5_in mp_X5_in rfl ⟨leb rfl, leb rfl⟩ rfl (leb rfl) (leb rfl) (leb rfl) rfl (am_X5_in hG h) (kkI fun v6 X5 h => ?_) (kxN KrI.no)
    refine aw_widen (cc' := 0) (ss' := 0) (leb rfl) (leb rfl) ?_
    refine aw_if_ne 28 24 dX5_translate_21 rfl rfl (fun c7 => ?_) (fun c7 => ?_)
    · replace h := h.1 c7
      refine aw_aload_n 29 dX5_translate_28 rfl 0 rfl rfl ?_
      refine aw_iload_n 30 dX5_translate_29 rfl 1 rfl rfl ?_
      refine aw_iload_n 31 dX5_translate_30 rfl 2 rfl rfl ?_
      obtain ⟨g10, h⟩ := h
      refine aw_callV (M' := M_X5_isTaken) 34 51 5 l0 [.int _, .int _] [.ref _] dX5_translate_31 lk_RX5_51 mv_X5_isTaken mp_X5_isTaken rfl ⟨leb rfl, leb rfl⟩ rfl (ltb rfl) g10 rfl (leb rfl) (leb rfl) (leb rfl) rfl (am_X5_isTaken hG h) (kkI fun v9 X8 h => ?_) (kxN KrI.no)
      refine aw_widen (cc' := 0) (ss' := 0) (leb rfl) (leb rfl) ?_
      refine aw_if_eq 41 37 dX5_translate_34 rfl rfl (fun c11 => ?_) (fun c11 => ?_)
      · replace h := h.1 c11
        refine aw_iconst 42 (v := 0) dX5_translate_41 kI_0 rfl ?_
        exact aw_pick [0, 1, 2, 3] rfl (aw_X5_translate_42 hG  h)
      · replace h := h.2 c11
        refine aw_iconst 38 (v := 3) dX5_translate_37 kI_3 rfl ?_
        refine aw_goto 42 dX5_translate_38 rfl ?_
        exact aw_pick [0, 1, 2, 3] rfl (aw_X5_translate_42 hG  h)
    · replace h := h.2 c7
      refine aw_iconst 25 (v := 2) dX5_translate_24 kI_2 rfl ?_
      refine aw_goto 42 dX5_translate_25 rfl ?_
      exact aw_pick [0, 1, 2, 3] rfl (aw_X5_translate_42 hG  h)
  · replace h := h.2 c4
    refine aw_iconst 11 (v := 1) dX5_translate_10 kI_1 rfl ?_
    refine aw_goto 42 dX5_translate_11 rfl ?_
    exact aw_pick [0, 1, 2, 3] rfl (aw_X5_translate_42 hG  h))
set_option maxRecDepth 20000 in
theorem aw_X5_annexed_4 {G : GG} (hG : G.1.stackTraces = false)  {l0 : Nat} {l1 : Int32} {l2 : Int32} {l3 : Int32} {X : XH} {K : Int32 → XH → Prop}  (h : w_X5_annexed_4  l0 l1 l2 l3 X K) : AW G M_X5_annexed 4 [(0, .ref l0), (1, .int l1), (2, .int l2), (3, .int l3)] [] X 0 0 (KrI K) :=
  h (fun l0 l1 l2 l3 X => AW G M_X5_annexed 4 [(0, .ref l0), (1, .int l1), (2, .int l2), (3, .int l3)] [] X 0 0 (KrI K)) (fun l0 l1 l2 l3 X h => by
    refine aw_iload_n 5 dX5_annexed_4 rfl 3 rfl rfl ?_
    refine aw_aload_n 6 dX5_annexed_5 rfl 0 rfl rfl ?_
    obtain ⟨g1, h⟩ := h
    obtain ⟨g2, h⟩ := h
    refine aw_getR 9 dX5_annexed_6 fl_RX5_7 rfl g1 g2 rfl ?_
    refine aw_sipush 12 (v := 366) dX5_annexed_9 kS_366 rfl ?_
    obtain ⟨g3, h⟩ := h
    obtain ⟨g4, h⟩ := h
    refine aw_iaload 13 dX5_annexed_12 g3 g4 rfl ?_
    refine aw_icmp_ge 38 16 dX5_annexed_13 rfl rfl (fun c5 => ?_) (fun c5 => ?_)
    · replace h := h.1 c5
      refine aw_iload_n 39 dX5_annexed_38 rfl 2 rfl rfl ?_
      exact aw_ireturn (ty := .int) dX5_annexed_39 rfl rfl (leb rfl) (leb rfl) ⟨_, rfl, h⟩
    · replace h := h.2 c5
      refine aw_iload_n 17 dX5_annexed_16 rfl 2 rfl rfl ?_
      refine aw_aload_n 18 dX5_annexed_17 rfl 0 rfl rfl ?_
      refine aw_getR 21 dX5_annexed_18 fl_RX5_7 rfl g1 g2 rfl ?_
      refine aw_iload_n 22 dX5_annexed_21 rfl 3 rfl rfl ?_
      refine aw_bipush 24 (v := 7) dX5_annexed_22 kB_7 rfl ?_
      refine aw_iload_n 25 dX5_annexed_24 rfl 1 rfl rfl ?_
      refine aw_iadd 26 dX5_annexed_25 rfl ?_
      refine aw_callS (M' := M_X5_at) 29 44 [.int _, .int _] [.ref _, .int _] dX5_annexed_26 lk_RX5_44 ms_X5_at mp_X5_at rfl ⟨leb rfl, leb rfl⟩ rfl (leb rfl) (leb rfl) (leb rfl) rfl (am_X5_at hG h) (kkI fun v7 X6 h => ?_) (kxN KrI.no)
      refine aw_widen (cc' := 0) (ss' := 0) (leb rfl) (leb rfl) ?_
      obtain ⟨g8, h⟩ := h
      obtain ⟨g9, h⟩ := h
      refine aw_iaload 30 dX5_annexed_29 g8 g9 rfl ?_
      refine aw_iadd 31 dX5_annexed_30 rfl ?_
      refine aw_istore_n 32 (lv' := [(2, _), (0, _), (1, _), (3, _)]) dX5_annexed_31 rfl (ltb rfl) rfl rfl ?_
      refine aw_iinc 35 (v := 1) (lv' := [(3, _), (2, _), (0, _), (1, _)]) dX5_annexed_32 3 rfl kI_1 (ltb rfl) rfl rfl ?_
      refine aw_goto 4 dX5_annexed_35 rfl ?_
      exact aw_pick [2, 3, 1, 0] rfl h)
set_option maxRecDepth 20000 in
theorem am_X5_annexed {G : GG} (hG : G.1.stackTraces = false) {l0 : Nat} {l1 : Int32} {X : XH} {K : Int32 → XH → Prop} (h : w_X5_annexed l0 l1 X K) : AM G M_X5_annexed X [.ref l0, .int l1] (KrI K) := AM_of (by decide +kernel) rfl (leb rfl) hG (by
  show AW G M_X5_annexed 0 [(0, .ref l0), (1, .int l1)] [] X 0 0 _
  unfold w_X5_annexed at h
  refine aw_iconst 1 (v := 0) dX5_annexed_0 kI_0 rfl ?_
  refine aw_istore_n 2 (lv' := [(2, _), (0, _), (1, _)]) dX5_annexed_1 rfl (ltb rfl) rfl rfl ?_
  refine aw_iconst 3 (v := 0) dX5_annexed_2 kI_0 rfl ?_
  refine aw_istore_n 4 (lv' := [(3, _), (2, _), (0, _), (1, _)]) dX5_annexed_3 rfl (ltb rfl) rfl rfl ?_
  exact aw_pick [2, 3, 1, 0] rfl (aw_X5_annexed_4 hG  h))
set_option maxRecDepth 20000 in
theorem aw_X5_annex_64 {G : GG} (hG : G.1.stackTraces = false)  {l0 : Nat} {l1 : Int32} {l2 : Int32} {l3 : Int32} {s0 : Nat} {s1 : Int32} {X : XH} {K : Int32 → XH → Prop}  (h : w_X5_annex_64  l0 l1 l2 l3 s0 s1 X K) : AW G M_X5_annex 64 [(0, .ref l0), (1, .int l1), (2, .int l2), (3, .int l3)] [.int s1, .ref s0] X 0 0 (KrI K) := by
  unfold w_X5_annex_64 at h
  obtain ⟨g3, h⟩ := h
  refine aw_callV (M' := M_X5_refused) 67 81 5 s0 [.int _] [] dX5_annex_64 lk_RX5_81 mv_X5_refused mp_X5_refused rfl ⟨leb rfl, leb rfl⟩ rfl (ltb rfl) g3 rfl (leb rfl) (leb rfl) (leb rfl) rfl (am_X5_refused hG h) (kkI fun v2 X1 h => ?_) (kxN KrI.no)
  refine aw_widen (cc' := 0) (ss' := 0) (leb rfl) (leb rfl) ?_
  refine aw_if_eq 72 70 dX5_annex_67 rfl rfl (fun c4 => ?_) (fun c4 => ?_)
  · replace h := h.1 c4
    refine aw_aload_n 73 dX5_annex_72 rfl 0 rfl rfl ?_
    obtain ⟨g6, h⟩ := h
    refine aw_callV (M' := M_X5_saves) 76 84 5 l0 [] [] dX5_annex_73 lk_RX5_84 mv_X5_saves mp_X5_saves rfl ⟨leb rfl, leb rfl⟩ rfl (ltb rfl) g6 rfl (leb rfl) (leb rfl) (leb rfl) rfl (am_X5_saves hG h) (kkV fun X5 h => ?_) (kxN KrV.no)
    refine aw_widen (cc' := 0) (ss' := 0) (leb rfl) (leb rfl) ?_
    refine aw_aload_n 77 dX5_annex_76 rfl 0 rfl rfl ?_
    obtain ⟨g7, h⟩ := h
    obtain ⟨g8, h⟩ := h
    refine aw_getR 80 dX5_annex_77 fl_RX5_7 rfl g7 g8 rfl ?_
    refine aw_iload_n 81 dX5_annex_80 rfl 1 rfl rfl ?_
    refine aw_iconst 82 (v := 4) dX5_annex_81 kI_4 rfl ?_
    refine aw_iload_n 83 dX5_annex_82 rfl 2 rfl rfl ?_
    refine aw_iadd 84 dX5_annex_83 rfl ?_
    refine aw_callS (M' := M_X5_at) 87 44 [.int _, .int _] [.ref _] dX5_annex_84 lk_RX5_44 ms_X5_at mp_X5_at rfl ⟨leb rfl, leb rfl⟩ rfl (leb rfl) (leb rfl) (leb rfl) rfl (am_X5_at hG h) (kkI fun v10 X9 h => ?_) (kxN KrI.no)
    refine aw_widen (cc' := 0) (ss' := 0) (leb rfl) (leb rfl) ?_
    refine aw_dup2 88 dX5_annex_87 rfl rfl rfl ?_
    obtain ⟨g11, h⟩ := h
    obtain ⟨g12, h⟩ := h
    refine aw_iaload 89 dX5_annex_88 g11 g12 rfl ?_
    refine aw_iload_n 90 dX5_annex_89 rfl 3 rfl rfl ?_
    refine aw_isub 91 dX5_annex_90 rfl ?_
    refine aw_iastore 92 dX5_annex_91 g11 g12 rfl ?_
    refine aw_aload_n 93 dX5_annex_92 rfl 0 rfl rfl ?_
    obtain ⟨g13, h⟩ := h
    obtain ⟨g14, h⟩ := h
    refine aw_getR 96 dX5_annex_93 fl_RX5_7 rfl g13 g14 rfl ?_
    refine aw_iload_n 97 dX5_annex_96 rfl 1 rfl rfl ?_
    refine aw_bipush 99 (v := 7) dX5_annex_97 kB_7 rfl ?_
    refine aw_iload_n 100 dX5_annex_99 rfl 2 rfl rfl ?_
    refine aw_iadd 101 dX5_annex_100 rfl ?_
    refine aw_callS (M' := M_X5_at) 104 44 [.int _, .int _] [.ref _] dX5_annex_101 lk_RX5_44 ms_X5_at mp_X5_at rfl ⟨leb rfl, leb rfl⟩ rfl (leb rfl) (leb rfl) (leb rfl) rfl (am_X5_at hG h) (kkI fun v16 X15 h => ?_) (kxN KrI.no)
    refine aw_widen (cc' := 0) (ss' := 0) (leb rfl) (leb rfl) ?_
    refine aw_dup2 105 dX5_annex_104 rfl rfl rfl ?_
    obtain ⟨g17, h⟩ := h
    obtain ⟨g18, h⟩ := h
    refine aw_iaload 106 dX5_annex_105 g17 g18 rfl ?_
    refine aw_iload_n 107 dX5_annex_106 rfl 3 rfl rfl ?_
    refine aw_iadd 108 dX5_annex_107 rfl ?_
    refine aw_iastore 109 dX5_annex_108 g17 g18 rfl ?_
    refine aw_aload_n 110 dX5_annex_109 rfl 0 rfl rfl ?_
    refine aw_iload_n 111 dX5_annex_110 rfl 2 rfl rfl ?_
    obtain ⟨g21, h⟩ := h
    refine aw_callV (M' := M_X5_annexed) 114 100 5 l0 [.int _] [] dX5_annex_111 lk_RX5_100 mv_X5_annexed mp_X5_annexed rfl ⟨leb rfl, leb rfl⟩ rfl (ltb rfl) g21 rfl (leb rfl) (leb rfl) (leb rfl) rfl (am_X5_annexed hG h) (kkI fun v20 X19 h => ?_) (kxN KrI.no)
    refine aw_widen (cc' := 0) (ss' := 0) (leb rfl) (leb rfl) ?_
    exact aw_ireturn (ty := .int) dX5_annex_114 rfl rfl (leb rfl) (leb rfl) ⟨_, rfl, h⟩
  · replace h := h.2 c4
    refine aw_iconst 71 (v := 0) dX5_annex_70 kI_0 rfl ?_
    exact aw_ireturn (ty := .int) dX5_annex_71 rfl rfl (leb rfl) (leb rfl) ⟨_, rfl, h⟩
set_option maxRecDepth 20000 in
theorem am_X5_annex {G : GG} (hG : G.1.stackTraces = false) {l0 : Nat} {l1 : Int32} {l2 : Int32} {l3 : Int32} {X : XH} {K : Int32 → XH → Prop} (h : w_X5_annex l0 l1 l2 l3 X K) : AM G M_X5_annex X [.ref l0, .int l1, .int l2, .int l3] (KrI K) := AM_of (by decide +kernel) rfl (leb rfl) hG (by
  show AW G M_X5_annex 0 [(0, .ref l0), (1, .int l1), (2, .int l2), (3, .int l3)] [] X 0 0 _
  unfold w_X5_annex at h
  refine aw_aload_n 1 dX5_annex_0 rfl 0 rfl rfl ?_
  refine aw_aload_n 2 dX5_annex_1 rfl 0 rfl rfl ?_
  refine aw_iload_n 3 dX5_annex_2 rfl 1 rfl rfl ?_
  refine aw_iload_n 4 dX5_annex_3 rfl 2 rfl rfl ?_
  obtain ⟨g3, h⟩ := h
  refine aw_callV (M' := M_X5_are) 7 97 5 l0 [.int _, .int _] [.ref _] dX5_annex_4 lk_RX5_97 mv_X5_are mp_X5_are rfl ⟨leb rfl, leb rfl⟩ rfl (ltb rfl) g3 rfl (leb rfl) (leb rfl) (leb rfl) rfl (am_X5_are hG h) (kkI fun v2 X1 h => ?_) (kxN KrI.no)
  refine aw_widen (cc' := 0) (ss' := 0) (leb rfl) (leb rfl) ?_
  refine aw_if_ne 14 10 dX5_annex_7 rfl rfl (fun c4 => ?_) (fun c4 => ?_)
  · replace h := h.1 c4
    refine aw_iload_n 15 dX5_annex_14 rfl 3 rfl rfl ?_
    refine aw_iconst 16 (v := 1) dX5_annex_15 kI_1 rfl ?_
    refine aw_bipush 18 (v := 59) dX5_annex_16 kB_59 rfl ?_
    refine aw_callS (M' := M_X5_in) 21 30 [.int _, .int _, .int _] [.ref _] dX5_annex_18 lk_RX5_30 ms_X5_in mp_X5_in rfl ⟨leb rfl, leb rfl⟩ rfl (leb rfl) (leb rfl) (leb rfl) rfl (am_X5_in hG h) (kkI fun v6 X5 h => ?_) (kxN KrI.no)
    refine aw_widen (cc' := 0) (ss' := 0) (leb rfl) (leb rfl) ?_
    refine aw_if_ne 28 24 dX5_annex_21 rfl rfl (fun c7 => ?_) (fun c7 => ?_)
    · replace h := h.1 c7
      refine aw_aload_n 29 dX5_annex_28 rfl 0 rfl rfl ?_
      refine aw_iload_n 30 dX5_annex_29 rfl 1 rfl rfl ?_
      refine aw_iload_n 31 dX5_annex_30 rfl 2 rfl rfl ?_
      obtain ⟨g10, h⟩ := h
      refine aw_callV (M' := M_X5_frames) 34 48 5 l0 [.int _, .int _] [.ref _] dX5_annex_31 lk_RX5_48 mv_X5_frames mp_X5_frames rfl ⟨leb rfl, leb rfl⟩ rfl (ltb rfl) g10 rfl (leb rfl) (leb rfl) (leb rfl) rfl (am_X5_frames hG h) (kkI fun v9 X8 h => ?_) (kxN KrI.no)
      refine aw_widen (cc' := 0) (ss' := 0) (leb rfl) (leb rfl) ?_
      refine aw_iload_n 35 dX5_annex_34 rfl 3 rfl rfl ?_
      refine aw_icmp_le 59 38 dX5_annex_35 rfl rfl (fun c11 => ?_) (fun c11 => ?_)
      · replace h := h.1 c11
        refine aw_iconst 60 (v := 3) dX5_annex_59 kI_3 rfl ?_
        refine aw_goto 64 dX5_annex_60 rfl ?_
        exact aw_pick [0, 1, 2, 3] rfl (aw_X5_annex_64 hG  h)
      · replace h := h.2 c11
        refine aw_aload_n 39 dX5_annex_38 rfl 0 rfl rfl ?_
        refine aw_iload_n 40 dX5_annex_39 rfl 1 rfl rfl ?_
        refine aw_iload_n 41 dX5_annex_40 rfl 2 rfl rfl ?_
        obtain ⟨g14, h⟩ := h
        refine aw_callV (M' := M_X5_isTaken) 44 51 5 l0 [.int _, .int _] [.ref _] dX5_annex_41 lk_RX5_51 mv_X5_isTaken mp_X5_isTaken rfl ⟨leb rfl, leb rfl⟩ rfl (ltb rfl) g14 rfl (leb rfl) (leb rfl) (leb rfl) rfl (am_X5_isTaken hG h) (kkI fun v13 X12 h => ?_) (kxN KrI.no)
        refine aw_widen (cc' := 0) (ss' := 0) (leb rfl) (leb rfl) ?_
        refine aw_if_ne 59 47 dX5_annex_44 rfl rfl (fun c15 => ?_) (fun c15 => ?_)
        · replace h := h.1 c15
          refine aw_iconst 60 (v := 3) dX5_annex_59 kI_3 rfl ?_
          refine aw_goto 64 dX5_annex_60 rfl ?_
          exact aw_pick [0, 1, 2, 3] rfl (aw_X5_annex_64 hG  h)
        · replace h := h.2 c15
          refine aw_aload_n 48 dX5_annex_47 rfl 0 rfl rfl ?_
          refine aw_iload_n 49 dX5_annex_48 rfl 2 rfl rfl ?_
          obtain ⟨g18, h⟩ := h
          refine aw_callV (M' := M_X5_annexed) 52 100 5 l0 [.int _] [.ref _] dX5_annex_49 lk_RX5_100 mv_X5_annexed mp_X5_annexed rfl ⟨leb rfl, leb rfl⟩ rfl (ltb rfl) g18 rfl (leb rfl) (leb rfl) (leb rfl) rfl (am_X5_annexed hG h) (kkI fun v17 X16 h => ?_) (kxN KrI.no)
          refine aw_widen (cc' := 0) (ss' := 0) (leb rfl) (leb rfl) ?_
          refine aw_iload_n 53 dX5_annex_52 rfl 3 rfl rfl ?_
          refine aw_iadd 54 dX5_annex_53 rfl ?_
          refine aw_bipush 56 (v := 99) dX5_annex_54 kB_99 rfl ?_
          refine aw_icmp_le 63 59 dX5_annex_56 rfl rfl (fun c19 => ?_) (fun c19 => ?_)
          · replace h := h.1 c19
            refine aw_iconst 64 (v := 0) dX5_annex_63 kI_0 rfl ?_
            exact aw_pick [0, 1, 2, 3] rfl (aw_X5_annex_64 hG  h)
          · replace h := h.2 c19
            refine aw_iconst 60 (v := 3) dX5_annex_59 kI_3 rfl ?_
            refine aw_goto 64 dX5_annex_60 rfl ?_
            exact aw_pick [0, 1, 2, 3] rfl (aw_X5_annex_64 hG  h)
    · replace h := h.2 c7
      refine aw_iconst 25 (v := 2) dX5_annex_24 kI_2 rfl ?_
      refine aw_goto 64 dX5_annex_25 rfl ?_
      exact aw_pick [0, 1, 2, 3] rfl (aw_X5_annex_64 hG  h)
  · replace h := h.2 c4
    refine aw_iconst 11 (v := 1) dX5_annex_10 kI_1 rfl ?_
    refine aw_goto 64 dX5_annex_11 rfl ?_
    exact aw_pick [0, 1, 2, 3] rfl (aw_X5_annex_64 hG  h))
set_option maxRecDepth 20000 in
theorem aw_X5_bringBack_44 {G : GG} (hG : G.1.stackTraces = false)  {l0 : Nat} {l1 : Int32} {l2 : Int32} {s0 : Nat} {s1 : Int32} {X : XH} {K : Int32 → XH → Prop}  (h : w_X5_bringBack_44  l0 l1 l2 s0 s1 X K) : AW G M_X5_bringBack 44 [(0, .ref l0), (1, .int l1), (2, .int l2)] [.int s1, .ref s0] X 0 0 (KrI K) := by
  unfold w_X5_bringBack_44 at h
  obtain ⟨g3, h⟩ := h
  refine aw_callV (M' := M_X5_refused) 47 81 5 s0 [.int _] [] dX5_bringBack_44 lk_RX5_81 mv_X5_refused mp_X5_refused rfl ⟨leb rfl, leb rfl⟩ rfl (ltb rfl) g3 rfl (leb rfl) (leb rfl) (leb rfl) rfl (am_X5_refused hG h) (kkI fun v2 X1 h => ?_) (kxN KrI.no)
  refine aw_widen (cc' := 0) (ss' := 0) (leb rfl) (leb rfl) ?_
  refine aw_if_eq 52 50 dX5_bringBack_47 rfl rfl (fun c4 => ?_) (fun c4 => ?_)
  · replace h := h.1 c4
    refine aw_aload_n 53 dX5_bringBack_52 rfl 0 rfl rfl ?_
    refine aw_iload_n 54 dX5_bringBack_53 rfl 1 rfl rfl ?_
    refine aw_bipush 56 (v := 7) dX5_bringBack_54 kB_7 rfl ?_
    refine aw_iload_n 57 dX5_bringBack_56 rfl 2 rfl rfl ?_
    refine aw_iadd 58 dX5_bringBack_57 rfl ?_
    refine aw_callS (M' := M_X5_at) 61 44 [.int _, .int _] [.ref _] dX5_bringBack_58 lk_RX5_44 ms_X5_at mp_X5_at rfl ⟨leb rfl, leb rfl⟩ rfl (leb rfl) (leb rfl) (leb rfl) rfl (am_X5_at hG h) (kkI fun v6 X5 h => ?_) (kxN KrI.no)
    refine aw_widen (cc' := 0) (ss' := 0) (leb rfl) (leb rfl) ?_
    refine aw_iconst 62 (v := 0) dX5_bringBack_61 kI_0 rfl ?_
    obtain ⟨g9, h⟩ := h
    refine aw_callV (M' := M_X5_sets) 65 94 5 l0 [.int _, .int _] [] dX5_bringBack_62 lk_RX5_94 mv_X5_sets mp_X5_sets rfl ⟨leb rfl, leb rfl⟩ rfl (ltb rfl) g9 rfl (leb rfl) (leb rfl) (leb rfl) rfl (am_X5_sets hG h) (kkI fun v8 X7 h => ?_) (kxN KrI.no)
    refine aw_widen (cc' := 0) (ss' := 0) (leb rfl) (leb rfl) ?_
    refine aw_istore_n 66 (lv' := [(3, _), (0, _), (1, _), (2, _)]) dX5_bringBack_65 rfl (ltb rfl) rfl rfl ?_
    refine aw_aload_n 67 dX5_bringBack_66 rfl 1 rfl rfl ?_
    obtain ⟨g10, h⟩ := h
    obtain ⟨g11, h⟩ := h
    refine aw_getR 70 dX5_bringBack_67 fl_RX5_7 rfl g10 g11 rfl ?_
    refine aw_iload_n 71 dX5_bringBack_70 rfl 2 rfl rfl ?_
    refine aw_iconst 72 (v := 4) dX5_bringBack_71 kI_4 rfl ?_
    refine aw_iload_n 73 dX5_bringBack_72 rfl 3 rfl rfl ?_
    refine aw_iadd 74 dX5_bringBack_73 rfl ?_
    refine aw_callS (M' := M_X5_at) 77 44 [.int _, .int _] [.ref _] dX5_bringBack_74 lk_RX5_44 ms_X5_at mp_X5_at rfl ⟨leb rfl, leb rfl⟩ rfl (leb rfl) (leb rfl) (leb rfl) rfl (am_X5_at hG h) (kkI fun v13 X12 h => ?_) (kxN KrI.no)
    refine aw_widen (cc' := 0) (ss' := 0) (leb rfl) (leb rfl) ?_
    refine aw_dup2 78 dX5_bringBack_77 rfl rfl rfl ?_
    obtain ⟨g14, h⟩ := h
    obtain ⟨g15, h⟩ := h
    refine aw_iaload 79 dX5_bringBack_78 g14 g15 rfl ?_
    refine aw_iload_n 80 dX5_bringBack_79 rfl 0 rfl rfl ?_
    refine aw_iadd 81 dX5_bringBack_80 rfl ?_
    refine aw_iastore 82 dX5_bringBack_81 g14 g15 rfl ?_
    refine aw_iload_n 83 dX5_bringBack_82 rfl 0 rfl rfl ?_
    exact aw_ireturn (ty := .int) dX5_bringBack_83 rfl rfl (leb rfl) (leb rfl) ⟨_, rfl, h⟩
  · replace h := h.2 c4
    refine aw_iconst 51 (v := 0) dX5_bringBack_50 kI_0 rfl ?_
    exact aw_ireturn (ty := .int) dX5_bringBack_51 rfl rfl (leb rfl) (leb rfl) ⟨_, rfl, h⟩
set_option maxRecDepth 20000 in
theorem am_X5_bringBack {G : GG} (hG : G.1.stackTraces = false) {l0 : Nat} {l1 : Int32} {l2 : Int32} {X : XH} {K : Int32 → XH → Prop} (h : w_X5_bringBack l0 l1 l2 X K) : AM G M_X5_bringBack X [.ref l0, .int l1, .int l2] (KrI K) := AM_of (by decide +kernel) rfl (leb rfl) hG (by
  show AW G M_X5_bringBack 0 [(0, .ref l0), (1, .int l1), (2, .int l2)] [] X 0 0 _
  unfold w_X5_bringBack at h
  refine aw_aload_n 1 dX5_bringBack_0 rfl 0 rfl rfl ?_
  refine aw_aload_n 2 dX5_bringBack_1 rfl 0 rfl rfl ?_
  refine aw_iload_n 3 dX5_bringBack_2 rfl 1 rfl rfl ?_
  refine aw_iload_n 4 dX5_bringBack_3 rfl 2 rfl rfl ?_
  obtain ⟨g3, h⟩ := h
  refine aw_callV (M' := M_X5_are) 7 97 5 l0 [.int _, .int _] [.ref _] dX5_bringBack_4 lk_RX5_97 mv_X5_are mp_X5_are rfl ⟨leb rfl, leb rfl⟩ rfl (ltb rfl) g3 rfl (leb rfl) (leb rfl) (leb rfl) rfl (am_X5_are hG h) (kkI fun v2 X1 h => ?_) (kxN KrI.no)
  refine aw_widen (cc' := 0) (ss' := 0) (leb rfl) (leb rfl) ?_
  refine aw_if_ne 14 10 dX5_bringBack_7 rfl rfl (fun c4 => ?_) (fun c4 => ?_)
  · replace h := h.1 c4
    refine aw_aload_n 15 dX5_bringBack_14 rfl 0 rfl rfl ?_
    obtain ⟨g5, h⟩ := h
    obtain ⟨g6, h⟩ := h
    refine aw_getR 18 dX5_bringBack_15 fl_RX5_7 rfl g5 g6 rfl ?_
    refine aw_iload_n 19 dX5_bringBack_18 rfl 1 rfl rfl ?_
    refine aw_bipush 21 (v := 7) dX5_bringBack_19 kB_7 rfl ?_
    refine aw_iload_n 22 dX5_bringBack_21 rfl 2 rfl rfl ?_
    refine aw_iadd 23 dX5_bringBack_22 rfl ?_
    refine aw_callS (M' := M_X5_at) 26 44 [.int _, .int _] [.ref _, .ref _] dX5_bringBack_23 lk_RX5_44 ms_X5_at mp_X5_at rfl ⟨leb rfl, leb rfl⟩ rfl (leb rfl) (leb rfl) (leb rfl) rfl (am_X5_at hG h) (kkI fun v8 X7 h => ?_) (kxN KrI.no)
    refine aw_widen (cc' := 0) (ss' := 0) (leb rfl) (leb rfl) ?_
    obtain ⟨g9, h⟩ := h
    obtain ⟨g10, h⟩ := h
    refine aw_iaload 27 dX5_bringBack_26 g9 g10 rfl ?_
    refine aw_if_eq 39 30 dX5_bringBack_27 rfl rfl (fun c11 => ?_) (fun c11 => ?_)
    · replace h := h.1 c11
      refine aw_iconst 40 (v := 2) dX5_bringBack_39 kI_2 rfl ?_
      refine aw_goto 44 dX5_bringBack_40 rfl ?_
      exact aw_pick [0, 1, 2] rfl (aw_X5_bringBack_44 hG  h)
    · replace h := h.2 c11
      refine aw_aload_n 31 dX5_bringBack_30 rfl 0 rfl rfl ?_
      refine aw_iload_n 32 dX5_bringBack_31 rfl 1 rfl rfl ?_
      refine aw_iload_n 33 dX5_bringBack_32 rfl 2 rfl rfl ?_
      obtain ⟨g14, h⟩ := h
      refine aw_callV (M' := M_X5_isTaken) 36 51 5 l0 [.int _, .int _] [.ref _] dX5_bringBack_33 lk_RX5_51 mv_X5_isTaken mp_X5_isTaken rfl ⟨leb rfl, leb rfl⟩ rfl (ltb rfl) g14 rfl (leb rfl) (leb rfl) (leb rfl) rfl (am_X5_isTaken hG h) (kkI fun v13 X12 h => ?_) (kxN KrI.no)
      refine aw_widen (cc' := 0) (ss' := 0) (leb rfl) (leb rfl) ?_
      refine aw_if_eq 43 39 dX5_bringBack_36 rfl rfl (fun c15 => ?_) (fun c15 => ?_)
      · replace h := h.1 c15
        refine aw_iconst 44 (v := 0) dX5_bringBack_43 kI_0 rfl ?_
        exact aw_pick [0, 1, 2] rfl (aw_X5_bringBack_44 hG  h)
      · replace h := h.2 c15
        refine aw_iconst 40 (v := 2) dX5_bringBack_39 kI_2 rfl ?_
        refine aw_goto 44 dX5_bringBack_40 rfl ?_
        exact aw_pick [0, 1, 2] rfl (aw_X5_bringBack_44 hG  h)
  · replace h := h.2 c4
    refine aw_iconst 11 (v := 1) dX5_bringBack_10 kI_1 rfl ?_
    refine aw_goto 44 dX5_bringBack_11 rfl ?_
    exact aw_pick [0, 1, 2] rfl (aw_X5_bringBack_44 hG  h))
set_option maxRecDepth 20000 in
theorem am_X5_isVoice {G : GG} (hG : G.1.stackTraces = false) {l0 : Int32} {l1 : Int32} {X : XH} {K : Int32 → XH → Prop} (h : w_X5_isVoice l0 l1 X K) : AM G M_X5_isVoice X [.int l0, .int l1] (KrI K) := AM_of (by decide +kernel) rfl (leb rfl) hG (by
  show AW G M_X5_isVoice 0 [(0, .int l0), (1, .int l1)] [] X 0 0 _
  unfold w_X5_isVoice at h
  refine aw_iload_n 1 dX5_isVoice_0 rfl 0 rfl rfl ?_
  refine aw_callS (M' := M_X5_isState) 4 78 [.int _] [] dX5_isVoice_1 lk_RX5_78 ms_X5_isState mp_X5_isState rfl ⟨leb rfl, leb rfl⟩ rfl (leb rfl) (leb rfl) (leb rfl) rfl (am_X5_isState hG h) (kkI fun v2 X1 h => ?_) (kxN KrI.no)
  refine aw_widen (cc' := 0) (ss' := 0) (leb rfl) (leb rfl) ?_
  refine aw_if_eq 18 7 dX5_isVoice_4 rfl rfl (fun c3 => ?_) (fun c3 => ?_)
  · replace h := h.1 c3
    refine aw_iconst 19 (v := 0) dX5_isVoice_18 kI_0 rfl ?_
    exact aw_ireturn (ty := .boolean) dX5_isVoice_19 rfl rfl (leb rfl) (leb rfl) ⟨_, rfl, h⟩
  · replace h := h.2 c3
    refine aw_iload_n 8 dX5_isVoice_7 rfl 1 rfl rfl ?_
    refine aw_callS (M' := M_X5_isTongue) 11 38 [.int _] [] dX5_isVoice_8 lk_RX5_38 ms_X5_isTongue mp_X5_isTongue rfl ⟨leb rfl, leb rfl⟩ rfl (leb rfl) (leb rfl) (leb rfl) rfl (am_X5_isTongue hG h) (kkI fun v5 X4 h => ?_) (kxN KrI.no)
    refine aw_widen (cc' := 0) (ss' := 0) (leb rfl) (leb rfl) ?_
    refine aw_if_eq 18 14 dX5_isVoice_11 rfl rfl (fun c6 => ?_) (fun c6 => ?_)
    · replace h := h.1 c6
      refine aw_iconst 19 (v := 0) dX5_isVoice_18 kI_0 rfl ?_
      exact aw_ireturn (ty := .boolean) dX5_isVoice_19 rfl rfl (leb rfl) (leb rfl) ⟨_, rfl, h⟩
    · replace h := h.2 c6
      refine aw_iconst 15 (v := 1) dX5_isVoice_14 kI_1 rfl ?_
      refine aw_goto 19 dX5_isVoice_15 rfl ?_
      exact aw_ireturn (ty := .boolean) dX5_isVoice_19 rfl rfl (leb rfl) (leb rfl) ⟨_, rfl, h⟩)
set_option maxRecDepth 20000 in
theorem aw_X5_cast_51 {G : GG} (hG : G.1.stackTraces = false)  {l0 : Nat} {l1 : Int32} {l2 : Int32} {l3 : Int32} {s0 : Nat} {s1 : Int32} {X : XH} {K : Int32 → XH → Prop}  (h : w_X5_cast_51  l0 l1 l2 l3 s0 s1 X K) : AW G M_X5_cast 51 [(0, .ref l0), (1, .int l1), (2, .int l2), (3, .int l3)] [.int s1, .ref s0] X 0 0 (KrI K) := by
  unfold w_X5_cast_51 at h
  obtain ⟨g3, h⟩ := h
  refine aw_callV (M' := M_X5_refused) 54 81 5 s0 [.int _] [] dX5_cast_51 lk_RX5_81 mv_X5_refused mp_X5_refused rfl ⟨leb rfl, leb rfl⟩ rfl (ltb rfl) g3 rfl (leb rfl) (leb rfl) (leb rfl) rfl (am_X5_refused hG h) (kkI fun v2 X1 h => ?_) (kxN KrI.no)
  refine aw_widen (cc' := 0) (ss' := 0) (leb rfl) (leb rfl) ?_
  refine aw_if_eq 61 57 dX5_cast_54 rfl rfl (fun c4 => ?_) (fun c4 => ?_)
  · replace h := h.1 c4
    refine aw_aload_n 62 dX5_cast_61 rfl 0 rfl rfl ?_
    refine aw_sipush 65 (v := 312) dX5_cast_62 kS_312 rfl ?_
    refine aw_iconst 66 (v := 3) dX5_cast_65 kI_3 rfl ?_
    refine aw_iload_n 67 dX5_cast_66 rfl 1 rfl rfl ?_
    refine aw_imul 68 dX5_cast_67 rfl ?_
    refine aw_iadd 69 dX5_cast_68 rfl ?_
    refine aw_iload_n 70 dX5_cast_69 rfl 2 rfl rfl ?_
    refine aw_iadd 71 dX5_cast_70 rfl ?_
    refine aw_iload_n 72 dX5_cast_71 rfl 3 rfl rfl ?_
    obtain ⟨g7, h⟩ := h
    refine aw_callV (M' := M_X5_sets) 75 94 5 l0 [.int _, .int _] [] dX5_cast_72 lk_RX5_94 mv_X5_sets mp_X5_sets rfl ⟨leb rfl, leb rfl⟩ rfl (ltb rfl) g7 rfl (leb rfl) (leb rfl) (leb rfl) rfl (am_X5_sets hG h) (kkI fun v6 X5 h => ?_) (kxN KrI.no)
    refine aw_widen (cc' := 0) (ss' := 0) (leb rfl) (leb rfl) ?_
    exact aw_ireturn (ty := .int) dX5_cast_75 rfl rfl (leb rfl) (leb rfl) ⟨_, rfl, h⟩
  · replace h := h.2 c4
    refine aw_iconst 58 (v := 0) dX5_cast_57 kI_0 rfl ?_
    refine aw_goto 75 dX5_cast_58 rfl ?_
    exact aw_ireturn (ty := .int) dX5_cast_75 rfl rfl (leb rfl) (leb rfl) ⟨_, rfl, h⟩
set_option maxRecDepth 20000 in
theorem am_X5_cast {G : GG} (hG : G.1.stackTraces = false) {l0 : Nat} {l1 : Int32} {l2 : Int32} {l3 : Int32} {X : XH} {K : Int32 → XH → Prop} (h : w_X5_cast l0 l1 l2 l3 X K) : AM G M_X5_cast X [.ref l0, .int l1, .int l2, .int l3] (KrI K) := AM_of (by decide +kernel) rfl (leb rfl) hG (by
  show AW G M_X5_cast 0 [(0, .ref l0), (1, .int l1), (2, .int l2), (3, .int l3)] [] X 0 0 _
  unfold w_X5_cast at h
  refine aw_aload_n 1 dX5_cast_0 rfl 0 rfl rfl ?_
  refine aw_iload_n 2 dX5_cast_1 rfl 1 rfl rfl ?_
  refine aw_iload_n 3 dX5_cast_2 rfl 2 rfl rfl ?_
  refine aw_callS (M' := M_X5_isVoice) 6 104 [.int _, .int _] [.ref _] dX5_cast_3 lk_RX5_104 ms_X5_isVoice mp_X5_isVoice rfl ⟨leb rfl, leb rfl⟩ rfl (leb rfl) (leb rfl) (leb rfl) rfl (am_X5_isVoice hG h) (kkI fun v2 X1 h => ?_) (kxN KrI.no)
  refine aw_widen (cc' := 0) (ss' := 0) (leb rfl) (leb rfl) ?_
  refine aw_if_ne 13 9 dX5_cast_6 rfl rfl (fun c3 => ?_) (fun c3 => ?_)
  · replace h := h.1 c3
    refine aw_iload_n 14 dX5_cast_13 rfl 3 rfl rfl ?_
    refine aw_bipush 16 (v := 20) dX5_cast_14 kB_20 rfl ?_
    refine aw_bipush 18 (v := 120) dX5_cast_16 kB_120 rfl ?_
    refine aw_callS (M' := M_X5_in) 21 30 [.int _, .int _, .int _] [.ref _] dX5_cast_18 lk_RX5_30 ms_X5_in mp_X5_in rfl ⟨leb rfl, leb rfl⟩ rfl (leb rfl) (leb rfl) (leb rfl) rfl (am_X5_in hG h) (kkI fun v5 X4 h => ?_) (kxN KrI.no)
    refine aw_widen (cc' := 0) (ss' := 0) (leb rfl) (leb rfl) ?_
    refine aw_if_ne 28 24 dX5_cast_21 rfl rfl (fun c6 => ?_) (fun c6 => ?_)
    · replace h := h.1 c6
      refine aw_aload_n 29 dX5_cast_28 rfl 0 rfl rfl ?_
      obtain ⟨g7, h⟩ := h
      obtain ⟨g8, h⟩ := h
      refine aw_getR 32 dX5_cast_29 fl_RX5_7 rfl g7 g8 rfl ?_
      refine aw_sipush 35 (v := 327) dX5_cast_32 kS_327 rfl ?_
      refine aw_iconst 36 (v := 3) dX5_cast_35 kI_3 rfl ?_
      refine aw_iload_n 37 dX5_cast_36 rfl 1 rfl rfl ?_
      refine aw_imul 38 dX5_cast_37 rfl ?_
      refine aw_iadd 39 dX5_cast_38 rfl ?_
      refine aw_iload_n 40 dX5_cast_39 rfl 2 rfl rfl ?_
      refine aw_iadd 41 dX5_cast_40 rfl ?_
      obtain ⟨g9, h⟩ := h
      obtain ⟨g10, h⟩ := h
      refine aw_iaload 42 dX5_cast_41 g9 g10 rfl ?_
      refine aw_iload_n 43 dX5_cast_42 rfl 3 rfl rfl ?_
      refine aw_icmp_le 50 46 dX5_cast_43 rfl rfl (fun c11 => ?_) (fun c11 => ?_)
      · replace h := h.1 c11
        refine aw_iconst 51 (v := 0) dX5_cast_50 kI_0 rfl ?_
        exact aw_pick [0, 1, 2, 3] rfl (aw_X5_cast_51 hG  h)
      · replace h := h.2 c11
        refine aw_iconst 47 (v := 3) dX5_cast_46 kI_3 rfl ?_
        refine aw_goto 51 dX5_cast_47 rfl ?_
        exact aw_pick [0, 1, 2, 3] rfl (aw_X5_cast_51 hG  h)
    · replace h := h.2 c6
      refine aw_iconst 25 (v := 2) dX5_cast_24 kI_2 rfl ?_
      refine aw_goto 51 dX5_cast_25 rfl ?_
      exact aw_pick [0, 1, 2, 3] rfl (aw_X5_cast_51 hG  h)
  · replace h := h.2 c3
    refine aw_iconst 10 (v := 1) dX5_cast_9 kI_1 rfl ?_
    refine aw_goto 51 dX5_cast_10 rfl ?_
    exact aw_pick [0, 1, 2, 3] rfl (aw_X5_cast_51 hG  h))
set_option maxRecDepth 20000 in
theorem am_X3_strengthAt {G : GG} (hG : G.1.stackTraces = false) {l0 : Nat} {l1 : Int32} {l2 : Int32} {X : XH} {K : Int32 → XH → Prop} (h : w_X3_strengthAt l0 l1 l2 X K) : AM G M_X3_strengthAt X [.ref l0, .int l1, .int l2] (KrI K) := AM_of (by decide +kernel) rfl (leb rfl) hG (by
  show AW G M_X3_strengthAt 0 [(0, .ref l0), (1, .int l1), (2, .int l2)] [] X 0 0 _
  unfold w_X3_strengthAt at h
  refine aw_aload_n 1 dX3_strengthAt_0 rfl 0 rfl rfl ?_
  refine aw_iload_n 2 dX3_strengthAt_1 rfl 1 rfl rfl ?_
  refine aw_iload_n 3 dX3_strengthAt_2 rfl 2 rfl rfl ?_
  obtain ⟨g3, h⟩ := h
  refine aw_callV (M' := M_X3_staminaAt) 6 128 3 l0 [.int _, .int _] [] dX3_strengthAt_3 lk_RX3_128 mv_X3_staminaAt mp_X3_staminaAt rfl ⟨leb rfl, leb rfl⟩ rfl (ltb rfl) g3 rfl (leb rfl) (leb rfl) (leb rfl) rfl (am_X3_staminaAt hG h) (kkI fun v2 X1 h => ?_) (kxN KrI.no)
  refine aw_widen (cc' := 0) (ss' := 0) (leb rfl) (leb rfl) ?_
  refine aw_aload_n 7 dX3_strengthAt_6 rfl 0 rfl rfl ?_
  refine aw_iload_n 8 dX3_strengthAt_7 rfl 1 rfl rfl ?_
  refine aw_iload_n 9 dX3_strengthAt_8 rfl 2 rfl rfl ?_
  obtain ⟨g6, h⟩ := h
  refine aw_callV (M' := M_X3_usedBy) 12 131 3 l0 [.int _, .int _] [.int _] dX3_strengthAt_9 lk_RX3_131 mv_X3_usedBy mp_X3_usedBy rfl ⟨leb rfl, leb rfl⟩ rfl (ltb rfl) g6 rfl (leb rfl) (leb rfl) (leb rfl) rfl (am_X3_usedBy hG h) (kkI fun v5 X4 h => ?_) (kxN KrI.no)
  refine aw_widen (cc' := 0) (ss' := 0) (leb rfl) (leb rfl) ?_
  refine aw_isub 13 dX3_strengthAt_12 rfl ?_
  exact aw_ireturn (ty := .int) dX3_strengthAt_13 rfl rfl (leb rfl) (leb rfl) ⟨_, rfl, h⟩)
end XWK3
