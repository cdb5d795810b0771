/-! the walks of methods, as predicates -/
section XWK8
set_option maxRecDepth 20000 in
theorem aw_X2_fewestFor_11 {G : GG} (hG : G.1.stackTraces = false)  {l0 : Nat} {l2 : Int32} {l3 : Int32} {l4 : Int32} {X : XH} {K : Int32 → XH → Prop}  (h : w_X2_fewestFor_11  l0 l2 l3 l4 X K) : AW G M_X2_fewestFor 11 [(0, .ref l0), (2, .int l2), (3, .int l3), (4, .int l4)] [] X 0 0 (KrI K) :=
  h (fun l0 l2 l3 l4 X => AW G M_X2_fewestFor 11 [(0, .ref l0), (2, .int l2), (3, .int l3), (4, .int l4)] [] X 0 0 (KrI K)) (fun l0 l2 l3 l4 X h => by
    refine aw_iload 13 dX2_fewestFor_11 3 rfl rfl ?_
    refine aw_if_lt 58 16 dX2_fewestFor_13 rfl rfl (fun c1 => ?_) (fun c1 => ?_)
    · replace h := h.1 c1
      refine aw_iload_n 59 dX2_fewestFor_58 rfl 2 rfl rfl ?_
      refine aw_aload_n 60 dX2_fewestFor_59 rfl 0 rfl rfl ?_
      obtain ⟨g2, h⟩ := h
      refine aw_getI 63 dX2_fewestFor_60 fl_RX2_22 rfl g2 rfl ?_
      refine aw_icmp_gt 70 66 dX2_fewestFor_63 rfl rfl (fun c3 => ?_) (fun c3 => ?_)
      · replace h := h.1 c3
        refine aw_iload_n 71 dX2_fewestFor_70 rfl 1 rfl rfl ?_
        exact aw_ireturn (ty := .int) dX2_fewestFor_71 rfl rfl (leb rfl) (leb rfl) ⟨_, rfl, h⟩
      · replace h := h.2 c3
        refine aw_iconst 67 (v := 1) dX2_fewestFor_66 kI_1 rfl ?_
        refine aw_goto 71 dX2_fewestFor_67 rfl ?_
        exact aw_ireturn (ty := .int) dX2_fewestFor_71 rfl rfl (leb rfl) (leb rfl) ⟨_, rfl, h⟩
    · replace h := h.2 c1
      refine aw_iload_n 17 dX2_fewestFor_16 rfl 2 rfl rfl ?_
      refine aw_aload_n 18 dX2_fewestFor_17 rfl 0 rfl rfl ?_
      obtain ⟨g4, h⟩ := h
      obtain ⟨g5, h⟩ := h
      refine aw_getR 21 dX2_fewestFor_18 fl_RX2_9 rfl g4 g5 rfl ?_
      refine aw_iload 23 dX2_fewestFor_21 3 rfl rfl ?_
      refine aw_callSN (M' := M_X4_at) 26 32 [.ref _, .int _] [.int _] dX2_fewestFor_23 (by decide) ms_X4_at mp_X4_at rfl ⟨leb rfl, leb rfl⟩ rfl (leb rfl) (leb rfl) (leb rfl) rfl (am_X4_at hG h) (kkI fun v7 X6 h => ?_) KrI.no
      refine aw_widen (cc' := 0) (ss' := 0) (leb rfl) (leb rfl) ?_
      refine aw_iadd 27 dX2_fewestFor_26 rfl ?_
      refine aw_istore_n 28 (lv' := [(3, _), (0, _), (2, _), (4, _)]) dX2_fewestFor_27 rfl (ltb rfl) rfl rfl ?_
      refine aw_iload_n 29 dX2_fewestFor_28 rfl 0 rfl rfl ?_
      refine aw_aload_n 30 dX2_fewestFor_29 rfl 1 rfl rfl ?_
      obtain ⟨g8, h⟩ := h
      refine aw_getI 33 dX2_fewestFor_30 fl_RX2_25 rfl g8 rfl ?_
      refine aw_icmp_gt 52 36 dX2_fewestFor_33 rfl rfl (fun c9 => ?_) (fun c9 => ?_)
      · replace h := h.1 c9
        refine aw_iinc 55 (v := -1) (lv' := [(4, _), (3, _), (0, _), (2, _)]) dX2_fewestFor_52 3 rfl kI_m1 (ltb rfl) rfl rfl ?_
        refine aw_goto 11 dX2_fewestFor_55 rfl ?_
        exact aw_pick [2, 3, 1, 0] rfl h
      · replace h := h.2 c9
        refine aw_iload_n 37 dX2_fewestFor_36 rfl 2 rfl rfl ?_
        refine aw_aload_n 38 dX2_fewestFor_37 rfl 1 rfl rfl ?_
        obtain ⟨g10, h⟩ := h
        refine aw_getR 41 dX2_fewestFor_38 fl_RX2_15 rfl g8 g10 rfl ?_
        refine aw_iload 43 dX2_fewestFor_41 3 rfl rfl ?_
        refine aw_callSN (M' := M_X4_at) 46 32 [.ref _, .int _] [.int _] dX2_fewestFor_43 (by decide) ms_X4_at mp_X4_at rfl ⟨leb rfl, leb rfl⟩ rfl (leb rfl) (leb rfl) (leb rfl) rfl (am_X4_at hG h) (kkI fun v12 X11 h => ?_) KrI.no
        refine aw_widen (cc' := 0) (ss' := 0) (leb rfl) (leb rfl) ?_
        refine aw_iconst 47 (v := 1) dX2_fewestFor_46 kI_1 rfl ?_
        refine aw_iadd 48 dX2_fewestFor_47 rfl ?_
        refine aw_mmin 51 dX2_fewestFor_48 mx_RX2_40 (leb rfl) (leb rfl) (leb rfl) (leb rfl) rfl ?_
        refine aw_istore_n 52 (lv' := [(2, _), (3, _), (0, _), (4, _)]) dX2_fewestFor_51 rfl (ltb rfl) rfl rfl ?_
        refine aw_iinc 55 (v := -1) (lv' := [(4, _), (2, _), (3, _), (0, _)]) dX2_fewestFor_52 3 rfl kI_m1 (ltb rfl) rfl rfl ?_
        refine aw_goto 11 dX2_fewestFor_55 rfl ?_
        exact aw_pick [3, 1, 2, 0] rfl h)
set_option maxRecDepth 20000 in
theorem am_X2_fewestFor {G : GG} (hG : G.1.stackTraces = false) {l0 : Nat} {l1 : Int32} {X : XH} {K : Int32 → XH → Prop} (h : w_X2_fewestFor l0 l1 X K) : AM G M_X2_fewestFor X [.ref l0, .int l1] (KrI K) := AM_of (by decide +kernel) rfl (leb rfl) hG (by
  show AW G M_X2_fewestFor 0 [(0, .ref l0), (1, .int l1)] [] X 0 0 _
  unfold w_X2_fewestFor at h
  refine aw_iload_n 1 dX2_fewestFor_0 rfl 1 rfl rfl ?_
  refine aw_iconst 2 (v := 1) dX2_fewestFor_1 kI_1 rfl ?_
  refine aw_iadd 3 dX2_fewestFor_2 rfl ?_
  refine aw_istore_n 4 (lv' := [(2, _), (0, _), (1, _)]) dX2_fewestFor_3 rfl (ltb rfl) rfl rfl ?_
  refine aw_iconst 5 (v := 0) dX2_fewestFor_4 kI_0 rfl ?_
  refine aw_istore_n 6 (lv' := [(3, _), (2, _), (0, _), (1, _)]) dX2_fewestFor_5 rfl (ltb rfl) rfl rfl ?_
  refine aw_iload_n 7 dX2_fewestFor_6 rfl 3 rfl rfl ?_
  refine aw_iconst 8 (v := 1) dX2_fewestFor_7 kI_1 rfl ?_
  refine aw_isub 9 dX2_fewestFor_8 rfl ?_
  refine aw_istore 11 (lv' := [(4, _), (3, _), (2, _), (0, _), (1, _)]) dX2_fewestFor_9 (ltb rfl) rfl rfl ?_
  exact aw_pick [3, 2, 1, 0] rfl (aw_X2_fewestFor_11 hG  h))
set_option maxRecDepth 20000 in
theorem aw_X2_fillTable_20 {G : GG} (hG : G.1.stackTraces = false)  {l0 : Nat} {l1 : Int32} {X : XH} {K : Int32 → XH → Prop}  (h : w_X2_fillTable_20  l0 l1 X K) : AW G M_X2_fillTable 20 [(0, .ref l0), (1, .int l1)] [] X 0 0 (KrI K) :=
  h (fun l0 l1 X => AW G M_X2_fillTable 20 [(0, .ref l0), (1, .int l1)] [] X 0 0 (KrI K)) (fun l0 l1 X h => by
    refine aw_iload_n 21 dX2_fillTable_20 rfl 1 rfl rfl ?_
    refine aw_aload_n 22 dX2_fillTable_21 rfl 0 rfl rfl ?_
    obtain ⟨g1, h⟩ := h
    refine aw_getI 25 dX2_fillTable_22 fl_RX2_18 rfl g1 rfl ?_
    refine aw_icmp_gt 47 28 dX2_fillTable_25 rfl rfl (fun c2 => ?_) (fun c2 => ?_)
    · replace h := h.1 c2
      refine aw_aload_n 48 dX2_fillTable_47 rfl 0 rfl rfl ?_
      obtain ⟨g3, h⟩ := h
      refine aw_getR 51 dX2_fillTable_48 fl_RX2_15 rfl g1 g3 rfl ?_
      refine aw_aload_n 52 dX2_fillTable_51 rfl 0 rfl rfl ?_
      refine aw_getI 55 dX2_fillTable_52 fl_RX2_18 rfl g1 rfl ?_
      refine aw_callSN (M' := M_X4_at) 58 32 [.ref _, .int _] [] dX2_fillTable_55 (by decide) ms_X4_at mp_X4_at rfl ⟨leb rfl, leb rfl⟩ rfl (leb rfl) (leb rfl) (leb rfl) rfl (am_X4_at hG h) (kkI fun v5 X4 h => ?_) KrI.no
      refine aw_widen (cc' := 0) (ss' := 0) (leb rfl) (leb rfl) ?_
      exact aw_ireturn (ty := .int) dX2_fillTable_58 rfl rfl (leb rfl) (leb rfl) ⟨_, rfl, h⟩
    · replace h := h.2 c2
      refine aw_aload_n 29 dX2_fillTable_28 rfl 0 rfl rfl ?_
      obtain ⟨g6, h⟩ := h
      refine aw_getR 32 dX2_fillTable_29 fl_RX2_15 rfl g1 g6 rfl ?_
      refine aw_iload_n 33 dX2_fillTable_32 rfl 1 rfl rfl ?_
      refine aw_aload_n 34 dX2_fillTable_33 rfl 0 rfl rfl ?_
      refine aw_iload_n 35 dX2_fillTable_34 rfl 1 rfl rfl ?_
      refine aw_callV (M' := M_X2_fewestFor) 38 36 2 l0 [.int _] [.int _, .ref _] dX2_fillTable_35 lk_RX2_36 mv_X2_fewestFor mp_X2_fewestFor rfl ⟨leb rfl, leb rfl⟩ rfl (ltb rfl) g1 rfl (leb rfl) (leb rfl) (leb rfl) rfl (am_X2_fewestFor hG h) (kkI fun v8 X7 h => ?_) (kxN KrI.no)
      refine aw_widen (cc' := 0) (ss' := 0) (leb rfl) (leb rfl) ?_
      refine aw_callSN (M' := M_X4_put) 41 28 [.ref _, .int _, .int _] [] dX2_fillTable_38 (by decide) ms_X4_put mp_X4_put rfl ⟨leb rfl, leb rfl⟩ rfl (leb rfl) (leb rfl) (leb rfl) rfl (am_X4_put hG h) (kkV fun X9 h => ?_) KrV.no
      refine aw_widen (cc' := 0) (ss' := 0) (leb rfl) (leb rfl) ?_
      refine aw_iinc 44 (v := 1) (lv' := [(1, _), (0, _)]) dX2_fillTable_41 1 rfl kI_1 (ltb rfl) rfl rfl ?_
      refine aw_goto 20 dX2_fillTable_44 rfl ?_
      exact aw_pick [1, 0] rfl h)
set_option maxRecDepth 20000 in
theorem am_X2_fillTable {G : GG} (hG : G.1.stackTraces = false) {l0 : Nat} {X : XH} {K : Int32 → XH → Prop} (h : w_X2_fillTable l0 X K) : AM G M_X2_fillTable X [.ref l0] (KrI K) := AM_of (by decide +kernel) rfl (leb rfl) hG (by
  show AW G M_X2_fillTable 0 [(0, .ref l0)] [] X 0 0 _
  unfold w_X2_fillTable at h
  refine aw_aload_n 1 dX2_fillTable_0 rfl 0 rfl rfl ?_
  obtain ⟨g1, h⟩ := h
  refine aw_getI 4 dX2_fillTable_1 fl_RX2_18 rfl g1 rfl ?_
  refine aw_if_ne 9 7 dX2_fillTable_4 rfl rfl (fun c2 => ?_) (fun c2 => ?_)
  · replace h := h.1 c2
    refine aw_aload_n 10 dX2_fillTable_9 rfl 0 rfl rfl ?_
    obtain ⟨g3, h⟩ := h
    refine aw_getR 13 dX2_fillTable_10 fl_RX2_15 rfl g1 g3 rfl ?_
    refine aw_iconst 14 (v := 0) dX2_fillTable_13 kI_0 rfl ?_
    refine aw_iconst 15 (v := 1) dX2_fillTable_14 kI_1 rfl ?_
    refine aw_callSN (M' := M_X4_put) 18 28 [.ref _, .int _, .int _] [] dX2_fillTable_15 (by decide) ms_X4_put mp_X4_put rfl ⟨leb rfl, leb rfl⟩ rfl (leb rfl) (leb rfl) (leb rfl) rfl (am_X4_put hG h) (kkV fun X4 h => ?_) KrV.no
    refine aw_widen (cc' := 0) (ss' := 0) (leb rfl) (leb rfl) ?_
    refine aw_iconst 19 (v := 1) dX2_fillTable_18 kI_1 rfl ?_
    refine aw_istore_n 20 (lv' := [(1, _), (0, _)]) dX2_fillTable_19 rfl (ltb rfl) rfl rfl ?_
    exact aw_pick [1, 0] rfl (aw_X2_fillTable_20 hG  h)
  · replace h := h.2 c2
    refine aw_iconst 8 (v := 0) dX2_fillTable_7 kI_0 rfl ?_
    exact aw_ireturn (ty := .int) dX2_fillTable_8 rfl rfl (leb rfl) (leb rfl) ⟨_, rfl, h⟩)
set_option maxRecDepth 20000 in
theorem am_X4_sessionsByTable {G : GG} (hG : G.1.stackTraces = false) {l0 : Nat} {l1 : Int32} {l2 : Int32} {X : XH} {K : Int32 → XH → Prop} {KX : String → XH → Prop} (h : w_X4_sessionsByTable l0 l1 l2 X K KX) : AM G M_X4_sessionsByTable X [.ref l0, .int l1, .int l2] (KxT (KrI K) KX) := AM_of (by decide +kernel) rfl (leb rfl) hG (by
  show AW G M_X4_sessionsByTable 0 [(0, .ref l0), (1, .int l1), (2, .int l2)] [] X 0 0 _
  unfold w_X4_sessionsByTable at h
  refine aw_iload_n 1 dX4_sessionsByTable_0 rfl 1 rfl rfl ?_
  refine aw_iload_n 2 dX4_sessionsByTable_1 rfl 2 rfl rfl ?_
  refine aw_callS (M' := M_X4_checkVoice) 5 150 [.int _, .int _] [] dX4_sessionsByTable_2 lk_RX4_150 ms_X4_checkVoice mp_X4_checkVoice rfl ⟨leb rfl, leb rfl⟩ rfl (leb rfl) (leb rfl) (leb rfl) rfl (am_X4_checkVoice hG h) (kkT (kkV fun X1 h => ?_)) (kxT KrV.no fun E X h => at_out rfl (leb rfl) (leb rfl) (Or.inr ⟨_, rfl, h⟩))
  refine aw_widen (cc' := 2) (ss' := 12) (leb rfl) (leb rfl) ?_
  refine aw_aload_n 6 dX4_sessionsByTable_5 rfl 0 rfl rfl ?_
  refine aw_iload_n 7 dX4_sessionsByTable_6 rfl 1 rfl rfl ?_
  refine aw_iload_n 8 dX4_sessionsByTable_7 rfl 2 rfl rfl ?_
  obtain ⟨g3, h⟩ := h
  refine aw_callV (M' := M_X4_checkPlan) 11 298 4 l0 [.int _, .int _] [] dX4_sessionsByTable_8 lk_RX4_298 mv_X4_checkPlan mp_X4_checkPlan rfl ⟨leb rfl, leb rfl⟩ rfl (ltb rfl) g3 rfl (leb rfl) (leb rfl) (leb rfl) rfl (am_X4_checkPlan hG h) (kkT (kkV fun X2 h => ?_)) (kxT KrV.no fun E X h => at_out rfl (leb rfl) (leb rfl) (Or.inr ⟨_, rfl, h⟩))
  refine aw_widen (cc' := 3) (ss' := 18) (leb rfl) (leb rfl) ?_
  refine aw_aload_n 12 dX4_sessionsByTable_11 rfl 0 rfl rfl ?_
  obtain ⟨g4, h⟩ := h
  obtain ⟨g5, h⟩ := h
  refine aw_getR 15 dX4_sessionsByTable_12 fl_RX4_41 rfl g4 g5 rfl ?_
  obtain ⟨g8, h⟩ := h
  refine aw_callV (M' := M_X2_fillTable) 18 304 2 (hR X2 l0 5) [] [] dX4_sessionsByTable_15 lk_RX4_304 mv_X2_fillTable mp_X2_fillTable rfl ⟨leb rfl, leb rfl⟩ rfl (ltb rfl) g8 rfl (leb rfl) (leb rfl) (leb rfl) rfl (am_X2_fillTable hG h) (kkI fun v7 X6 h => ?_) (kxN KrI.no)
  refine aw_widen (cc' := 3) (ss' := 18) (leb rfl) (leb rfl) ?_
  exact aw_ireturn (ty := .int) dX4_sessionsByTable_18 rfl rfl (leb rfl) (leb rfl) (Or.inl ⟨_, rfl, h⟩))
set_option maxRecDepth 20000 in
theorem am_L_sessionsByTable {G : GG} (hG : G.1.stackTraces = false) {l0 : Nat} {l1 : Int32} {l2 : Int32} {l3 : Nat} {X : XH} {K : Int32 → XH → Prop} (h : w_L_sessionsByTable l0 l1 l2 l3 X K) : AM G M_L_sessionsByTable X [.ref l0, .int l1, .int l2, .ref l3] (KrI K) := AM_ofH (by decide +kernel) (0, 10, 13, 13) [(0, 10, 17, 17)] rfl (leb rfl) hG (by
  show AW G M_L_sessionsByTable 0 [(0, .ref l0), (1, .int l1), (2, .int l2), (3, .ref l3)] [] X 0 0 _
  unfold w_L_sessionsByTable at h
  refine aw_aload_n 1 dL_sessionsByTable_0 rfl 3 rfl rfl ?_
  refine aw_iconst 2 (v := 0) dL_sessionsByTable_1 kI_0 rfl ?_
  refine aw_aload_n 3 dL_sessionsByTable_2 rfl 0 rfl rfl ?_
  refine aw_iload_n 4 dL_sessionsByTable_3 rfl 1 rfl rfl ?_
  refine aw_iload_n 5 dL_sessionsByTable_4 rfl 2 rfl rfl ?_
  obtain ⟨g3, h⟩ := h
  refine aw_callV (M' := M_X4_sessionsByTable) 8 126 4 l0 [.int _, .int _] [.int _, .ref _] dL_sessionsByTable_5 lk_RL_126 mv_X4_sessionsByTable mp_X4_sessionsByTable rfl ⟨leb rfl, leb rfl⟩ rfl (ltb rfl) g3 rfl (leb rfl) (leb rfl) (leb rfl) rfl (am_X4_sessionsByTable hG h) (kkT (kkI fun v2 X1 h => ?_)) (kxT KrI.no fun E X1 h => ?_)
  · refine aw_widen (cc' := 3) (ss' := 18) (leb rfl) (leb rfl) ?_
    refine aw_i2l 9 dL_sessionsByTable_8 rfl ?_
    obtain ⟨g4, h⟩ := h
    obtain ⟨g5, h⟩ := h
    refine aw_lastore 10 dL_sessionsByTable_9 g4 g5 rfl ?_
    refine aw_goto 21 dL_sessionsByTable_10 rfl ?_
    refine aw_iconst 22 (v := 0) dL_sessionsByTable_21 kI_0 rfl ?_
    exact aw_ireturn (ty := .int) dL_sessionsByTable_22 rfl rfl (leb rfl) (leb rfl) ⟨_, rfl, h⟩
  · obtain ⟨hE, h⟩ := h
    rcases hE with rfl | rfl
    · refine aw_atc (lv' := [(0, .ref _), (1, .int _), (2, .int _), (3, .ref _)]) [] (0, 10, 13, 13) [(0, 10, 17, 17)] rfl (fun z hz => nomatch hz) (by decide) (by decide) (tk3 (i := 61) (by decide +kernel) rfl) (by decide) 4 2 15 (Or.inr ⟨dL_sessionsByTable_13, rfl⟩) (ltb rfl) rfl ?_
      refine aw_widen (cc' := 3) (ss' := 18) (leb rfl) (leb rfl) ?_
      replace h := h.1 rfl
      refine aw_iconst 16 (v := 1) dL_sessionsByTable_15 kI_1 rfl ?_
      exact aw_ireturn (ty := .int) dL_sessionsByTable_16 rfl rfl (leb rfl) (leb rfl) ⟨_, rfl, h⟩
    · refine aw_atc (lv' := [(0, .ref _), (1, .int _), (2, .int _), (3, .ref _)]) [(0, 10, 13, 13)] (0, 10, 17, 17) [] rfl (by intro z hz; simp only [List.mem_cons, List.not_mem_nil, or_false] at hz; rcases hz with rfl <;> first | exact ⟨by decide, xcI, tk3 (i := 61) (by decide +kernel) rfl, by decide⟩) (by decide) (by decide) (tk3 (i := 63) (by decide +kernel) rfl) (by decide) 4 2 19 (Or.inr ⟨dL_sessionsByTable_17, rfl⟩) (ltb rfl) rfl ?_
      refine aw_widen (cc' := 3) (ss' := 18) (leb rfl) (leb rfl) ?_
      replace h := h.2 rfl
      refine aw_iconst 20 (v := 2) dL_sessionsByTable_19 kI_2 rfl ?_
      exact aw_ireturn (ty := .int) dL_sessionsByTable_20 rfl rfl (leb rfl) (leb rfl) ⟨_, rfl, h⟩)
set_option maxRecDepth 20000 in
theorem am_X5_sessionsByTable {G : GG} (hG : G.1.stackTraces = false) {l0 : Nat} {l1 : Int32} {l2 : Int32} {X : XH} {K : Int32 → XH → Prop} (h : w_X5_sessionsByTable l0 l1 l2 X K) : AM G M_X5_sessionsByTable X [.ref l0, .int l1, .int l2] (KrI K) := AM_of (by decide +kernel) rfl (leb rfl) hG (by
  show AW G M_X5_sessionsByTable 0 [(0, .ref l0), (1, .int l1), (2, .int l2)] [] X 0 0 _
  unfold w_X5_sessionsByTable at h
  refine aw_aload_n 1 dX5_sessionsByTable_0 rfl 0 rfl rfl ?_
  refine aw_iload_n 2 dX5_sessionsByTable_1 rfl 1 rfl rfl ?_
  refine aw_iload_n 3 dX5_sessionsByTable_2 rfl 2 rfl rfl ?_
  obtain ⟨g3, h⟩ := h
  refine aw_callV (M' := M_X5_inSessions) 6 191 5 l0 [.int _, .int _] [] dX5_sessionsByTable_3 lk_RX5_191 mv_X5_inSessions mp_X5_inSessions rfl ⟨leb rfl, leb rfl⟩ rfl (ltb rfl) g3 rfl (leb rfl) (leb rfl) (leb rfl) rfl (am_X5_inSessions hG h) (kkI fun v2 X1 h => ?_) (kxN KrI.no)
  refine aw_widen (cc' := 0) (ss' := 0) (leb rfl) (leb rfl) ?_
  exact aw_ireturn (ty := .int) dX5_sessionsByTable_6 rfl rfl (leb rfl) (leb rfl) ⟨_, rfl, h⟩)
set_option maxRecDepth 20000 in
theorem aw_X5_many_4 {G : GG} (hG : G.1.stackTraces = false)  {l0 : Nat} {l1 : Int32} {l2 : Int32} {l3 : Int32} {X : XH} {K : Int32 → XH → Prop}  (h : w_X5_many_4  l0 l1 l2 l3 X K) : AW G M_X5_many 4 [(0, .ref l0), (1, .int l1), (2, .int l2), (3, .int l3)] [] X 0 0 (KrI K) :=
  h (fun l0 l1 l2 l3 X => AW G M_X5_many 4 [(0, .ref l0), (1, .int l1), (2, .int l2), (3, .int l3)] [] X 0 0 (KrI K)) (fun l0 l1 l2 l3 X h => by
    refine aw_iload_n 5 dX5_many_4 rfl 3 rfl rfl ?_
    refine aw_aload_n 6 dX5_many_5 rfl 0 rfl rfl ?_
    obtain ⟨g1, h⟩ := h
    obtain ⟨g2, h⟩ := h
    refine aw_getR 9 dX5_many_6 fl_RX5_7 rfl g1 g2 rfl ?_
    refine aw_sipush 12 (v := 366) dX5_many_9 kS_366 rfl ?_
    obtain ⟨g3, h⟩ := h
    obtain ⟨g4, h⟩ := h
    refine aw_iaload 13 dX5_many_12 g3 g4 rfl ?_
    refine aw_icmp_ge 44 16 dX5_many_13 rfl rfl (fun c5 => ?_) (fun c5 => ?_)
    · replace h := h.1 c5
      refine aw_iload_n 45 dX5_many_44 rfl 2 rfl rfl ?_
      exact aw_ireturn (ty := .int) dX5_many_45 rfl rfl (leb rfl) (leb rfl) ⟨_, rfl, h⟩
    · replace h := h.2 c5
      refine aw_iload_n 17 dX5_many_16 rfl 2 rfl rfl ?_
      refine aw_aload_n 18 dX5_many_17 rfl 0 rfl rfl ?_
      refine aw_getR 21 dX5_many_18 fl_RX5_7 rfl g1 g2 rfl ?_
      refine aw_iload_n 22 dX5_many_21 rfl 3 rfl rfl ?_
      refine aw_iconst 23 (v := 0) dX5_many_22 kI_0 rfl ?_
      refine aw_callS (M' := M_X5_at) 26 44 [.int _, .int _] [.ref _, .int _] dX5_many_23 lk_RX5_44 ms_X5_at mp_X5_at rfl ⟨leb rfl, leb rfl⟩ rfl (leb rfl) (leb rfl) (leb rfl) rfl (am_X5_at hG h) (kkI fun v7 X6 h => ?_) (kxN KrI.no)
      refine aw_widen (cc' := 0) (ss' := 0) (leb rfl) (leb rfl) ?_
      obtain ⟨g8, h⟩ := h
      obtain ⟨g9, h⟩ := h
      refine aw_iaload 27 dX5_many_26 g8 g9 rfl ?_
      refine aw_iload_n 28 dX5_many_27 rfl 1 rfl rfl ?_
      refine aw_icmp_ne 35 31 dX5_many_28 rfl rfl (fun c10 => ?_) (fun c10 => ?_)
      · replace h := h.1 c10
        refine aw_iconst 36 (v := 0) dX5_many_35 kI_0 rfl ?_
        refine aw_iadd 37 dX5_many_36 rfl ?_
        refine aw_istore_n 38 (lv' := [(2, _), (0, _), (1, _), (3, _)]) dX5_many_37 rfl (ltb rfl) rfl rfl ?_
        refine aw_iinc 41 (v := 1) (lv' := [(3, _), (2, _), (0, _), (1, _)]) dX5_many_38 3 rfl kI_1 (ltb rfl) rfl rfl ?_
        refine aw_goto 4 dX5_many_41 rfl ?_
        exact aw_pick [2, 3, 1, 0] rfl h
      · replace h := h.2 c10
        refine aw_iconst 32 (v := 1) dX5_many_31 kI_1 rfl ?_
        refine aw_goto 36 dX5_many_32 rfl ?_
        refine aw_iadd 37 dX5_many_36 rfl ?_
        refine aw_istore_n 38 (lv' := [(2, _), (0, _), (1, _), (3, _)]) dX5_many_37 rfl (ltb rfl) rfl rfl ?_
        refine aw_iinc 41 (v := 1) (lv' := [(3, _), (2, _), (0, _), (1, _)]) dX5_many_38 3 rfl kI_1 (ltb rfl) rfl rfl ?_
        refine aw_goto 4 dX5_many_41 rfl ?_
        exact aw_pick [2, 3, 1, 0] rfl h)
set_option maxRecDepth 20000 in
theorem am_X5_many {G : GG} (hG : G.1.stackTraces = false) {l0 : Nat} {l1 : Int32} {X : XH} {K : Int32 → XH → Prop} (h : w_X5_many l0 l1 X K) : AM G M_X5_many X [.ref l0, .int l1] (KrI K) := AM_of (by decide +kernel) rfl (leb rfl) hG (by
  show AW G M_X5_many 0 [(0, .ref l0), (1, .int l1)] [] X 0 0 _
  unfold w_X5_many at h
  refine aw_iconst 1 (v := 0) dX5_many_0 kI_0 rfl ?_
  refine aw_istore_n 2 (lv' := [(2, _), (0, _), (1, _)]) dX5_many_1 rfl (ltb rfl) rfl rfl ?_
  refine aw_iconst 3 (v := 0) dX5_many_2 kI_0 rfl ?_
  refine aw_istore_n 4 (lv' := [(3, _), (2, _), (0, _), (1, _)]) dX5_many_3 rfl (ltb rfl) rfl rfl ?_
  exact aw_pick [2, 3, 1, 0] rfl (aw_X5_many_4 hG  h))
set_option maxRecDepth 20000 in
theorem aw_X5_clausesIn_13 {G : GG} (hG : G.1.stackTraces = false)  {l0 : Nat} {l1 : Int32} {s0 : Nat} {s1 : Int32} {X : XH} {K : Int32 → XH → Prop}  (h : w_X5_clausesIn_13  l0 l1 s0 s1 X K) : AW G M_X5_clausesIn 13 [(0, .ref l0), (1, .int l1)] [.int s1, .ref s0] X 0 0 (KrI K) := by
  unfold w_X5_clausesIn_13 at h
  obtain ⟨g3, h⟩ := h
  refine aw_callV (M' := M_X5_refused) 16 81 5 s0 [.int _] [] dX5_clausesIn_13 lk_RX5_81 mv_X5_refused mp_X5_refused rfl ⟨leb rfl, leb rfl⟩ rfl (ltb rfl) g3 rfl (leb rfl) (leb rfl) (leb rfl) rfl (am_X5_refused hG h) (kkI fun v2 X1 h => ?_) (kxN KrI.no)
  refine aw_widen (cc' := 0) (ss' := 0) (leb rfl) (leb rfl) ?_
  refine aw_if_eq 23 19 dX5_clausesIn_16 rfl rfl (fun c4 => ?_) (fun c4 => ?_)
  · replace h := h.1 c4
    refine aw_aload_n 24 dX5_clausesIn_23 rfl 0 rfl rfl ?_
    refine aw_iload_n 25 dX5_clausesIn_24 rfl 1 rfl rfl ?_
    obtain ⟨g7, h⟩ := h
    refine aw_callV (M' := M_X5_many) 28 194 5 l0 [.int _] [] dX5_clausesIn_25 lk_RX5_194 mv_X5_many mp_X5_many rfl ⟨leb rfl, leb rfl⟩ rfl (ltb rfl) g7 rfl (leb rfl) (leb rfl) (leb rfl) rfl (am_X5_many hG h) (kkI fun v6 X5 h => ?_) (kxN KrI.no)
    refine aw_widen (cc' := 0) (ss' := 0) (leb rfl) (leb rfl) ?_
    exact aw_ireturn (ty := .int) dX5_clausesIn_28 rfl rfl (leb rfl) (leb rfl) ⟨_, rfl, h⟩
  · replace h := h.2 c4
    refine aw_iconst 20 (v := 0) dX5_clausesIn_19 kI_0 rfl ?_
    refine aw_goto 28 dX5_clausesIn_20 rfl ?_
    exact aw_ireturn (ty := .int) dX5_clausesIn_28 rfl rfl (leb rfl) (leb rfl) ⟨_, rfl, h⟩
set_option maxRecDepth 20000 in
theorem am_X5_clausesIn {G : GG} (hG : G.1.stackTraces = false) {l0 : Nat} {l1 : Int32} {X : XH} {K : Int32 → XH → Prop} (h : w_X5_clausesIn l0 l1 X K) : AM G M_X5_clausesIn X [.ref l0, .int l1] (KrI K) := AM_of (by decide +kernel) rfl (leb rfl) hG (by
  show AW G M_X5_clausesIn 0 [(0, .ref l0), (1, .int l1)] [] X 0 0 _
  unfold w_X5_clausesIn at h
  refine aw_aload_n 1 dX5_clausesIn_0 rfl 0 rfl rfl ?_
  refine aw_iload_n 2 dX5_clausesIn_1 rfl 1 rfl rfl ?_
  refine aw_callS (M' := M_X5_isReel) 5 75 [.int _] [.ref _] dX5_clausesIn_2 lk_RX5_75 ms_X5_isReel mp_X5_isReel rfl ⟨leb rfl, leb rfl⟩ rfl (leb rfl) (leb rfl) (leb rfl) rfl (am_X5_isReel hG h) (kkI fun v2 X1 h => ?_) (kxN KrI.no)
  refine aw_widen (cc' := 0) (ss' := 0) (leb rfl) (leb rfl) ?_
  refine aw_if_eq 12 8 dX5_clausesIn_5 rfl rfl (fun c3 => ?_) (fun c3 => ?_)
  · replace h := h.1 c3
    refine aw_iconst 13 (v := 1) dX5_clausesIn_12 kI_1 rfl ?_
    exact aw_pick [0, 1] rfl (aw_X5_clausesIn_13 hG  h)
  · replace h := h.2 c3
    refine aw_iconst 9 (v := 0) dX5_clausesIn_8 kI_0 rfl ?_
    refine aw_goto 13 dX5_clausesIn_9 rfl ?_
    exact aw_pick [0, 1] rfl (aw_X5_clausesIn_13 hG  h))
set_option maxRecDepth 20000 in
theorem aw_X3_lipsOn_4 {G : GG} (hG : G.1.stackTraces = false)  {l0 : Nat} {l1 : Int32} {l2 : Int32} {l3 : Int32} {X : XH} {K : Int32 → XH → Prop}  (h : w_X3_lipsOn_4  l0 l1 l2 l3 X K) : AW G M_X3_lipsOn 4 [(0, .ref l0), (1, .int l1), (2, .int l2), (3, .int l3)] [] X 0 0 (KrI K) :=
  h (fun l0 l1 l2 l3 X => AW G M_X3_lipsOn 4 [(0, .ref l0), (1, .int l1), (2, .int l2), (3, .int l3)] [] X 0 0 (KrI K)) (fun l0 l1 l2 l3 X h => by
    refine aw_iload_n 5 dX3_lipsOn_4 rfl 3 rfl rfl ?_
    refine aw_aload_n 6 dX3_lipsOn_5 rfl 0 rfl rfl ?_
    obtain ⟨g1, h⟩ := h
    refine aw_getI 9 dX3_lipsOn_6 fl_RX3_45 rfl g1 rfl ?_
    refine aw_icmp_ge 35 12 dX3_lipsOn_9 rfl rfl (fun c2 => ?_) (fun c2 => ?_)
    · replace h := h.1 c2
      refine aw_iload_n 36 dX3_lipsOn_35 rfl 2 rfl rfl ?_
      exact aw_ireturn (ty := .int) dX3_lipsOn_36 rfl rfl (leb rfl) (leb rfl) ⟨_, rfl, h⟩
    · replace h := h.2 c2
      refine aw_aload_n 13 dX3_lipsOn_12 rfl 0 rfl rfl ?_
      refine aw_iload_n 14 dX3_lipsOn_13 rfl 3 rfl rfl ?_
      refine aw_callV (M' := M_X3_reelAt) 17 88 3 l0 [.int _] [] dX3_lipsOn_14 lk_RX3_88 mv_X3_reelAt mp_X3_reelAt rfl ⟨leb rfl, leb rfl⟩ rfl (ltb rfl) g1 rfl (leb rfl) (leb rfl) (leb rfl) rfl (am_X3_reelAt hG h) (kkI fun v4 X3 h => ?_) (kxN KrI.no)
      refine aw_widen (cc' := 0) (ss' := 0) (leb rfl) (leb rfl) ?_
      refine aw_iload_n 18 dX3_lipsOn_17 rfl 1 rfl rfl ?_
      refine aw_icmp_ne 29 21 dX3_lipsOn_18 rfl rfl (fun c5 => ?_) (fun c5 => ?_)
      · replace h := h.1 c5
        refine aw_iinc 32 (v := 1) (lv' := [(3, _), (0, _), (1, _), (2, _)]) dX3_lipsOn_29 3 rfl kI_1 (ltb rfl) rfl rfl ?_
        refine aw_goto 4 dX3_lipsOn_32 rfl ?_
        exact aw_pick [1, 2, 3, 0] rfl h
      · replace h := h.2 c5
        refine aw_iload_n 22 dX3_lipsOn_21 rfl 2 rfl rfl ?_
        refine aw_aload_n 23 dX3_lipsOn_22 rfl 0 rfl rfl ?_
        refine aw_iload_n 24 dX3_lipsOn_23 rfl 3 rfl rfl ?_
        obtain ⟨g8, h⟩ := h
        refine aw_callV (M' := M_X3_lipsAt) 27 102 3 l0 [.int _] [.int _] dX3_lipsOn_24 lk_RX3_102 mv_X3_lipsAt mp_X3_lipsAt rfl ⟨leb rfl, leb rfl⟩ rfl (ltb rfl) g8 rfl (leb rfl) (leb rfl) (leb rfl) rfl (am_X3_lipsAt hG h) (kkI fun v7 X6 h => ?_) (kxN KrI.no)
        refine aw_widen (cc' := 0) (ss' := 0) (leb rfl) (leb rfl) ?_
        refine aw_iadd 28 dX3_lipsOn_27 rfl ?_
        refine aw_istore_n 29 (lv' := [(2, _), (0, _), (1, _), (3, _)]) dX3_lipsOn_28 rfl (ltb rfl) rfl rfl ?_
        refine aw_iinc 32 (v := 1) (lv' := [(3, _), (2, _), (0, _), (1, _)]) dX3_lipsOn_29 3 rfl kI_1 (ltb rfl) rfl rfl ?_
        refine aw_goto 4 dX3_lipsOn_32 rfl ?_
        exact aw_pick [2, 3, 1, 0] rfl h)
set_option maxRecDepth 20000 in
theorem am_X3_lipsOn {G : GG} (hG : G.1.stackTraces = false) {l0 : Nat} {l1 : Int32} {X : XH} {K : Int32 → XH → Prop} (h : w_X3_lipsOn l0 l1 X K) : AM G M_X3_lipsOn X [.ref l0, .int l1] (KrI K) := AM_of (by decide +kernel) rfl (leb rfl) hG (by
  show AW G M_X3_lipsOn 0 [(0, .ref l0), (1, .int l1)] [] X 0 0 _
  unfold w_X3_lipsOn at h
  refine aw_iconst 1 (v := 0) dX3_lipsOn_0 kI_0 rfl ?_
  refine aw_istore_n 2 (lv' := [(2, _), (0, _), (1, _)]) dX3_lipsOn_1 rfl (ltb rfl) rfl rfl ?_
  refine aw_iconst 3 (v := 0) dX3_lipsOn_2 kI_0 rfl ?_
  refine aw_istore_n 4 (lv' := [(3, _), (2, _), (0, _), (1, _)]) dX3_lipsOn_3 rfl (ltb rfl) rfl rfl ?_
  exact aw_pick [2, 3, 1, 0] rfl (aw_X3_lipsOn_4 hG  h))
set_option maxRecDepth 20000 in
theorem am_X4_lengthOf {G : GG} (hG : G.1.stackTraces = false) {l0 : Nat} {l1 : Int32} {X : XH} {K : Int32 → XH → Prop} {KX : String → XH → Prop} (h : w_X4_lengthOf l0 l1 X K KX) : AM G M_X4_lengthOf X [.ref l0, .int l1] (KxT (KrI K) KX) := AM_of (by decide +kernel) rfl (leb rfl) hG (by
  show AW G M_X4_lengthOf 0 [(0, .ref l0), (1, .int l1)] [] X 0 0 _
  unfold w_X4_lengthOf at h
  refine aw_iload_n 1 dX4_lengthOf_0 rfl 1 rfl rfl ?_
  refine aw_callS (M' := M_X4_checkReel) 4 45 [.int _] [] dX4_lengthOf_1 lk_RX4_45 ms_X4_checkReel mp_X4_checkReel rfl ⟨leb rfl, leb rfl⟩ rfl (leb rfl) (leb rfl) (leb rfl) rfl (am_X4_checkReel hG h) (kkT (kkV fun X1 h => ?_)) (kxT KrV.no fun E X h => at_out rfl (leb rfl) (leb rfl) (Or.inr ⟨_, rfl, h⟩))
  refine aw_widen (cc' := 1) (ss' := 6) (leb rfl) (leb rfl) ?_
  refine aw_aload_n 5 dX4_lengthOf_4 rfl 0 rfl rfl ?_
  obtain ⟨g2, h⟩ := h
  obtain ⟨g3, h⟩ := h
  refine aw_getR 8 dX4_lengthOf_5 fl_RX4_10 rfl g2 g3 rfl ?_
  refine aw_iload_n 9 dX4_lengthOf_8 rfl 1 rfl rfl ?_
  obtain ⟨g6, h⟩ := h
  refine aw_callV (M' := M_X3_lipsOn) 12 310 3 (hR X1 l0 0) [.int _] [] dX4_lengthOf_9 lk_RX4_310 mv_X3_lipsOn mp_X3_lipsOn rfl ⟨leb rfl, leb rfl⟩ rfl (ltb rfl) g6 rfl (leb rfl) (leb rfl) (leb rfl) rfl (am_X3_lipsOn hG h) (kkI fun v5 X4 h => ?_) (kxN KrI.no)
  refine aw_widen (cc' := 1) (ss' := 6) (leb rfl) (leb rfl) ?_
  exact aw_ireturn (ty := .int) dX4_lengthOf_12 rfl rfl (leb rfl) (leb rfl) (Or.inl ⟨_, rfl, h⟩))
set_option maxRecDepth 20000 in
theorem am_L_lengthOf {G : GG} (hG : G.1.stackTraces = false) {l0 : Nat} {l1 : Int32} {l2 : Nat} {X : XH} {K : Int32 → XH → Prop} (h : w_L_lengthOf l0 l1 l2 X K) : AM G M_L_lengthOf X [.ref l0, .int l1, .ref l2] (KrI K) := AM_ofH (by decide +kernel) (0, 9, 12, 13) [] rfl (leb rfl) hG (by
  show AW G M_L_lengthOf 0 [(0, .ref l0), (1, .int l1), (2, .ref l2)] [] X 0 0 _
  unfold w_L_lengthOf at h
  refine aw_aload_n 1 dL_lengthOf_0 rfl 2 rfl rfl ?_
  refine aw_iconst 2 (v := 0) dL_lengthOf_1 kI_0 rfl ?_
  refine aw_aload_n 3 dL_lengthOf_2 rfl 0 rfl rfl ?_
  refine aw_iload_n 4 dL_lengthOf_3 rfl 1 rfl rfl ?_
  obtain ⟨g3, h⟩ := h
  refine aw_callV (M' := M_X4_lengthOf) 7 132 4 l0 [.int _] [.int _, .ref _] dL_lengthOf_4 lk_RL_132 mv_X4_lengthOf mp_X4_lengthOf rfl ⟨leb rfl, leb rfl⟩ rfl (ltb rfl) g3 rfl (leb rfl) (leb rfl) (leb rfl) rfl (am_X4_lengthOf hG h) (kkT (kkI fun v2 X1 h => ?_)) (kxT KrI.no fun E X1 h => ?_)
  · refine aw_widen (cc' := 1) (ss' := 6) (leb rfl) (leb rfl) ?_
    refine aw_i2l 8 dL_lengthOf_7 rfl ?_
    obtain ⟨g4, h⟩ := h
    obtain ⟨g5, h⟩ := h
    refine aw_lastore 9 dL_lengthOf_8 g4 g5 rfl ?_
    refine aw_goto 15 dL_lengthOf_9 rfl ?_
    refine aw_iconst 16 (v := 0) dL_lengthOf_15 kI_0 rfl ?_
    exact aw_ireturn (ty := .int) dL_lengthOf_16 rfl rfl (leb rfl) (leb rfl) ⟨_, rfl, h⟩
  · obtain ⟨hE, h⟩ := h
    rcases hE with rfl
    refine aw_atc (lv' := [(0, .ref _), (1, .int _), (2, .ref _)]) [] (0, 9, 12, 13) [] rfl (fun z hz => nomatch hz) (by decide) (by decide) (tk3 (i := 61) (by decide +kernel) rfl) (by decide) 3 1 13 (Or.inl ⟨3, rfl, dL_lengthOf_12, rfl⟩) (ltb rfl) rfl ?_
    refine aw_widen (cc' := 1) (ss' := 6) (leb rfl) (leb rfl) ?_
    replace h := h rfl
    refine aw_iconst 14 (v := 1) dL_lengthOf_13 kI_1 rfl ?_
    exact aw_ireturn (ty := .int) dL_lengthOf_14 rfl rfl (leb rfl) (leb rfl) ⟨_, rfl, h⟩)
set_option maxRecDepth 20000 in
theorem aw_X5_long1_4 {G : GG} (hG : G.1.stackTraces = false)  {l0 : Nat} {l1 : Int32} {l2 : Int32} {l3 : Int32} {X : XH} {K : Int32 → XH → Prop}  (h : w_X5_long1_4  l0 l1 l2 l3 X K) : AW G M_X5_long1 4 [(0, .ref l0), (1, .int l1), (2, .int l2), (3, .int l3)] [] X 0 0 (KrI K) :=
  h (fun l0 l1 l2 l3 X => AW G M_X5_long1 4 [(0, .ref l0), (1, .int l1), (2, .int l2), (3, .int l3)] [] X 0 0 (KrI K)) (fun l0 l1 l2 l3 X h => by
    refine aw_iload_n 5 dX5_long1_4 rfl 3 rfl rfl ?_
    refine aw_aload_n 6 dX5_long1_5 rfl 0 rfl rfl ?_
    obtain ⟨g1, h⟩ := h
    obtain ⟨g2, h⟩ := h
    refine aw_getR 9 dX5_long1_6 fl_RX5_7 rfl g1 g2 rfl ?_
    refine aw_sipush 12 (v := 366) dX5_long1_9 kS_366 rfl ?_
    obtain ⟨g3, h⟩ := h
    obtain ⟨g4, h⟩ := h
    refine aw_iaload 13 dX5_long1_12 g3 g4 rfl ?_
    refine aw_icmp_ge 53 16 dX5_long1_13 rfl rfl (fun c5 => ?_) (fun c5 => ?_)
    · replace h := h.1 c5
      refine aw_iload_n 54 dX5_long1_53 rfl 2 rfl rfl ?_
      exact aw_ireturn (ty := .int) dX5_long1_54 rfl rfl (leb rfl) (leb rfl) ⟨_, rfl, h⟩
    · replace h := h.2 c5
      refine aw_iload_n 17 dX5_long1_16 rfl 2 rfl rfl ?_
      refine aw_aload_n 18 dX5_long1_17 rfl 0 rfl rfl ?_
      refine aw_getR 21 dX5_long1_18 fl_RX5_7 rfl g1 g2 rfl ?_
      refine aw_iload_n 22 dX5_long1_21 rfl 3 rfl rfl ?_
      refine aw_iconst 23 (v := 0) dX5_long1_22 kI_0 rfl ?_
      refine aw_callS (M' := M_X5_at) 26 44 [.int _, .int _] [.ref _, .int _] dX5_long1_23 lk_RX5_44 ms_X5_at mp_X5_at rfl ⟨leb rfl, leb rfl⟩ rfl (leb rfl) (leb rfl) (leb rfl) rfl (am_X5_at hG h) (kkI fun v7 X6 h => ?_) (kxN KrI.no)
      refine aw_widen (cc' := 0) (ss' := 0) (leb rfl) (leb rfl) ?_
      obtain ⟨g8, h⟩ := h
      obtain ⟨g9, h⟩ := h
      refine aw_iaload 27 dX5_long1_26 g8 g9 rfl ?_
      refine aw_iload_n 28 dX5_long1_27 rfl 1 rfl rfl ?_
      refine aw_icmp_ne 44 31 dX5_long1_28 rfl rfl (fun c10 => ?_) (fun c10 => ?_)
      · replace h := h.1 c10
        refine aw_iconst 45 (v := 0) dX5_long1_44 kI_0 rfl ?_
        refine aw_iadd 46 dX5_long1_45 rfl ?_
        refine aw_istore_n 47 (lv' := [(2, _), (0, _), (1, _), (3, _)]) dX5_long1_46 rfl (ltb rfl) rfl rfl ?_
        refine aw_iinc 50 (v := 1) (lv' := [(3, _), (2, _), (0, _), (1, _)]) dX5_long1_47 3 rfl kI_1 (ltb rfl) rfl rfl ?_
        refine aw_goto 4 dX5_long1_50 rfl ?_
        exact aw_pick [2, 3, 1, 0] rfl h
      · replace h := h.2 c10
        refine aw_aload_n 32 dX5_long1_31 rfl 0 rfl rfl ?_
        obtain ⟨g11, h⟩ := h
        obtain ⟨g12, h⟩ := h
        refine aw_getR 35 dX5_long1_32 fl_RX5_7 rfl g11 g12 rfl ?_
        refine aw_iload_n 36 dX5_long1_35 rfl 3 rfl rfl ?_
        refine aw_iconst 37 (v := 2) dX5_long1_36 kI_2 rfl ?_
        refine aw_callS (M' := M_X5_at) 40 44 [.int _, .int _] [.ref _, .int _] dX5_long1_37 lk_RX5_44 ms_X5_at mp_X5_at rfl ⟨leb rfl, leb rfl⟩ rfl (leb rfl) (leb rfl) (leb rfl) rfl (am_X5_at hG h) (kkI fun v14 X13 h => ?_) (kxN KrI.no)
        refine aw_widen (cc' := 0) (ss' := 0) (leb rfl) (leb rfl) ?_
        obtain ⟨g15, h⟩ := h
        obtain ⟨g16, h⟩ := h
        refine aw_iaload 41 dX5_long1_40 g15 g16 rfl ?_
        refine aw_goto 45 dX5_long1_41 rfl ?_
        refine aw_iadd 46 dX5_long1_45 rfl ?_
        refine aw_istore_n 47 (lv' := [(2, _), (0, _), (1, _), (3, _)]) dX5_long1_46 rfl (ltb rfl) rfl rfl ?_
        refine aw_iinc 50 (v := 1) (lv' := [(3, _), (2, _), (0, _), (1, _)]) dX5_long1_47 3 rfl kI_1 (ltb rfl) rfl rfl ?_
        refine aw_goto 4 dX5_long1_50 rfl ?_
        exact aw_pick [2, 3, 1, 0] rfl h)
set_option maxRecDepth 20000 in
theorem am_X5_long1 {G : GG} (hG : G.1.stackTraces = false) {l0 : Nat} {l1 : Int32} {X : XH} {K : Int32 → XH → Prop} (h : w_X5_long1 l0 l1 X K) : AM G M_X5_long1 X [.ref l0, .int l1] (KrI K) := AM_of (by decide +kernel) rfl (leb rfl) hG (by
  show AW G M_X5_long1 0 [(0, .ref l0), (1, .int l1)] [] X 0 0 _
  unfold w_X5_long1 at h
  refine aw_iconst 1 (v := 0) dX5_long1_0 kI_0 rfl ?_
  refine aw_istore_n 2 (lv' := [(2, _), (0, _), (1, _)]) dX5_long1_1 rfl (ltb rfl) rfl rfl ?_
  refine aw_iconst 3 (v := 0) dX5_long1_2 kI_0 rfl ?_
  refine aw_istore_n 4 (lv' := [(3, _), (2, _), (0, _), (1, _)]) dX5_long1_3 rfl (ltb rfl) rfl rfl ?_
  exact aw_pick [2, 3, 1, 0] rfl (aw_X5_long1_4 hG  h))
set_option maxRecDepth 20000 in
theorem aw_X5_lengthOf_13 {G : GG} (hG : G.1.stackTraces = false)  {l0 : Nat} {l1 : Int32} {s0 : Nat} {s1 : Int32} {X : XH} {K : Int32 → XH → Prop}  (h : w_X5_lengthOf_13  l0 l1 s0 s1 X K) : AW G M_X5_lengthOf 13 [(0, .ref l0), (1, .int l1)] [.int s1, .ref s0] X 0 0 (KrI K) := by
  unfold w_X5_lengthOf_13 at h
  obtain ⟨g3, h⟩ := h
  refine aw_callV (M' := M_X5_refused) 16 81 5 s0 [.int _] [] dX5_lengthOf_13 lk_RX5_81 mv_X5_refused mp_X5_refused rfl ⟨leb rfl, leb rfl⟩ rfl (ltb rfl) g3 rfl (leb rfl) (leb rfl) (leb rfl) rfl (am_X5_refused hG h) (kkI fun v2 X1 h => ?_) (kxN KrI.no)
  refine aw_widen (cc' := 0) (ss' := 0) (leb rfl) (leb rfl) ?_
  refine aw_if_eq 23 19 dX5_lengthOf_16 rfl rfl (fun c4 => ?_) (fun c4 => ?_)
  · replace h := h.1 c4
    refine aw_aload_n 24 dX5_lengthOf_23 rfl 0 rfl rfl ?_
    refine aw_iload_n 25 dX5_lengthOf_24 rfl 1 rfl rfl ?_
    obtain ⟨g7, h⟩ := h
    refine aw_callV (M' := M_X5_long1) 28 197 5 l0 [.int _] [] dX5_lengthOf_25 lk_RX5_197 mv_X5_long1 mp_X5_long1 rfl ⟨leb rfl, leb rfl⟩ rfl (ltb rfl) g7 rfl (leb rfl) (leb rfl) (leb rfl) rfl (am_X5_long1 hG h) (kkI fun v6 X5 h => ?_) (kxN KrI.no)
    refine aw_widen (cc' := 0) (ss' := 0) (leb rfl) (leb rfl) ?_
    exact aw_ireturn (ty := .int) dX5_lengthOf_28 rfl rfl (leb rfl) (leb rfl) ⟨_, rfl, h⟩
  · replace h := h.2 c4
    refine aw_iconst 20 (v := 0) dX5_lengthOf_19 kI_0 rfl ?_
    refine aw_goto 28 dX5_lengthOf_20 rfl ?_
    exact aw_ireturn (ty := .int) dX5_lengthOf_28 rfl rfl (leb rfl) (leb rfl) ⟨_, rfl, h⟩
set_option maxRecDepth 20000 in
theorem am_X5_lengthOf {G : GG} (hG : G.1.stackTraces = false) {l0 : Nat} {l1 : Int32} {X : XH} {K : Int32 → XH → Prop} (h : w_X5_lengthOf l0 l1 X K) : AM G M_X5_lengthOf X [.ref l0, .int l1] (KrI K) := AM_of (by decide +kernel) rfl (leb rfl) hG (by
  show AW G M_X5_lengthOf 0 [(0, .ref l0), (1, .int l1)] [] X 0 0 _
  unfold w_X5_lengthOf at h
  refine aw_aload_n 1 dX5_lengthOf_0 rfl 0 rfl rfl ?_
  refine aw_iload_n 2 dX5_lengthOf_1 rfl 1 rfl rfl ?_
  refine aw_callS (M' := M_X5_isReel) 5 75 [.int _] [.ref _] dX5_lengthOf_2 lk_RX5_75 ms_X5_isReel mp_X5_isReel rfl ⟨leb rfl, leb rfl⟩ rfl (leb rfl) (leb rfl) (leb rfl) rfl (am_X5_isReel hG h) (kkI fun v2 X1 h => ?_) (kxN KrI.no)
  refine aw_widen (cc' := 0) (ss' := 0) (leb rfl) (leb rfl) ?_
  refine aw_if_eq 12 8 dX5_lengthOf_5 rfl rfl (fun c3 => ?_) (fun c3 => ?_)
  · replace h := h.1 c3
    refine aw_iconst 13 (v := 1) dX5_lengthOf_12 kI_1 rfl ?_
    exact aw_pick [0, 1] rfl (aw_X5_lengthOf_13 hG  h)
  · replace h := h.2 c3
    refine aw_iconst 9 (v := 0) dX5_lengthOf_8 kI_0 rfl ?_
    refine aw_goto 13 dX5_lengthOf_9 rfl ?_
    exact aw_pick [0, 1] rfl (aw_X5_lengthOf_13 hG  h))
set_option maxRecDepth 20000 in
theorem am_X4_speaksIn {G : GG} (hG : G.1.stackTraces = false) {l0 : Nat} {l1 : Int32} {l2 : Int32} {X : XH} {K : Int32 → XH → Prop} {KX : String → XH → Prop} (h : w_X4_speaksIn l0 l1 l2 X K KX) : AM G M_X4_speaksIn X [.ref l0, .int l1, .int l2] (KxT (KrI K) KX) := AM_of (by decide +kernel) rfl (leb rfl) hG (by
  show AW G M_X4_speaksIn 0 [(0, .ref l0), (1, .int l1), (2, .int l2)] [] X 0 0 _
  unfold w_X4_speaksIn at h
  refine aw_iload_n 1 dX4_speaksIn_0 rfl 1 rfl rfl ?_
  refine aw_callS (M' := M_X4_checkState) 4 49 [.int _] [] dX4_speaksIn_1 lk_RX4_49 ms_X4_checkState mp_X4_checkState rfl ⟨leb rfl, leb rfl⟩ rfl (leb rfl) (leb rfl) (leb rfl) rfl (am_X4_checkState hG h) (kkT (kkV fun X1 h => ?_)) (kxT KrV.no fun E X h => at_out rfl (leb rfl) (leb rfl) (Or.inr ⟨_, rfl, h⟩))
  refine aw_widen (cc' := 1) (ss' := 6) (leb rfl) (leb rfl) ?_
  refine aw_iload_n 5 dX4_speaksIn_4 rfl 2 rfl rfl ?_
  refine aw_callS (M' := M_X4_checkReel) 8 45 [.int _] [] dX4_speaksIn_5 lk_RX4_45 ms_X4_checkReel mp_X4_checkReel rfl ⟨leb rfl, leb rfl⟩ rfl (leb rfl) (leb rfl) (leb rfl) rfl (am_X4_checkReel hG h) (kkT (kkV fun X2 h => ?_)) (kxT KrV.no fun E X h => at_out rfl (leb rfl) (leb rfl) (Or.inr ⟨_, rfl, h⟩))
  refine aw_widen (cc' := 2) (ss' := 12) (leb rfl) (leb rfl) ?_
  refine aw_aload_n 9 dX4_speaksIn_8 rfl 0 rfl rfl ?_
  obtain ⟨g3, h⟩ := h
  obtain ⟨g4, h⟩ := h
  refine aw_getR 12 dX4_speaksIn_9 fl_RX4_10 rfl g3 g4 rfl ?_
  refine aw_iload_n 13 dX4_speaksIn_12 rfl 1 rfl rfl ?_
  refine aw_iload_n 14 dX4_speaksIn_13 rfl 2 rfl rfl ?_
  obtain ⟨g7, h⟩ := h
  refine aw_callV (M' := M_X3_isHeardIn) 17 212 3 (hR X2 l0 0) [.int _, .int _] [] dX4_speaksIn_14 lk_RX4_212 mv_X3_isHeardIn mp_X3_isHeardIn rfl ⟨leb rfl, leb rfl⟩ rfl (ltb rfl) g7 rfl (leb rfl) (leb rfl) (leb rfl) rfl (am_X3_isHeardIn hG h) (kkI fun v6 X5 h => ?_) (kxN KrI.no)
  refine aw_widen (cc' := 2) (ss' := 12) (leb rfl) (leb rfl) ?_
  obtain ⟨g8, h⟩ := h
  exact aw_ireturn (ty := .boolean) dX4_speaksIn_17 rfl (narZ g8) (leb rfl) (leb rfl) (Or.inl ⟨_, rfl, h⟩))
set_option maxRecDepth 20000 in
theorem am_L_speaksIn {G : GG} (hG : G.1.stackTraces = false) {l0 : Nat} {l1 : Int32} {l2 : Int32} {l3 : Nat} {X : XH} {K : Int32 → XH → Prop} (h : w_L_speaksIn l0 l1 l2 l3 X K) : AM G M_L_speaksIn X [.ref l0, .int l1, .int l2, .ref l3] (KrI K) := AM_ofH (by decide +kernel) (0, 17, 20, 13) [] rfl (leb rfl) hG (by
  show AW G M_L_speaksIn 0 [(0, .ref l0), (1, .int l1), (2, .int l2), (3, .ref l3)] [] X 0 0 _
  unfold w_L_speaksIn at h
  refine aw_aload_n 1 dL_speaksIn_0 rfl 3 rfl rfl ?_
  refine aw_iconst 2 (v := 0) dL_speaksIn_1 kI_0 rfl ?_
  refine aw_aload_n 3 dL_speaksIn_2 rfl 0 rfl rfl ?_
  refine aw_iload_n 4 dL_speaksIn_3 rfl 1 rfl rfl ?_
  refine aw_iload_n 5 dL_speaksIn_4 rfl 2 rfl rfl ?_
  obtain ⟨g3, h⟩ := h
  refine aw_callV (M' := M_X4_speaksIn) 8 135 4 l0 [.int _, .int _] [.int _, .ref _] dL_speaksIn_5 lk_RL_135 mv_X4_speaksIn mp_X4_speaksIn rfl ⟨leb rfl, leb rfl⟩ rfl (ltb rfl) g3 rfl (leb rfl) (leb rfl) (leb rfl) rfl (am_X4_speaksIn hG h) (kkT (kkI fun v2 X1 h => ?_)) (kxT KrI.no fun E X1 h => ?_)
  · refine aw_widen (cc' := 2) (ss' := 12) (leb rfl) (leb rfl) ?_
    refine aw_if_eq 15 11 dL_speaksIn_8 rfl rfl (fun c4 => ?_) (fun c4 => ?_)
    · replace h := h.1 c4
      refine aw_lconst 16 (v := 0) dL_speaksIn_15 kL_0 rfl ?_
      obtain ⟨g5, h⟩ := h
      obtain ⟨g6, h⟩ := h
      refine aw_lastore 17 dL_speaksIn_16 g5 g6 rfl ?_
      refine aw_goto 24 dL_speaksIn_17 rfl ?_
      refine aw_iconst 25 (v := 0) dL_speaksIn_24 kI_0 rfl ?_
      exact aw_ireturn (ty := .int) dL_speaksIn_25 rfl rfl (leb rfl) (leb rfl) ⟨_, rfl, h⟩
    · replace h := h.2 c4
      refine aw_lconst 12 (v := 1) dL_speaksIn_11 kL_1 rfl ?_
      refine aw_goto 16 dL_speaksIn_12 rfl ?_
      obtain ⟨g7, h⟩ := h
      obtain ⟨g8, h⟩ := h
      refine aw_lastore 17 dL_speaksIn_16 g7 g8 rfl ?_
      refine aw_goto 24 dL_speaksIn_17 rfl ?_
      refine aw_iconst 25 (v := 0) dL_speaksIn_24 kI_0 rfl ?_
      exact aw_ireturn (ty := .int) dL_speaksIn_25 rfl rfl (leb rfl) (leb rfl) ⟨_, rfl, h⟩
  · obtain ⟨hE, h⟩ := h
    rcases hE with rfl
    refine aw_atc (lv' := [(0, .ref _), (1, .int _), (2, .int _), (3, .ref _)]) [] (0, 17, 20, 13) [] rfl (fun z hz => nomatch hz) (by decide) (by decide) (tk3 (i := 61) (by decide +kernel) rfl) (by decide) 4 2 22 (Or.inr ⟨dL_speaksIn_20, rfl⟩) (ltb rfl) rfl ?_
    refine aw_widen (cc' := 2) (ss' := 12) (leb rfl) (leb rfl) ?_
    replace h := h rfl
    refine aw_iconst 23 (v := 1) dL_speaksIn_22 kI_1 rfl ?_
    exact aw_ireturn (ty := .int) dL_speaksIn_23 rfl rfl (leb rfl) (leb rfl) ⟨_, rfl, h⟩)
set_option maxRecDepth 20000 in
theorem aw_X5_speaksIn_20 {G : GG} (hG : G.1.stackTraces = false)  {l0 : Nat} {l1 : Int32} {l2 : Int32} {s0 : Nat} {s1 : Int32} {X : XH} {K : Int32 → XH → Prop}  (h : w_X5_speaksIn_20  l0 l1 l2 s0 s1 X K) : AW G M_X5_speaksIn 20 [(0, .ref l0), (1, .int l1), (2, .int l2)] [.int s1, .ref s0] X 0 0 (KrI K) := by
  unfold w_X5_speaksIn_20 at h
  obtain ⟨g3, h⟩ := h
  refine aw_callV (M' := M_X5_refused) 23 81 5 s0 [.int _] [] dX5_speaksIn_20 lk_RX5_81 mv_X5_refused mp_X5_refused rfl ⟨leb rfl, leb rfl⟩ rfl (ltb rfl) g3 rfl (leb rfl) (leb rfl) (leb rfl) rfl (am_X5_refused hG h) (kkI fun v2 X1 h => ?_) (kxN KrI.no)
  refine aw_widen (cc' := 0) (ss' := 0) (leb rfl) (leb rfl) ?_
  refine aw_if_ne 39 26 dX5_speaksIn_23 rfl rfl (fun c4 => ?_) (fun c4 => ?_)
  · replace h := h.1 c4
    refine aw_iconst 40 (v := 0) dX5_speaksIn_39 kI_0 rfl ?_
    exact aw_ireturn (ty := .boolean) dX5_speaksIn_40 rfl rfl (leb rfl) (leb rfl) ⟨_, rfl, h⟩
  · replace h := h.2 c4
    refine aw_aload_n 27 dX5_speaksIn_26 rfl 0 rfl rfl ?_
    refine aw_iload_n 28 dX5_speaksIn_27 rfl 1 rfl rfl ?_
    refine aw_iload_n 29 dX5_speaksIn_28 rfl 2 rfl rfl ?_
    obtain ⟨g7, h⟩ := h
    refine aw_callV (M' := M_X5_speaks) 32 116 5 l0 [.int _, .int _] [] dX5_speaksIn_29 lk_RX5_116 mv_X5_speaks mp_X5_speaks rfl ⟨leb rfl, leb rfl⟩ rfl (ltb rfl) g7 rfl (leb rfl) (leb rfl) (leb rfl) rfl (am_X5_speaks hG h) (kkI fun v6 X5 h => ?_) (kxN KrI.no)
    refine aw_widen (cc' := 0) (ss' := 0) (leb rfl) (leb rfl) ?_
    refine aw_if_eq 39 35 dX5_speaksIn_32 rfl rfl (fun c8 => ?_) (fun c8 => ?_)
    · replace h := h.1 c8
      refine aw_iconst 40 (v := 0) dX5_speaksIn_39 kI_0 rfl ?_
      exact aw_ireturn (ty := .boolean) dX5_speaksIn_40 rfl rfl (leb rfl) (leb rfl) ⟨_, rfl, h⟩
    · replace h := h.2 c8
      refine aw_iconst 36 (v := 1) dX5_speaksIn_35 kI_1 rfl ?_
      refine aw_goto 40 dX5_speaksIn_36 rfl ?_
      exact aw_ireturn (ty := .boolean) dX5_speaksIn_40 rfl rfl (leb rfl) (leb rfl) ⟨_, rfl, h⟩
set_option maxRecDepth 20000 in
theorem am_X5_speaksIn {G : GG} (hG : G.1.stackTraces = false) {l0 : Nat} {l1 : Int32} {l2 : Int32} {X : XH} {K : Int32 → XH → Prop} (h : w_X5_speaksIn l0 l1 l2 X K) : AM G M_X5_speaksIn X [.ref l0, .int l1, .int l2] (KrI K) := AM_of (by decide +kernel) rfl (leb rfl) hG (by
  show AW G M_X5_speaksIn 0 [(0, .ref l0), (1, .int l1), (2, .int l2)] [] X 0 0 _
  unfold w_X5_speaksIn at h
  refine aw_aload_n 1 dX5_speaksIn_0 rfl 0 rfl rfl ?_
  refine aw_iload_n 2 dX5_speaksIn_1 rfl 1 rfl rfl ?_
  refine aw_callS (M' := M_X5_isState) 5 78 [.int _] [.ref _] dX5_speaksIn_2 lk_RX5_78 ms_X5_isState mp_X5_isState rfl ⟨leb rfl, leb rfl⟩ rfl (leb rfl) (leb rfl) (leb rfl) rfl (am_X5_isState hG h) (kkI fun v2 X1 h => ?_) (kxN KrI.no)
  refine aw_widen (cc' := 0) (ss' := 0) (leb rfl) (leb rfl) ?_
  refine aw_if_eq 19 8 dX5_speaksIn_5 rfl rfl (fun c3 => ?_) (fun c3 => ?_)
  · replace h := h.1 c3
    refine aw_iconst 20 (v := 1) dX5_speaksIn_19 kI_1 rfl ?_
    exact aw_pick [0, 1, 2] rfl (aw_X5_speaksIn_20 hG  h)
  · replace h := h.2 c3
    refine aw_iload_n 9 dX5_speaksIn_8 rfl 2 rfl rfl ?_
    refine aw_callS (M' := M_X5_isReel) 12 75 [.int _] [.ref _] dX5_speaksIn_9 lk_RX5_75 ms_X5_isReel mp_X5_isReel rfl ⟨leb rfl, leb rfl⟩ rfl (leb rfl) (leb rfl) (leb rfl) rfl (am_X5_isReel hG h) (kkI fun v5 X4 h => ?_) (kxN KrI.no)
    refine aw_widen (cc' := 0) (ss' := 0) (leb rfl) (leb rfl) ?_
    refine aw_if_eq 19 15 dX5_speaksIn_12 rfl rfl (fun c6 => ?_) (fun c6 => ?_)
    · replace h := h.1 c6
      refine aw_iconst 20 (v := 1) dX5_speaksIn_19 kI_1 rfl ?_
      exact aw_pick [0, 1, 2] rfl (aw_X5_speaksIn_20 hG  h)
    · replace h := h.2 c6
      refine aw_iconst 16 (v := 0) dX5_speaksIn_15 kI_0 rfl ?_
      refine aw_goto 20 dX5_speaksIn_16 rfl ?_
      exact aw_pick [0, 1, 2] rfl (aw_X5_speaksIn_20 hG  h))
set_option maxRecDepth 20000 in
theorem aw_X5_isComplete_14 {G : GG} (hG : G.1.stackTraces = false)  {l0 : Nat} {l1 : Int32} {l2 : Int32} {s0 : Nat} {s1 : Int32} {X : XH} {K : Int32 → XH → Prop}  (h : w_X5_isComplete_14  l0 l1 l2 s0 s1 X K) : AW G M_X5_isComplete 14 [(0, .ref l0), (1, .int l1), (2, .int l2)] [.int s1, .ref s0] X 0 0 (KrI K) := by
  unfold w_X5_isComplete_14 at h
  obtain ⟨g3, h⟩ := h
  refine aw_callV (M' := M_X5_refused) 17 81 5 s0 [.int _] [] dX5_isComplete_14 lk_RX5_81 mv_X5_refused mp_X5_refused rfl ⟨leb rfl, leb rfl⟩ rfl (ltb rfl) g3 rfl (leb rfl) (leb rfl) (leb rfl) rfl (am_X5_refused hG h) (kkI fun v2 X1 h => ?_) (kxN KrI.no)
  refine aw_widen (cc' := 0) (ss' := 0) (leb rfl) (leb rfl) ?_
  refine aw_if_ne 33 20 dX5_isComplete_17 rfl rfl (fun c4 => ?_) (fun c4 => ?_)
  · replace h := h.1 c4
    refine aw_iconst 34 (v := 0) dX5_isComplete_33 kI_0 rfl ?_
    exact aw_ireturn (ty := .boolean) dX5_isComplete_34 rfl rfl (leb rfl) (leb rfl) ⟨_, rfl, h⟩
  · replace h := h.2 c4
    refine aw_aload_n 21 dX5_isComplete_20 rfl 0 rfl rfl ?_
    refine aw_iload_n 22 dX5_isComplete_21 rfl 1 rfl rfl ?_
    refine aw_iload_n 23 dX5_isComplete_22 rfl 2 rfl rfl ?_
    obtain ⟨g7, h⟩ := h
    refine aw_callV (M' := M_X5_complete) 26 113 5 l0 [.int _, .int _] [] dX5_isComplete_23 lk_RX5_113 mv_X5_complete mp_X5_complete rfl ⟨leb rfl, leb rfl⟩ rfl (ltb rfl) g7 rfl (leb rfl) (leb rfl) (leb rfl) rfl (am_X5_complete hG h) (kkI fun v6 X5 h => ?_) (kxN KrI.no)
    refine aw_widen (cc' := 0) (ss' := 0) (leb rfl) (leb rfl) ?_
    refine aw_if_eq 33 29 dX5_isComplete_26 rfl rfl (fun c8 => ?_) (fun c8 => ?_)
    · replace h := h.1 c8
      refine aw_iconst 34 (v := 0) dX5_isComplete_33 kI_0 rfl ?_
      exact aw_ireturn (ty := .boolean) dX5_isComplete_34 rfl rfl (leb rfl) (leb rfl) ⟨_, rfl, h⟩
    · replace h := h.2 c8
      refine aw_iconst 30 (v := 1) dX5_isComplete_29 kI_1 rfl ?_
      refine aw_goto 34 dX5_isComplete_30 rfl ?_
      exact aw_ireturn (ty := .boolean) dX5_isComplete_34 rfl rfl (leb rfl) (leb rfl) ⟨_, rfl, h⟩
set_option maxRecDepth 20000 in
theorem am_X5_isComplete {G : GG} (hG : G.1.stackTraces = false) {l0 : Nat} {l1 : Int32} {l2 : Int32} {X : XH} {K : Int32 → XH → Prop} (h : w_X5_isComplete l0 l1 l2 X K) : AM G M_X5_isComplete X [.ref l0, .int l1, .int l2] (KrI K) := AM_of (by decide +kernel) rfl (leb rfl) hG (by
  show AW G M_X5_isComplete 0 [(0, .ref l0), (1, .int l1), (2, .int l2)] [] X 0 0 _
  unfold w_X5_isComplete at h
  refine aw_aload_n 1 dX5_isComplete_0 rfl 0 rfl rfl ?_
  refine aw_iload_n 2 dX5_isComplete_1 rfl 1 rfl rfl ?_
  refine aw_iload_n 3 dX5_isComplete_2 rfl 2 rfl rfl ?_
  refine aw_callS (M' := M_X5_isPlace) 6 107 [.int _, .int _] [.ref _] dX5_isComplete_3 lk_RX5_107 ms_X5_isPlace mp_X5_isPlace rfl ⟨leb rfl, leb rfl⟩ rfl (leb rfl) (leb rfl) (leb rfl) rfl (am_X5_isPlace hG h) (kkI fun v2 X1 h => ?_) (kxN KrI.no)
  refine aw_widen (cc' := 0) (ss' := 0) (leb rfl) (leb rfl) ?_
  refine aw_if_eq 13 9 dX5_isComplete_6 rfl rfl (fun c3 => ?_) (fun c3 => ?_)
  · replace h := h.1 c3
    refine aw_iconst 14 (v := 1) dX5_isComplete_13 kI_1 rfl ?_
    exact aw_pick [0, 1, 2] rfl (aw_X5_isComplete_14 hG  h)
  · replace h := h.2 c3
    refine aw_iconst 10 (v := 0) dX5_isComplete_9 kI_0 rfl ?_
    refine aw_goto 14 dX5_isComplete_10 rfl ?_
    exact aw_pick [0, 1, 2] rfl (aw_X5_isComplete_14 hG  h))
set_option maxRecDepth 20000 in
theorem aw_X5_isMixed_14 {G : GG} (hG : G.1.stackTraces = false)  {l0 : Nat} {l1 : Int32} {l2 : Int32} {s0 : Nat} {s1 : Int32} {X : XH} {K : Int32 → XH → Prop}  (h : w_X5_isMixed_14  l0 l1 l2 s0 s1 X K) : AW G M_X5_isMixed 14 [(0, .ref l0), (1, .int l1), (2, .int l2)] [.int s1, .ref s0] X 0 0 (KrI K) := by
  unfold w_X5_isMixed_14 at h
  obtain ⟨g3, h⟩ := h
  refine aw_callV (M' := M_X5_refused) 17 81 5 s0 [.int _] [] dX5_isMixed_14 lk_RX5_81 mv_X5_refused mp_X5_refused rfl ⟨leb rfl, leb rfl⟩ rfl (ltb rfl) g3 rfl (leb rfl) (leb rfl) (leb rfl) rfl (am_X5_refused hG h) (kkI fun v2 X1 h => ?_) (kxN KrI.no)
  refine aw_widen (cc' := 0) (ss' := 0) (leb rfl) (leb rfl) ?_
  refine aw_if_ne 33 20 dX5_isMixed_17 rfl rfl (fun c4 => ?_) (fun c4 => ?_)
  · replace h := h.1 c4
    refine aw_iconst 34 (v := 0) dX5_isMixed_33 kI_0 rfl ?_
    exact aw_ireturn (ty := .boolean) dX5_isMixed_34 rfl rfl (leb rfl) (leb rfl) ⟨_, rfl, h⟩
  · replace h := h.2 c4
    refine aw_aload_n 21 dX5_isMixed_20 rfl 0 rfl rfl ?_
    refine aw_iload_n 22 dX5_isMixed_21 rfl 1 rfl rfl ?_
    refine aw_iload_n 23 dX5_isMixed_22 rfl 2 rfl rfl ?_
    obtain ⟨g7, h⟩ := h
    refine aw_callV (M' := M_X5_mixed) 26 110 5 l0 [.int _, .int _] [] dX5_isMixed_23 lk_RX5_110 mv_X5_mixed mp_X5_mixed rfl ⟨leb rfl, leb rfl⟩ rfl (ltb rfl) g7 rfl (leb rfl) (leb rfl) (leb rfl) rfl (am_X5_mixed hG h) (kkI fun v6 X5 h => ?_) (kxN KrI.no)
    refine aw_widen (cc' := 0) (ss' := 0) (leb rfl) (leb rfl) ?_
    refine aw_if_eq 33 29 dX5_isMixed_26 rfl rfl (fun c8 => ?_) (fun c8 => ?_)
    · replace h := h.1 c8
      refine aw_iconst 34 (v := 0) dX5_isMixed_33 kI_0 rfl ?_
      exact aw_ireturn (ty := .boolean) dX5_isMixed_34 rfl rfl (leb rfl) (leb rfl) ⟨_, rfl, h⟩
    · replace h := h.2 c8
      refine aw_iconst 30 (v := 1) dX5_isMixed_29 kI_1 rfl ?_
      refine aw_goto 34 dX5_isMixed_30 rfl ?_
      exact aw_ireturn (ty := .boolean) dX5_isMixed_34 rfl rfl (leb rfl) (leb rfl) ⟨_, rfl, h⟩
set_option maxRecDepth 20000 in
theorem am_X5_isMixed {G : GG} (hG : G.1.stackTraces = false) {l0 : Nat} {l1 : Int32} {l2 : Int32} {X : XH} {K : Int32 → XH → Prop} (h : w_X5_isMixed l0 l1 l2 X K) : AM G M_X5_isMixed X [.ref l0, .int l1, .int l2] (KrI K) := AM_of (by decide +kernel) rfl (leb rfl) hG (by
  show AW G M_X5_isMixed 0 [(0, .ref l0), (1, .int l1), (2, .int l2)] [] X 0 0 _
  unfold w_X5_isMixed at h
  refine aw_aload_n 1 dX5_isMixed_0 rfl 0 rfl rfl ?_
  refine aw_iload_n 2 dX5_isMixed_1 rfl 1 rfl rfl ?_
  refine aw_iload_n 3 dX5_isMixed_2 rfl 2 rfl rfl ?_
  refine aw_callS (M' := M_X5_isPlace) 6 107 [.int _, .int _] [.ref _] dX5_isMixed_3 lk_RX5_107 ms_X5_isPlace mp_X5_isPlace rfl ⟨leb rfl, leb rfl⟩ rfl (leb rfl) (leb rfl) (leb rfl) rfl (am_X5_isPlace hG h) (kkI fun v2 X1 h => ?_) (kxN KrI.no)
  refine aw_widen (cc' := 0) (ss' := 0) (leb rfl) (leb rfl) ?_
  refine aw_if_eq 13 9 dX5_isMixed_6 rfl rfl (fun c3 => ?_) (fun c3 => ?_)
  · replace h := h.1 c3
    refine aw_iconst 14 (v := 1) dX5_isMixed_13 kI_1 rfl ?_
    exact aw_pick [0, 1, 2] rfl (aw_X5_isMixed_14 hG  h)
  · replace h := h.2 c3
    refine aw_iconst 10 (v := 0) dX5_isMixed_9 kI_0 rfl ?_
    refine aw_goto 14 dX5_isMixed_10 rfl ?_
    exact aw_pick [0, 1, 2] rfl (aw_X5_isMixed_14 hG  h))
set_option maxRecDepth 20000 in
theorem aw_X5_hasSigned_21 {G : GG} (hG : G.1.stackTraces = false)  {l0 : Nat} {l1 : Int32} {l2 : Int32} {l3 : Int32} {s0 : Nat} {s1 : Int32} {X : XH} {K : Int32 → XH → Prop}  (h : w_X5_hasSigned_21  l0 l1 l2 l3 s0 s1 X K) : AW G M_X5_hasSigned 21 [(0, .ref l0), (1, .int l1), (2, .int l2), (3, .int l3)] [.int s1, .ref s0] X 0 0 (KrI K) := by
  unfold w_X5_hasSigned_21 at h
  obtain ⟨g3, h⟩ := h
  refine aw_callV (M' := M_X5_refused) 24 81 5 s0 [.int _] [] dX5_hasSigned_21 lk_RX5_81 mv_X5_refused mp_X5_refused rfl ⟨leb rfl, leb rfl⟩ rfl (ltb rfl) g3 rfl (leb rfl) (leb rfl) (leb rfl) rfl (am_X5_refused hG h) (kkI fun v2 X1 h => ?_) (kxN KrI.no)
  refine aw_widen (cc' := 0) (ss' := 0) (leb rfl) (leb rfl) ?_
  refine aw_if_ne 41 27 dX5_hasSigned_24 rfl rfl (fun c4 => ?_) (fun c4 => ?_)
  · replace h := h.1 c4
    refine aw_iconst 42 (v := 0) dX5_hasSigned_41 kI_0 rfl ?_
    exact aw_ireturn (ty := .boolean) dX5_hasSigned_42 rfl rfl (leb rfl) (leb rfl) ⟨_, rfl, h⟩
  · replace h := h.2 c4
    refine aw_aload_n 28 dX5_hasSigned_27 rfl 0 rfl rfl ?_
    refine aw_iload_n 29 dX5_hasSigned_28 rfl 1 rfl rfl ?_
    refine aw_iload_n 30 dX5_hasSigned_29 rfl 2 rfl rfl ?_
    refine aw_iload_n 31 dX5_hasSigned_30 rfl 3 rfl rfl ?_
    obtain ⟨g7, h⟩ := h
    refine aw_callV (M' := M_X5_signed) 34 119 5 l0 [.int _, .int _, .int _] [] dX5_hasSigned_31 lk_RX5_119 mv_X5_signed mp_X5_signed rfl ⟨leb rfl, leb rfl⟩ rfl (ltb rfl) g7 rfl (leb rfl) (leb rfl) (leb rfl) rfl (am_X5_signed hG h) (kkI fun v6 X5 h => ?_) (kxN KrI.no)
    refine aw_widen (cc' := 0) (ss' := 0) (leb rfl) (leb rfl) ?_
    refine aw_if_eq 41 37 dX5_hasSigned_34 rfl rfl (fun c8 => ?_) (fun c8 => ?_)
    · replace h := h.1 c8
      refine aw_iconst 42 (v := 0) dX5_hasSigned_41 kI_0 rfl ?_
      exact aw_ireturn (ty := .boolean) dX5_hasSigned_42 rfl rfl (leb rfl) (leb rfl) ⟨_, rfl, h⟩
    · replace h := h.2 c8
      refine aw_iconst 38 (v := 1) dX5_hasSigned_37 kI_1 rfl ?_
      refine aw_goto 42 dX5_hasSigned_38 rfl ?_
      exact aw_ireturn (ty := .boolean) dX5_hasSigned_42 rfl rfl (leb rfl) (leb rfl) ⟨_, rfl, h⟩
set_option maxRecDepth 20000 in
theorem am_X5_hasSigned {G : GG} (hG : G.1.stackTraces = false) {l0 : Nat} {l1 : Int32} {l2 : Int32} {l3 : Int32} {X : XH} {K : Int32 → XH → Prop} (h : w_X5_hasSigned l0 l1 l2 l3 X K) : AM G M_X5_hasSigned X [.ref l0, .int l1, .int l2, .int l3] (KrI K) := AM_of (by decide +kernel) rfl (leb rfl) hG (by
  show AW G M_X5_hasSigned 0 [(0, .ref l0), (1, .int l1), (2, .int l2), (3, .int l3)] [] X 0 0 _
  unfold w_X5_hasSigned at h
  refine aw_aload_n 1 dX5_hasSigned_0 rfl 0 rfl rfl ?_
  refine aw_iload_n 2 dX5_hasSigned_1 rfl 1 rfl rfl ?_
  refine aw_callS (M' := M_X5_isState) 5 78 [.int _] [.ref _] dX5_hasSigned_2 lk_RX5_78 ms_X5_isState mp_X5_isState rfl ⟨leb rfl, leb rfl⟩ rfl (leb rfl) (leb rfl) (leb rfl) rfl (am_X5_isState hG h) (kkI fun v2 X1 h => ?_) (kxN KrI.no)
  refine aw_widen (cc' := 0) (ss' := 0) (leb rfl) (leb rfl) ?_
  refine aw_if_eq 20 8 dX5_hasSigned_5 rfl rfl (fun c3 => ?_) (fun c3 => ?_)
  · replace h := h.1 c3
    refine aw_iconst 21 (v := 1) dX5_hasSigned_20 kI_1 rfl ?_
    exact aw_pick [0, 1, 2, 3] rfl (aw_X5_hasSigned_21 hG  h)
  · replace h := h.2 c3
    refine aw_iload_n 9 dX5_hasSigned_8 rfl 2 rfl rfl ?_
    refine aw_iload_n 10 dX5_hasSigned_9 rfl 3 rfl rfl ?_
    refine aw_callS (M' := M_X5_isPlace) 13 107 [.int _, .int _] [.ref _] dX5_hasSigned_10 lk_RX5_107 ms_X5_isPlace mp_X5_isPlace rfl ⟨leb rfl, leb rfl⟩ rfl (leb rfl) (leb rfl) (leb rfl) rfl (am_X5_isPlace hG h) (kkI fun v5 X4 h => ?_) (kxN KrI.no)
    refine aw_widen (cc' := 0) (ss' := 0) (leb rfl) (leb rfl) ?_
    refine aw_if_eq 20 16 dX5_hasSigned_13 rfl rfl (fun c6 => ?_) (fun c6 => ?_)
    · replace h := h.1 c6
      refine aw_iconst 21 (v := 1) dX5_hasSigned_20 kI_1 rfl ?_
      exact aw_pick [0, 1, 2, 3] rfl (aw_X5_hasSigned_21 hG  h)
    · replace h := h.2 c6
      refine aw_iconst 17 (v := 0) dX5_hasSigned_16 kI_0 rfl ?_
      refine aw_goto 21 dX5_hasSigned_17 rfl ?_
      exact aw_pick [0, 1, 2, 3] rfl (aw_X5_hasSigned_21 hG  h))
set_option maxRecDepth 20000 in
theorem am_X3_signaturesAt {G : GG} (hG : G.1.stackTraces = false) {l0 : Nat} {l1 : Int32} {l2 : Int32} {X : XH} {K : Int32 → XH → Prop} (h : w_X3_signaturesAt l0 l1 l2 X K) : AM G M_X3_signaturesAt X [.ref l0, .int l1, .int l2] (KrI K) := AM_of (by decide +kernel) rfl (leb rfl) hG (by
  show AW G M_X3_signaturesAt 0 [(0, .ref l0), (1, .int l1), (2, .int l2)] [] X 0 0 _
  unfold w_X3_signaturesAt at h
  refine aw_aload_n 1 dX3_signaturesAt_0 rfl 0 rfl rfl ?_
  obtain ⟨g1, h⟩ := h
  obtain ⟨g2, h⟩ := h
  refine aw_getR 4 dX3_signaturesAt_1 fl_RX3_42 rfl g1 g2 rfl ?_
  refine aw_iload_n 5 dX3_signaturesAt_4 rfl 1 rfl rfl ?_
  refine aw_iload_n 6 dX3_signaturesAt_5 rfl 2 rfl rfl ?_
  refine aw_callS (M' := M_X3_place) 9 73 [.int _, .int _] [.ref _] dX3_signaturesAt_6 lk_RX3_73 ms_X3_place mp_X3_place rfl ⟨leb rfl, leb rfl⟩ rfl (leb rfl) (leb rfl) (leb rfl) rfl (am_X3_place hG h) (kkI fun v4 X3 h => ?_) (kxN KrI.no)
  refine aw_widen (cc' := 0) (ss' := 0) (leb rfl) (leb rfl) ?_
  refine aw_callSN (M' := M_X4_at) 12 81 [.ref _, .int _] [] dX3_signaturesAt_9 (by decide) ms_X4_at mp_X4_at rfl ⟨leb rfl, leb rfl⟩ rfl (leb rfl) (leb rfl) (leb rfl) rfl (am_X4_at hG h) (kkI fun v6 X5 h => ?_) KrI.no
  refine aw_widen (cc' := 0) (ss' := 0) (leb rfl) (leb rfl) ?_
  refine aw_callS (M' := M_J6_bitCount_0f7a4) 15 151 [.int _] [] dX3_signaturesAt_12 lk_RX3_151 ms_J6_bitCount_0f7a4 mp_J6_bitCount_0f7a4 rfl ⟨leb rfl, leb rfl⟩ rfl (leb rfl) (leb rfl) (leb rfl) rfl (am_J6_bitCount_0f7a4 hG h) (kkI fun v8 X7 h => ?_) (kxN KrI.no)
  refine aw_widen (cc' := 0) (ss' := 0) (leb rfl) (leb rfl) ?_
  exact aw_ireturn (ty := .int) dX3_signaturesAt_15 rfl rfl (leb rfl) (leb rfl) ⟨_, rfl, h⟩)
set_option maxRecDepth 20000 in
theorem am_X4_signaturesOn {G : GG} (hG : G.1.stackTraces = false) {l0 : Nat} {l1 : Int32} {l2 : Int32} {X : XH} {K : Int32 → XH → Prop} {KX : String → XH → Prop} (h : w_X4_signaturesOn l0 l1 l2 X K KX) : AM G M_X4_signaturesOn X [.ref l0, .int l1, .int l2] (KxT (KrI K) KX) := AM_of (by decide +kernel) rfl (leb rfl) hG (by
  show AW G M_X4_signaturesOn 0 [(0, .ref l0), (1, .int l1), (2, .int l2)] [] X 0 0 _
  unfold w_X4_signaturesOn at h
  refine aw_iload_n 1 dX4_signaturesOn_0 rfl 1 rfl rfl ?_
  refine aw_callS (M' := M_X4_checkReel) 4 45 [.int _] [] dX4_signaturesOn_1 lk_RX4_45 ms_X4_checkReel mp_X4_checkReel rfl ⟨leb rfl, leb rfl⟩ rfl (leb rfl) (leb rfl) (leb rfl) rfl (am_X4_checkReel hG h) (kkT (kkV fun X1 h => ?_)) (kxT KrV.no fun E X h => at_out rfl (leb rfl) (leb rfl) (Or.inr ⟨_, rfl, h⟩))
  refine aw_widen (cc' := 1) (ss' := 6) (leb rfl) (leb rfl) ?_
  refine aw_iload_n 5 dX4_signaturesOn_4 rfl 2 rfl rfl ?_
  refine aw_callS (M' := M_X4_checkTongue) 8 195 [.int _] [] dX4_signaturesOn_5 lk_RX4_195 ms_X4_checkTongue mp_X4_checkTongue rfl ⟨leb rfl, leb rfl⟩ rfl (leb rfl) (leb rfl) (leb rfl) rfl (am_X4_checkTongue hG h) (kkT (kkV fun X2 h => ?_)) (kxT KrV.no fun E X h => at_out rfl (leb rfl) (leb rfl) (Or.inr ⟨_, rfl, h⟩))
  refine aw_widen (cc' := 2) (ss' := 12) (leb rfl) (leb rfl) ?_
  refine aw_aload_n 9 dX4_signaturesOn_8 rfl 0 rfl rfl ?_
  obtain ⟨g3, h⟩ := h
  obtain ⟨g4, h⟩ := h
  refine aw_getR 12 dX4_signaturesOn_9 fl_RX4_10 rfl g3 g4 rfl ?_
  refine aw_iload_n 13 dX4_signaturesOn_12 rfl 1 rfl rfl ?_
  refine aw_iload_n 14 dX4_signaturesOn_13 rfl 2 rfl rfl ?_
  obtain ⟨g7, h⟩ := h
  refine aw_callV (M' := M_X3_signaturesAt) 17 313 3 (hR X2 l0 0) [.int _, .int _] [] dX4_signaturesOn_14 lk_RX4_313 mv_X3_signaturesAt mp_X3_signaturesAt rfl ⟨leb rfl, leb rfl⟩ rfl (ltb rfl) g7 rfl (leb rfl) (leb rfl) (leb rfl) rfl (am_X3_signaturesAt hG h) (kkI fun v6 X5 h => ?_) (kxN KrI.no)
  refine aw_widen (cc' := 2) (ss' := 12) (leb rfl) (leb rfl) ?_
  exact aw_ireturn (ty := .int) dX4_signaturesOn_17 rfl rfl (leb rfl) (leb rfl) (Or.inl ⟨_, rfl, h⟩))
set_option maxRecDepth 20000 in
theorem am_L_signaturesOn {G : GG} (hG : G.1.stackTraces = false) {l0 : Nat} {l1 : Int32} {l2 : Int32} {l3 : Nat} {X : XH} {K : Int32 → XH → Prop} (h : w_L_signaturesOn l0 l1 l2 l3 X K) : AM G M_L_signaturesOn X [.ref l0, .int l1, .int l2, .ref l3] (KrI K) := AM_ofH (by decide +kernel) (0, 10, 13, 13) [] rfl (leb rfl) hG (by
  show AW G M_L_signaturesOn 0 [(0, .ref l0), (1, .int l1), (2, .int l2), (3, .ref l3)] [] X 0 0 _
  unfold w_L_signaturesOn at h
  refine aw_aload_n 1 dL_signaturesOn_0 rfl 3 rfl rfl ?_
  refine aw_iconst 2 (v := 0) dL_signaturesOn_1 kI_0 rfl ?_
  refine aw_aload_n 3 dL_signaturesOn_2 rfl 0 rfl rfl ?_
  refine aw_iload_n 4 dL_signaturesOn_3 rfl 1 rfl rfl ?_
  refine aw_iload_n 5 dL_signaturesOn_4 rfl 2 rfl rfl ?_
  obtain ⟨g3, h⟩ := h
  refine aw_callV (M' := M_X4_signaturesOn) 8 148 4 l0 [.int _, .int _] [.int _, .ref _] dL_signaturesOn_5 lk_RL_148 mv_X4_signaturesOn mp_X4_signaturesOn rfl ⟨leb rfl, leb rfl⟩ rfl (ltb rfl) g3 rfl (leb rfl) (leb rfl) (leb rfl) rfl (am_X4_signaturesOn hG h) (kkT (kkI fun v2 X1 h => ?_)) (kxT KrI.no fun E X1 h => ?_)
  · refine aw_widen (cc' := 2) (ss' := 12) (leb rfl) (leb rfl) ?_
    refine aw_i2l 9 dL_signaturesOn_8 rfl ?_
    obtain ⟨g4, h⟩ := h
    obtain ⟨g5, h⟩ := h
    refine aw_lastore 10 dL_signaturesOn_9 g4 g5 rfl ?_
    refine aw_goto 17 dL_signaturesOn_10 rfl ?_
    refine aw_iconst 18 (v := 0) dL_signaturesOn_17 kI_0 rfl ?_
    exact aw_ireturn (ty := .int) dL_signaturesOn_18 rfl rfl (leb rfl) (leb rfl) ⟨_, rfl, h⟩
  · obtain ⟨hE, h⟩ := h
    rcases hE with rfl
    refine aw_atc (lv' := [(0, .ref _), (1, .int _), (2, .int _), (3, .ref _)]) [] (0, 10, 13, 13) [] rfl (fun z hz => nomatch hz) (by decide) (by decide) (tk3 (i := 61) (by decide +kernel) rfl) (by decide) 4 2 15 (Or.inr ⟨dL_signaturesOn_13, rfl⟩) (ltb rfl) rfl ?_
    refine aw_widen (cc' := 2) (ss' := 12) (leb rfl) (leb rfl) ?_
    replace h := h rfl
    refine aw_iconst 16 (v := 1) dL_signaturesOn_15 kI_1 rfl ?_
    exact aw_ireturn (ty := .int) dL_signaturesOn_16 rfl rfl (leb rfl) (leb rfl) ⟨_, rfl, h⟩)
set_option maxRecDepth 20000 in
theorem aw_X5_signatures_5 {G : GG} (hG : G.1.stackTraces = false)  {l0 : Nat} {l1 : Int32} {l2 : Int32} {l3 : Int32} {l4 : Int32} {X : XH} {K : Int32 → XH → Prop}  (h : w_X5_signatures_5  l0 l1 l2 l3 l4 X K) : AW G M_X5_signatures 5 [(0, .ref l0), (1, .int l1), (2, .int l2), (3, .int l3), (4, .int l4)] [] X 0 0 (KrI K) :=
  h (fun l0 l1 l2 l3 l4 X => AW G M_X5_signatures 5 [(0, .ref l0), (1, .int l1), (2, .int l2), (3, .int l3), (4, .int l4)] [] X 0 0 (KrI K)) (fun l0 l1 l2 l3 l4 X h => by
    refine aw_iload 7 dX5_signatures_5 4 rfl rfl ?_
    refine aw_iconst 8 (v := 5) dX5_signatures_7 kI_5 rfl ?_
    refine aw_icmp_ge 36 11 dX5_signatures_8 rfl rfl (fun c1 => ?_) (fun c1 => ?_)
    · replace h := h.1 c1
      refine aw_iload_n 37 dX5_signatures_36 rfl 3 rfl rfl ?_
      exact aw_ireturn (ty := .int) dX5_signatures_37 rfl rfl (leb rfl) (leb rfl) ⟨_, rfl, h⟩
    · replace h := h.2 c1
      refine aw_iload_n 12 dX5_signatures_11 rfl 3 rfl rfl ?_
      refine aw_aload_n 13 dX5_signatures_12 rfl 0 rfl rfl ?_
      refine aw_iload 15 dX5_signatures_13 4 rfl rfl ?_
      refine aw_iload_n 16 dX5_signatures_15 rfl 1 rfl rfl ?_
      refine aw_iload_n 17 dX5_signatures_16 rfl 2 rfl rfl ?_
      obtain ⟨g4, h⟩ := h
      refine aw_callV (M' := M_X5_signed) 20 119 5 l0 [.int _, .int _, .int _] [.int _] dX5_signatures_17 lk_RX5_119 mv_X5_signed mp_X5_signed rfl ⟨leb rfl, leb rfl⟩ rfl (ltb rfl) g4 rfl (leb rfl) (leb rfl) (leb rfl) rfl (am_X5_signed hG h) (kkI fun v3 X2 h => ?_) (kxN KrI.no)
      refine aw_widen (cc' := 0) (ss' := 0) (leb rfl) (leb rfl) ?_
      refine aw_if_eq 27 23 dX5_signatures_20 rfl rfl (fun c5 => ?_) (fun c5 => ?_)
      · replace h := h.1 c5
        refine aw_iconst 28 (v := 0) dX5_signatures_27 kI_0 rfl ?_
        refine aw_iadd 29 dX5_signatures_28 rfl ?_
        refine aw_istore_n 30 (lv' := [(3, _), (0, _), (1, _), (2, _), (4, _)]) dX5_signatures_29 rfl (ltb rfl) rfl rfl ?_
        refine aw_iinc 33 (v := 1) (lv' := [(4, _), (3, _), (0, _), (1, _), (2, _)]) dX5_signatures_30 4 rfl kI_1 (ltb rfl) rfl rfl ?_
        refine aw_goto 5 dX5_signatures_33 rfl ?_
        exact aw_pick [2, 3, 4, 1, 0] rfl h
      · replace h := h.2 c5
        refine aw_iconst 24 (v := 1) dX5_signatures_23 kI_1 rfl ?_
        refine aw_goto 28 dX5_signatures_24 rfl ?_
        refine aw_iadd 29 dX5_signatures_28 rfl ?_
        refine aw_istore_n 30 (lv' := [(3, _), (0, _), (1, _), (2, _), (4, _)]) dX5_signatures_29 rfl (ltb rfl) rfl rfl ?_
        refine aw_iinc 33 (v := 1) (lv' := [(4, _), (3, _), (0, _), (1, _), (2, _)]) dX5_signatures_30 4 rfl kI_1 (ltb rfl) rfl rfl ?_
        refine aw_goto 5 dX5_signatures_33 rfl ?_
        exact aw_pick [2, 3, 4, 1, 0] rfl h)
set_option maxRecDepth 20000 in
theorem am_X5_signatures {G : GG} (hG : G.1.stackTraces = false) {l0 : Nat} {l1 : Int32} {l2 : Int32} {X : XH} {K : Int32 → XH → Prop} (h : w_X5_signatures l0 l1 l2 X K) : AM G M_X5_signatures X [.ref l0, .int l1, .int l2] (KrI K) := AM_of (by decide +kernel) rfl (leb rfl) hG (by
  show AW G M_X5_signatures 0 [(0, .ref l0), (1, .int l1), (2, .int l2)] [] X 0 0 _
  unfold w_X5_signatures at h
  refine aw_iconst 1 (v := 0) dX5_signatures_0 kI_0 rfl ?_
  refine aw_istore_n 2 (lv' := [(3, _), (0, _), (1, _), (2, _)]) dX5_signatures_1 rfl (ltb rfl) rfl rfl ?_
  refine aw_iconst 3 (v := 0) dX5_signatures_2 kI_0 rfl ?_
  refine aw_istore 5 (lv' := [(4, _), (3, _), (0, _), (1, _), (2, _)]) dX5_signatures_3 (ltb rfl) rfl rfl ?_
  exact aw_pick [2, 3, 4, 1, 0] rfl (aw_X5_signatures_5 hG  h))
set_option maxRecDepth 20000 in
theorem aw_X5_signaturesOn_14 {G : GG} (hG : G.1.stackTraces = false)  {l0 : Nat} {l1 : Int32} {l2 : Int32} {s0 : Nat} {s1 : Int32} {X : XH} {K : Int32 → XH → Prop}  (h : w_X5_signaturesOn_14  l0 l1 l2 s0 s1 X K) : AW G M_X5_signaturesOn 14 [(0, .ref l0), (1, .int l1), (2, .int l2)] [.int s1, .ref s0] X 0 0 (KrI K) := by
  unfold w_X5_signaturesOn_14 at h
  obtain ⟨g3, h⟩ := h
  refine aw_callV (M' := M_X5_refused) 17 81 5 s0 [.int _] [] dX5_signaturesOn_14 lk_RX5_81 mv_X5_refused mp_X5_refused rfl ⟨leb rfl, leb rfl⟩ rfl (ltb rfl) g3 rfl (leb rfl) (leb rfl) (leb rfl) rfl (am_X5_refused hG h) (kkI fun v2 X1 h => ?_) (kxN KrI.no)
  refine aw_widen (cc' := 0) (ss' := 0) (leb rfl) (leb rfl) ?_
  refine aw_if_eq 24 20 dX5_signaturesOn_17 rfl rfl (fun c4 => ?_) (fun c4 => ?_)
  · replace h := h.1 c4
    refine aw_aload_n 25 dX5_signaturesOn_24 rfl 0 rfl rfl ?_
    refine aw_iload_n 26 dX5_signaturesOn_25 rfl 1 rfl rfl ?_
    refine aw_iload_n 27 dX5_signaturesOn_26 rfl 2 rfl rfl ?_
    obtain ⟨g7, h⟩ := h
    refine aw_callV (M' := M_X5_signatures) 30 200 5 l0 [.int _, .int _] [] dX5_signaturesOn_27 lk_RX5_200 mv_X5_signatures mp_X5_signatures rfl ⟨leb rfl, leb rfl⟩ rfl (ltb rfl) g7 rfl (leb rfl) (leb rfl) (leb rfl) rfl (am_X5_signatures hG h) (kkI fun v6 X5 h => ?_) (kxN KrI.no)
    refine aw_widen (cc' := 0) (ss' := 0) (leb rfl) (leb rfl) ?_
    exact aw_ireturn (ty := .int) dX5_signaturesOn_30 rfl rfl (leb rfl) (leb rfl) ⟨_, rfl, h⟩
  · replace h := h.2 c4
    refine aw_iconst 21 (v := 0) dX5_signaturesOn_20 kI_0 rfl ?_
    refine aw_goto 30 dX5_signaturesOn_21 rfl ?_
    exact aw_ireturn (ty := .int) dX5_signaturesOn_30 rfl rfl (leb rfl) (leb rfl) ⟨_, rfl, h⟩
set_option maxRecDepth 20000 in
theorem am_X5_signaturesOn {G : GG} (hG : G.1.stackTraces = false) {l0 : Nat} {l1 : Int32} {l2 : Int32} {X : XH} {K : Int32 → XH → Prop} (h : w_X5_signaturesOn l0 l1 l2 X K) : AM G M_X5_signaturesOn X [.ref l0, .int l1, .int l2] (KrI K) := AM_of (by decide +kernel) rfl (leb rfl) hG (by
  show AW G M_X5_signaturesOn 0 [(0, .ref l0), (1, .int l1), (2, .int l2)] [] X 0 0 _
  unfold w_X5_signaturesOn at h
  refine aw_aload_n 1 dX5_signaturesOn_0 rfl 0 rfl rfl ?_
  refine aw_iload_n 2 dX5_signaturesOn_1 rfl 1 rfl rfl ?_
  refine aw_iload_n 3 dX5_signaturesOn_2 rfl 2 rfl rfl ?_
  refine aw_callS (M' := M_X5_isPlace) 6 107 [.int _, .int _] [.ref _] dX5_signaturesOn_3 lk_RX5_107 ms_X5_isPlace mp_X5_isPlace rfl ⟨leb rfl, leb rfl⟩ rfl (leb rfl) (leb rfl) (leb rfl) rfl (am_X5_isPlace hG h) (kkI fun v2 X1 h => ?_) (kxN KrI.no)
  refine aw_widen (cc' := 0) (ss' := 0) (leb rfl) (leb rfl) ?_
  refine aw_if_eq 13 9 dX5_signaturesOn_6 rfl rfl (fun c3 => ?_) (fun c3 => ?_)
  · replace h := h.1 c3
    refine aw_iconst 14 (v := 1) dX5_signaturesOn_13 kI_1 rfl ?_
    exact aw_pick [0, 1, 2] rfl (aw_X5_signaturesOn_14 hG  h)
  · replace h := h.2 c3
    refine aw_iconst 10 (v := 0) dX5_signaturesOn_9 kI_0 rfl ?_
    refine aw_goto 14 dX5_signaturesOn_10 rfl ?_
    exact aw_pick [0, 1, 2] rfl (aw_X5_signaturesOn_14 hG  h))
set_option maxRecDepth 20000 in
theorem am_X4_missingOn {G : GG} (hG : G.1.stackTraces = false) {l0 : Nat} {l1 : Int32} {l2 : Int32} {X : XH} {K : Int32 → XH → Prop} {KX : String → XH → Prop} (h : w_X4_missingOn l0 l1 l2 X K KX) : AM G M_X4_missingOn X [.ref l0, .int l1, .int l2] (KxT (KrI K) KX) := AM_of (by decide +kernel) rfl (leb rfl) hG (by
  show AW G M_X4_missingOn 0 [(0, .ref l0), (1, .int l1), (2, .int l2)] [] X 0 0 _
  unfold w_X4_missingOn at h
  refine aw_iload_n 1 dX4_missingOn_0 rfl 1 rfl rfl ?_
  refine aw_callS (M' := M_X4_checkReel) 4 45 [.int _] [] dX4_missingOn_1 lk_RX4_45 ms_X4_checkReel mp_X4_checkReel rfl ⟨leb rfl, leb rfl⟩ rfl (leb rfl) (leb rfl) (leb rfl) rfl (am_X4_checkReel hG h) (kkT (kkV fun X1 h => ?_)) (kxT KrV.no fun E X h => at_out rfl (leb rfl) (leb rfl) (Or.inr ⟨_, rfl, h⟩))
  refine aw_widen (cc' := 1) (ss' := 6) (leb rfl) (leb rfl) ?_
  refine aw_iload_n 5 dX4_missingOn_4 rfl 2 rfl rfl ?_
  refine aw_callS (M' := M_X4_checkTongue) 8 195 [.int _] [] dX4_missingOn_5 lk_RX4_195 ms_X4_checkTongue mp_X4_checkTongue rfl ⟨leb rfl, leb rfl⟩ rfl (leb rfl) (leb rfl) (leb rfl) rfl (am_X4_checkTongue hG h) (kkT (kkV fun X2 h => ?_)) (kxT KrV.no fun E X h => at_out rfl (leb rfl) (leb rfl) (Or.inr ⟨_, rfl, h⟩))
  refine aw_widen (cc' := 2) (ss' := 12) (leb rfl) (leb rfl) ?_
  refine aw_aload_n 9 dX4_missingOn_8 rfl 0 rfl rfl ?_
  obtain ⟨g3, h⟩ := h
  obtain ⟨g4, h⟩ := h
  refine aw_getR 12 dX4_missingOn_9 fl_RX4_10 rfl g3 g4 rfl ?_
  refine aw_iload_n 13 dX4_missingOn_12 rfl 1 rfl rfl ?_
  refine aw_iload_n 14 dX4_missingOn_13 rfl 2 rfl rfl ?_
  obtain ⟨g7, h⟩ := h
  refine aw_callV (M' := M_X3_signaturesMissing) 17 223 3 (hR X2 l0 0) [.int _, .int _] [] dX4_missingOn_14 lk_RX4_223 mv_X3_signaturesMissing mp_X3_signaturesMissing rfl ⟨leb rfl, leb rfl⟩ rfl (ltb rfl) g7 rfl (leb rfl) (leb rfl) (leb rfl) rfl (am_X3_signaturesMissing hG h) (kkI fun v6 X5 h => ?_) (kxN KrI.no)
  refine aw_widen (cc' := 2) (ss' := 12) (leb rfl) (leb rfl) ?_
  exact aw_ireturn (ty := .int) dX4_missingOn_17 rfl rfl (leb rfl) (leb rfl) (Or.inl ⟨_, rfl, h⟩))
set_option maxRecDepth 20000 in
theorem am_L_missingOn {G : GG} (hG : G.1.stackTraces = false) {l0 : Nat} {l1 : Int32} {l2 : Int32} {l3 : Nat} {X : XH} {K : Int32 → XH → Prop} (h : w_L_missingOn l0 l1 l2 l3 X K) : AM G M_L_missingOn X [.ref l0, .int l1, .int l2, .ref l3] (KrI K) := AM_ofH (by decide +kernel) (0, 10, 13, 13) [] rfl (leb rfl) hG (by
  show AW G M_L_missingOn 0 [(0, .ref l0), (1, .int l1), (2, .int l2), (3, .ref l3)] [] X 0 0 _
  unfold w_L_missingOn at h
  refine aw_aload_n 1 dL_missingOn_0 rfl 3 rfl rfl ?_
  refine aw_iconst 2 (v := 0) dL_missingOn_1 kI_0 rfl ?_
  refine aw_aload_n 3 dL_missingOn_2 rfl 0 rfl rfl ?_
  refine aw_iload_n 4 dL_missingOn_3 rfl 1 rfl rfl ?_
  refine aw_iload_n 5 dL_missingOn_4 rfl 2 rfl rfl ?_
  obtain ⟨g3, h⟩ := h
  refine aw_callV (M' := M_X4_missingOn) 8 151 4 l0 [.int _, .int _] [.int _, .ref _] dL_missingOn_5 lk_RL_151 mv_X4_missingOn mp_X4_missingOn rfl ⟨leb rfl, leb rfl⟩ rfl (ltb rfl) g3 rfl (leb rfl) (leb rfl) (leb rfl) rfl (am_X4_missingOn hG h) (kkT (kkI fun v2 X1 h => ?_)) (kxT KrI.no fun E X1 h => ?_)
  · refine aw_widen (cc' := 2) (ss' := 12) (leb rfl) (leb rfl) ?_
    refine aw_i2l 9 dL_missingOn_8 rfl ?_
    obtain ⟨g4, h⟩ := h
    obtain ⟨g5, h⟩ := h
    refine aw_lastore 10 dL_missingOn_9 g4 g5 rfl ?_
    refine aw_goto 17 dL_missingOn_10 rfl ?_
    refine aw_iconst 18 (v := 0) dL_missingOn_17 kI_0 rfl ?_
    exact aw_ireturn (ty := .int) dL_missingOn_18 rfl rfl (leb rfl) (leb rfl) ⟨_, rfl, h⟩
  · obtain ⟨hE, h⟩ := h
    rcases hE with rfl
    refine aw_atc (lv' := [(0, .ref _), (1, .int _), (2, .int _), (3, .ref _)]) [] (0, 10, 13, 13) [] rfl (fun z hz => nomatch hz) (by decide) (by decide) (tk3 (i := 61) (by decide +kernel) rfl) (by decide) 4 2 15 (Or.inr ⟨dL_missingOn_13, rfl⟩) (ltb rfl) rfl ?_
    refine aw_widen (cc' := 2) (ss' := 12) (leb rfl) (leb rfl) ?_
    replace h := h rfl
    refine aw_iconst 16 (v := 1) dL_missingOn_15 kI_1 rfl ?_
    exact aw_ireturn (ty := .int) dL_missingOn_16 rfl rfl (leb rfl) (leb rfl) ⟨_, rfl, h⟩)
set_option maxRecDepth 20000 in
theorem aw_X5_missingOn_14 {G : GG} (hG : G.1.stackTraces = false)  {l0 : Nat} {l1 : Int32} {l2 : Int32} {s0 : Nat} {s1 : Int32} {X : XH} {K : Int32 → XH → Prop}  (h : w_X5_missingOn_14  l0 l1 l2 s0 s1 X K) : AW G M_X5_missingOn 14 [(0, .ref l0), (1, .int l1), (2, .int l2)] [.int s1, .ref s0] X 0 0 (KrI K) := by
  unfold w_X5_missingOn_14 at h
  obtain ⟨g3, h⟩ := h
  refine aw_callV (M' := M_X5_refused) 17 81 5 s0 [.int _] [] dX5_missingOn_14 lk_RX5_81 mv_X5_refused mp_X5_refused rfl ⟨leb rfl, leb rfl⟩ rfl (ltb rfl) g3 rfl (leb rfl) (leb rfl) (leb rfl) rfl (am_X5_refused hG h) (kkI fun v2 X1 h => ?_) (kxN KrI.no)
  refine aw_widen (cc' := 0) (ss' := 0) (leb rfl) (leb rfl) ?_
  refine aw_if_eq 24 20 dX5_missingOn_17 rfl rfl (fun c4 => ?_) (fun c4 => ?_)
  · replace h := h.1 c4
    refine aw_aload_n 25 dX5_missingOn_24 rfl 0 rfl rfl ?_
    refine aw_iload_n 26 dX5_missingOn_25 rfl 1 rfl rfl ?_
    refine aw_iload_n 27 dX5_missingOn_26 rfl 2 rfl rfl ?_
    obtain ⟨g7, h⟩ := h
    refine aw_callV (M' := M_X5_missing) 30 122 5 l0 [.int _, .int _] [] dX5_missingOn_27 lk_RX5_122 mv_X5_missing mp_X5_missing rfl ⟨leb rfl, leb rfl⟩ rfl (ltb rfl) g7 rfl (leb rfl) (leb rfl) (leb rfl) rfl (am_X5_missing hG h) (kkI fun v6 X5 h => ?_) (kxN KrI.no)
    refine aw_widen (cc' := 0) (ss' := 0) (leb rfl) (leb rfl) ?_
    exact aw_ireturn (ty := .int) dX5_missingOn_30 rfl rfl (leb rfl) (leb rfl) ⟨_, rfl, h⟩
  · replace h := h.2 c4
    refine aw_iconst 21 (v := 0) dX5_missingOn_20 kI_0 rfl ?_
    refine aw_goto 30 dX5_missingOn_21 rfl ?_
    exact aw_ireturn (ty := .int) dX5_missingOn_30 rfl rfl (leb rfl) (leb rfl) ⟨_, rfl, h⟩
set_option maxRecDepth 20000 in
theorem am_X5_missingOn {G : GG} (hG : G.1.stackTraces = false) {l0 : Nat} {l1 : Int32} {l2 : Int32} {X : XH} {K : Int32 → XH → Prop} (h : w_X5_missingOn l0 l1 l2 X K) : AM G M_X5_missingOn X [.ref l0, .int l1, .int l2] (KrI K) := AM_of (by decide +kernel) rfl (leb rfl) hG (by
  show AW G M_X5_missingOn 0 [(0, .ref l0), (1, .int l1), (2, .int l2)] [] X 0 0 _
  unfold w_X5_missingOn at h
  refine aw_aload_n 1 dX5_missingOn_0 rfl 0 rfl rfl ?_
  refine aw_iload_n 2 dX5_missingOn_1 rfl 1 rfl rfl ?_
  refine aw_iload_n 3 dX5_missingOn_2 rfl 2 rfl rfl ?_
  refine aw_callS (M' := M_X5_isPlace) 6 107 [.int _, .int _] [.ref _] dX5_missingOn_3 lk_RX5_107 ms_X5_isPlace mp_X5_isPlace rfl ⟨leb rfl, leb rfl⟩ rfl (leb rfl) (leb rfl) (leb rfl) rfl (am_X5_isPlace hG h) (kkI fun v2 X1 h => ?_) (kxN KrI.no)
  refine aw_widen (cc' := 0) (ss' := 0) (leb rfl) (leb rfl) ?_
  refine aw_if_eq 13 9 dX5_missingOn_6 rfl rfl (fun c3 => ?_) (fun c3 => ?_)
  · replace h := h.1 c3
    refine aw_iconst 14 (v := 1) dX5_missingOn_13 kI_1 rfl ?_
    exact aw_pick [0, 1, 2] rfl (aw_X5_missingOn_14 hG  h)
  · replace h := h.2 c3
    refine aw_iconst 10 (v := 0) dX5_missingOn_9 kI_0 rfl ?_
    refine aw_goto 14 dX5_missingOn_10 rfl ?_
    exact aw_pick [0, 1, 2] rfl (aw_X5_missingOn_14 hG  h))
set_option maxRecDepth 20000 in
theorem aw_X5_annexOf_13 {G : GG} (hG : G.1.stackTraces = false)  {l0 : Nat} {l1 : Int32} {s0 : Nat} {s1 : Int32} {X : XH} {K : Int32 → XH → Prop}  (h : w_X5_annexOf_13  l0 l1 s0 s1 X K) : AW G M_X5_annexOf 13 [(0, .ref l0), (1, .int l1)] [.int s1, .ref s0] X 0 0 (KrI K) := by
  unfold w_X5_annexOf_13 at h
  obtain ⟨g3, h⟩ := h
  refine aw_callV (M' := M_X5_refused) 16 81 5 s0 [.int _] [] dX5_annexOf_13 lk_RX5_81 mv_X5_refused mp_X5_refused rfl ⟨leb rfl, leb rfl⟩ rfl (ltb rfl) g3 rfl (leb rfl) (leb rfl) (leb rfl) rfl (am_X5_refused hG h) (kkI fun v2 X1 h => ?_) (kxN KrI.no)
  refine aw_widen (cc' := 0) (ss' := 0) (leb rfl) (leb rfl) ?_
  refine aw_if_eq 23 19 dX5_annexOf_16 rfl rfl (fun c4 => ?_) (fun c4 => ?_)
  · replace h := h.1 c4
    refine aw_aload_n 24 dX5_annexOf_23 rfl 0 rfl rfl ?_
    refine aw_iload_n 25 dX5_annexOf_24 rfl 1 rfl rfl ?_
    obtain ⟨g7, h⟩ := h
    refine aw_callV (M' := M_X5_annexed) 28 100 5 l0 [.int _] [] dX5_annexOf_25 lk_RX5_100 mv_X5_annexed mp_X5_annexed rfl ⟨leb rfl, leb rfl⟩ rfl (ltb rfl) g7 rfl (leb rfl) (leb rfl) (leb rfl) rfl (am_X5_annexed hG h) (kkI fun v6 X5 h => ?_) (kxN KrI.no)
    refine aw_widen (cc' := 0) (ss' := 0) (leb rfl) (leb rfl) ?_
    exact aw_ireturn (ty := .int) dX5_annexOf_28 rfl rfl (leb rfl) (leb rfl) ⟨_, rfl, h⟩
  · replace h := h.2 c4
    refine aw_iconst 20 (v := 0) dX5_annexOf_19 kI_0 rfl ?_
    refine aw_goto 28 dX5_annexOf_20 rfl ?_
    exact aw_ireturn (ty := .int) dX5_annexOf_28 rfl rfl (leb rfl) (leb rfl) ⟨_, rfl, h⟩
set_option maxRecDepth 20000 in
theorem am_X5_annexOf {G : GG} (hG : G.1.stackTraces = false) {l0 : Nat} {l1 : Int32} {X : XH} {K : Int32 → XH → Prop} (h : w_X5_annexOf l0 l1 X K) : AM G M_X5_annexOf X [.ref l0, .int l1] (KrI K) := AM_of (by decide +kernel) rfl (leb rfl) hG (by
  show AW G M_X5_annexOf 0 [(0, .ref l0), (1, .int l1)] [] X 0 0 _
  unfold w_X5_annexOf at h
  refine aw_aload_n 1 dX5_annexOf_0 rfl 0 rfl rfl ?_
  refine aw_iload_n 2 dX5_annexOf_1 rfl 1 rfl rfl ?_
  refine aw_callS (M' := M_X5_isTongue) 5 38 [.int _] [.ref _] dX5_annexOf_2 lk_RX5_38 ms_X5_isTongue mp_X5_isTongue rfl ⟨leb rfl, leb rfl⟩ rfl (leb rfl) (leb rfl) (leb rfl) rfl (am_X5_isTongue hG h) (kkI fun v2 X1 h => ?_) (kxN KrI.no)
  refine aw_widen (cc' := 0) (ss' := 0) (leb rfl) (leb rfl) ?_
  refine aw_if_eq 12 8 dX5_annexOf_5 rfl rfl (fun c3 => ?_) (fun c3 => ?_)
  · replace h := h.1 c3
    refine aw_iconst 13 (v := 1) dX5_annexOf_12 kI_1 rfl ?_
    exact aw_pick [0, 1] rfl (aw_X5_annexOf_13 hG  h)
  · replace h := h.2 c3
    refine aw_iconst 9 (v := 0) dX5_annexOf_8 kI_0 rfl ?_
    refine aw_goto 13 dX5_annexOf_9 rfl ?_
    exact aw_pick [0, 1] rfl (aw_X5_annexOf_13 hG  h))
set_option maxRecDepth 20000 in
theorem aw_X3_takenTotal_4 {G : GG} (hG : G.1.stackTraces = false)  {l0 : Nat} {l1 : Int32} {l2 : Int32} {l3 : Int32} {X : XH} {K : Int32 → XH → Prop}  (h : w_X3_takenTotal_4  l0 l1 l2 l3 X K) : AW G M_X3_takenTotal 4 [(0, .ref l0), (1, .int l1), (2, .int l2), (3, .int l3)] [] X 0 0 (KrI K) :=
  h (fun l0 l1 l2 l3 X => AW G M_X3_takenTotal 4 [(0, .ref l0), (1, .int l1), (2, .int l2), (3, .int l3)] [] X 0 0 (KrI K)) (fun l0 l1 l2 l3 X h => by
    refine aw_iload_n 5 dX3_takenTotal_4 rfl 3 rfl rfl ?_
    refine aw_aload_n 6 dX3_takenTotal_5 rfl 0 rfl rfl ?_
    obtain ⟨g1, h⟩ := h
    refine aw_getI 9 dX3_takenTotal_6 fl_RX3_45 rfl g1 rfl ?_
    refine aw_icmp_ge 30 12 dX3_takenTotal_9 rfl rfl (fun c2 => ?_) (fun c2 => ?_)
    · replace h := h.1 c2
      refine aw_iload_n 31 dX3_takenTotal_30 rfl 2 rfl rfl ?_
      exact aw_ireturn (ty := .int) dX3_takenTotal_31 rfl rfl (leb rfl) (leb rfl) ⟨_, rfl, h⟩
    · replace h := h.2 c2
      refine aw_aload_n 13 dX3_takenTotal_12 rfl 0 rfl rfl ?_
      refine aw_iload_n 14 dX3_takenTotal_13 rfl 3 rfl rfl ?_
      refine aw_iload_n 15 dX3_takenTotal_14 rfl 1 rfl rfl ?_
      refine aw_callV (M' := M_X3_isTaken) 18 98 3 l0 [.int _, .int _] [] dX3_takenTotal_15 lk_RX3_98 mv_X3_isTaken mp_X3_isTaken rfl ⟨leb rfl, leb rfl⟩ rfl (ltb rfl) g1 rfl (leb rfl) (leb rfl) (leb rfl) rfl (am_X3_isTaken hG h) (kkI fun v4 X3 h => ?_) (kxN KrI.no)
      refine aw_widen (cc' := 0) (ss' := 0) (leb rfl) (leb rfl) ?_
      refine aw_if_eq 24 21 dX3_takenTotal_18 rfl rfl (fun c5 => ?_) (fun c5 => ?_)
      · replace h := h.1 c5
        refine aw_iinc 27 (v := 1) (lv' := [(3, _), (0, _), (1, _), (2, _)]) dX3_takenTotal_24 3 rfl kI_1 (ltb rfl) rfl rfl ?_
        refine aw_goto 4 dX3_takenTotal_27 rfl ?_
        exact aw_pick [1, 2, 3, 0] rfl h
      · replace h := h.2 c5
        refine aw_iinc 24 (v := 1) (lv' := [(2, _), (0, _), (1, _), (3, _)]) dX3_takenTotal_21 2 rfl kI_1 (ltb rfl) rfl rfl ?_
        refine aw_iinc 27 (v := 1) (lv' := [(3, _), (2, _), (0, _), (1, _)]) dX3_takenTotal_24 3 rfl kI_1 (ltb rfl) rfl rfl ?_
        refine aw_goto 4 dX3_takenTotal_27 rfl ?_
        exact aw_pick [2, 3, 1, 0] rfl h)
set_option maxRecDepth 20000 in
theorem am_X3_takenTotal {G : GG} (hG : G.1.stackTraces = false) {l0 : Nat} {l1 : Int32} {X : XH} {K : Int32 → XH → Prop} (h : w_X3_takenTotal l0 l1 X K) : AM G M_X3_takenTotal X [.ref l0, .int l1] (KrI K) := AM_of (by decide +kernel) rfl (leb rfl) hG (by
  show AW G M_X3_takenTotal 0 [(0, .ref l0), (1, .int l1)] [] X 0 0 _
  unfold w_X3_takenTotal at h
  refine aw_iconst 1 (v := 0) dX3_takenTotal_0 kI_0 rfl ?_
  refine aw_istore_n 2 (lv' := [(2, _), (0, _), (1, _)]) dX3_takenTotal_1 rfl (ltb rfl) rfl rfl ?_
  refine aw_iconst 3 (v := 0) dX3_takenTotal_2 kI_0 rfl ?_
  refine aw_istore_n 4 (lv' := [(3, _), (2, _), (0, _), (1, _)]) dX3_takenTotal_3 rfl (ltb rfl) rfl rfl ?_
  exact aw_pick [2, 3, 1, 0] rfl (aw_X3_takenTotal_4 hG  h))
set_option maxRecDepth 20000 in
theorem am_X4_recordedIn {G : GG} (hG : G.1.stackTraces = false) {l0 : Nat} {l1 : Int32} {X : XH} {K : Int32 → XH → Prop} {KX : String → XH → Prop} (h : w_X4_recordedIn l0 l1 X K KX) : AM G M_X4_recordedIn X [.ref l0, .int l1] (KxT (KrI K) KX) := AM_of (by decide +kernel) rfl (leb rfl) hG (by
  show AW G M_X4_recordedIn 0 [(0, .ref l0), (1, .int l1)] [] X 0 0 _
  unfold w_X4_recordedIn at h
  refine aw_iload_n 1 dX4_recordedIn_0 rfl 1 rfl rfl ?_
  refine aw_callS (M' := M_X4_checkTongue) 4 195 [.int _] [] dX4_recordedIn_1 lk_RX4_195 ms_X4_checkTongue mp_X4_checkTongue rfl ⟨leb rfl, leb rfl⟩ rfl (leb rfl) (leb rfl) (leb rfl) rfl (am_X4_checkTongue hG h) (kkT (kkV fun X1 h => ?_)) (kxT KrV.no fun E X h => at_out rfl (leb rfl) (leb rfl) (Or.inr ⟨_, rfl, h⟩))
  refine aw_widen (cc' := 1) (ss' := 6) (leb rfl) (leb rfl) ?_
  refine aw_aload_n 5 dX4_recordedIn_4 rfl 0 rfl rfl ?_
  obtain ⟨g2, h⟩ := h
  obtain ⟨g3, h⟩ := h
  refine aw_getR 8 dX4_recordedIn_5 fl_RX4_10 rfl g2 g3 rfl ?_
  refine aw_iload_n 9 dX4_recordedIn_8 rfl 1 rfl rfl ?_
  obtain ⟨g6, h⟩ := h
  refine aw_callV (M' := M_X3_takenTotal) 12 316 3 (hR X1 l0 0) [.int _] [] dX4_recordedIn_9 lk_RX4_316 mv_X3_takenTotal mp_X3_takenTotal rfl ⟨leb rfl, leb rfl⟩ rfl (ltb rfl) g6 rfl (leb rfl) (leb rfl) (leb rfl) rfl (am_X3_takenTotal hG h) (kkI fun v5 X4 h => ?_) (kxN KrI.no)
  refine aw_widen (cc' := 1) (ss' := 6) (leb rfl) (leb rfl) ?_
  exact aw_ireturn (ty := .int) dX4_recordedIn_12 rfl rfl (leb rfl) (leb rfl) (Or.inl ⟨_, rfl, h⟩))
set_option maxRecDepth 20000 in
theorem am_L_recordedIn {G : GG} (hG : G.1.stackTraces = false) {l0 : Nat} {l1 : Int32} {l2 : Nat} {X : XH} {K : Int32 → XH → Prop} (h : w_L_recordedIn l0 l1 l2 X K) : AM G M_L_recordedIn X [.ref l0, .int l1, .ref l2] (KrI K) := AM_ofH (by decide +kernel) (0, 9, 12, 13) [] rfl (leb rfl) hG (by
  show AW G M_L_recordedIn 0 [(0, .ref l0), (1, .int l1), (2, .ref l2)] [] X 0 0 _
  unfold w_L_recordedIn at h
  refine aw_aload_n 1 dL_recordedIn_0 rfl 2 rfl rfl ?_
  refine aw_iconst 2 (v := 0) dL_recordedIn_1 kI_0 rfl ?_
  refine aw_aload_n 3 dL_recordedIn_2 rfl 0 rfl rfl ?_
  refine aw_iload_n 4 dL_recordedIn_3 rfl 1 rfl rfl ?_
  obtain ⟨g3, h⟩ := h
  refine aw_callV (M' := M_X4_recordedIn) 7 157 4 l0 [.int _] [.int _, .ref _] dL_recordedIn_4 lk_RL_157 mv_X4_recordedIn mp_X4_recordedIn rfl ⟨leb rfl, leb rfl⟩ rfl (ltb rfl) g3 rfl (leb rfl) (leb rfl) (leb rfl) rfl (am_X4_recordedIn hG h) (kkT (kkI fun v2 X1 h => ?_)) (kxT KrI.no fun E X1 h => ?_)
  · refine aw_widen (cc' := 1) (ss' := 6) (leb rfl) (leb rfl) ?_
    refine aw_i2l 8 dL_recordedIn_7 rfl ?_
    obtain ⟨g4, h⟩ := h
    obtain ⟨g5, h⟩ := h
    refine aw_lastore 9 dL_recordedIn_8 g4 g5 rfl ?_
    refine aw_goto 15 dL_recordedIn_9 rfl ?_
    refine aw_iconst 16 (v := 0) dL_recordedIn_15 kI_0 rfl ?_
    exact aw_ireturn (ty := .int) dL_recordedIn_16 rfl rfl (leb rfl) (leb rfl) ⟨_, rfl, h⟩
  · obtain ⟨hE, h⟩ := h
    rcases hE with rfl
    refine aw_atc (lv' := [(0, .ref _), (1, .int _), (2, .ref _)]) [] (0, 9, 12, 13) [] rfl (fun z hz => nomatch hz) (by decide) (by decide) (tk3 (i := 61) (by decide +kernel) rfl) (by decide) 3 1 13 (Or.inl ⟨3, rfl, dL_recordedIn_12, rfl⟩) (ltb rfl) rfl ?_
    refine aw_widen (cc' := 1) (ss' := 6) (leb rfl) (leb rfl) ?_
    replace h := h rfl
    refine aw_iconst 14 (v := 1) dL_recordedIn_13 kI_1 rfl ?_
    exact aw_ireturn (ty := .int) dL_recordedIn_14 rfl rfl (leb rfl) (leb rfl) ⟨_, rfl, h⟩)
set_option maxRecDepth 20000 in
theorem aw_X5_taken_4 {G : GG} (hG : G.1.stackTraces = false)  {l0 : Nat} {l1 : Int32} {l2 : Int32} {l3 : Int32} {X : XH} {K : Int32 → XH → Prop}  (h : w_X5_taken_4  l0 l1 l2 l3 X K) : AW G M_X5_taken 4 [(0, .ref l0), (1, .int l1), (2, .int l2), (3, .int l3)] [] X 0 0 (KrI K) :=
  h (fun l0 l1 l2 l3 X => AW G M_X5_taken 4 [(0, .ref l0), (1, .int l1), (2, .int l2), (3, .int l3)] [] X 0 0 (KrI K)) (fun l0 l1 l2 l3 X h => by
    refine aw_iload_n 5 dX5_taken_4 rfl 3 rfl rfl ?_
    refine aw_aload_n 6 dX5_taken_5 rfl 0 rfl rfl ?_
    obtain ⟨g1, h⟩ := h
    obtain ⟨g2, h⟩ := h
    refine aw_getR 9 dX5_taken_6 fl_RX5_7 rfl g1 g2 rfl ?_
    refine aw_sipush 12 (v := 366) dX5_taken_9 kS_366 rfl ?_
    obtain ⟨g3, h⟩ := h
    obtain ⟨g4, h⟩ := h
    refine aw_iaload 13 dX5_taken_12 g3 g4 rfl ?_
    refine aw_icmp_ge 39 16 dX5_taken_13 rfl rfl (fun c5 => ?_) (fun c5 => ?_)
    · replace h := h.1 c5
      refine aw_iload_n 40 dX5_taken_39 rfl 2 rfl rfl ?_
      exact aw_ireturn (ty := .int) dX5_taken_40 rfl rfl (leb rfl) (leb rfl) ⟨_, rfl, h⟩
    · replace h := h.2 c5
      refine aw_iload_n 17 dX5_taken_16 rfl 2 rfl rfl ?_
      refine aw_aload_n 18 dX5_taken_17 rfl 0 rfl rfl ?_
      refine aw_iload_n 19 dX5_taken_18 rfl 3 rfl rfl ?_
      refine aw_iload_n 20 dX5_taken_19 rfl 1 rfl rfl ?_
      refine aw_callV (M' := M_X5_isTaken) 23 51 5 l0 [.int _, .int _] [.int _] dX5_taken_20 lk_RX5_51 mv_X5_isTaken mp_X5_isTaken rfl ⟨leb rfl, leb rfl⟩ rfl (ltb rfl) g1 rfl (leb rfl) (leb rfl) (leb rfl) rfl (am_X5_isTaken hG h) (kkI fun v7 X6 h => ?_) (kxN KrI.no)
      refine aw_widen (cc' := 0) (ss' := 0) (leb rfl) (leb rfl) ?_
      refine aw_if_eq 30 26 dX5_taken_23 rfl rfl (fun c8 => ?_) (fun c8 => ?_)
      · replace h := h.1 c8
        refine aw_iconst 31 (v := 0) dX5_taken_30 kI_0 rfl ?_
        refine aw_iadd 32 dX5_taken_31 rfl ?_
        refine aw_istore_n 33 (lv' := [(2, _), (0, _), (1, _), (3, _)]) dX5_taken_32 rfl (ltb rfl) rfl rfl ?_
        refine aw_iinc 36 (v := 1) (lv' := [(3, _), (2, _), (0, _), (1, _)]) dX5_taken_33 3 rfl kI_1 (ltb rfl) rfl rfl ?_
        refine aw_goto 4 dX5_taken_36 rfl ?_
        exact aw_pick [2, 3, 1, 0] rfl h
      · replace h := h.2 c8
        refine aw_iconst 27 (v := 1) dX5_taken_26 kI_1 rfl ?_
        refine aw_goto 31 dX5_taken_27 rfl ?_
        refine aw_iadd 32 dX5_taken_31 rfl ?_
        refine aw_istore_n 33 (lv' := [(2, _), (0, _), (1, _), (3, _)]) dX5_taken_32 rfl (ltb rfl) rfl rfl ?_
        refine aw_iinc 36 (v := 1) (lv' := [(3, _), (2, _), (0, _), (1, _)]) dX5_taken_33 3 rfl kI_1 (ltb rfl) rfl rfl ?_
        refine aw_goto 4 dX5_taken_36 rfl ?_
        exact aw_pick [2, 3, 1, 0] rfl h)
set_option maxRecDepth 20000 in
theorem am_X5_taken {G : GG} (hG : G.1.stackTraces = false) {l0 : Nat} {l1 : Int32} {X : XH} {K : Int32 → XH → Prop} (h : w_X5_taken l0 l1 X K) : AM G M_X5_taken X [.ref l0, .int l1] (KrI K) := AM_of (by decide +kernel) rfl (leb rfl) hG (by
  show AW G M_X5_taken 0 [(0, .ref l0), (1, .int l1)] [] X 0 0 _
  unfold w_X5_taken at h
  refine aw_iconst 1 (v := 0) dX5_taken_0 kI_0 rfl ?_
  refine aw_istore_n 2 (lv' := [(2, _), (0, _), (1, _)]) dX5_taken_1 rfl (ltb rfl) rfl rfl ?_
  refine aw_iconst 3 (v := 0) dX5_taken_2 kI_0 rfl ?_
  refine aw_istore_n 4 (lv' := [(3, _), (2, _), (0, _), (1, _)]) dX5_taken_3 rfl (ltb rfl) rfl rfl ?_
  exact aw_pick [2, 3, 1, 0] rfl (aw_X5_taken_4 hG  h))
set_option maxRecDepth 20000 in
theorem aw_X5_recordedIn_13 {G : GG} (hG : G.1.stackTraces = false)  {l0 : Nat} {l1 : Int32} {s0 : Nat} {s1 : Int32} {X : XH} {K : Int32 → XH → Prop}  (h : w_X5_recordedIn_13  l0 l1 s0 s1 X K) : AW G M_X5_recordedIn 13 [(0, .ref l0), (1, .int l1)] [.int s1, .ref s0] X 0 0 (KrI K) := by
  unfold w_X5_recordedIn_13 at h
  obtain ⟨g3, h⟩ := h
  refine aw_callV (M' := M_X5_refused) 16 81 5 s0 [.int _] [] dX5_recordedIn_13 lk_RX5_81 mv_X5_refused mp_X5_refused rfl ⟨leb rfl, leb rfl⟩ rfl (ltb rfl) g3 rfl (leb rfl) (leb rfl) (leb rfl) rfl (am_X5_refused hG h) (kkI fun v2 X1 h => ?_) (kxN KrI.no)
  refine aw_widen (cc' := 0) (ss' := 0) (leb rfl) (leb rfl) ?_
  refine aw_if_eq 23 19 dX5_recordedIn_16 rfl rfl (fun c4 => ?_) (fun c4 => ?_)
  · replace h := h.1 c4
    refine aw_aload_n 24 dX5_recordedIn_23 rfl 0 rfl rfl ?_
    refine aw_iload_n 25 dX5_recordedIn_24 rfl 1 rfl rfl ?_
    obtain ⟨g7, h⟩ := h
    refine aw_callV (M' := M_X5_taken) 28 203 5 l0 [.int _] [] dX5_recordedIn_25 lk_RX5_203 mv_X5_taken mp_X5_taken rfl ⟨leb rfl, leb rfl⟩ rfl (ltb rfl) g7 rfl (leb rfl) (leb rfl) (leb rfl) rfl (am_X5_taken hG h) (kkI fun v6 X5 h => ?_) (kxN KrI.no)
    refine aw_widen (cc' := 0) (ss' := 0) (leb rfl) (leb rfl) ?_
    exact aw_ireturn (ty := .int) dX5_recordedIn_28 rfl rfl (leb rfl) (leb rfl) ⟨_, rfl, h⟩
  · replace h := h.2 c4
    refine aw_iconst 20 (v := 0) dX5_recordedIn_19 kI_0 rfl ?_
    refine aw_goto 28 dX5_recordedIn_20 rfl ?_
    exact aw_ireturn (ty := .int) dX5_recordedIn_28 rfl rfl (leb rfl) (leb rfl) ⟨_, rfl, h⟩
set_option maxRecDepth 20000 in
theorem am_X5_recordedIn {G : GG} (hG : G.1.stackTraces = false) {l0 : Nat} {l1 : Int32} {X : XH} {K : Int32 → XH → Prop} (h : w_X5_recordedIn l0 l1 X K) : AM G M_X5_recordedIn X [.ref l0, .int l1] (KrI K) := AM_of (by decide +kernel) rfl (leb rfl) hG (by
  show AW G M_X5_recordedIn 0 [(0, .ref l0), (1, .int l1)] [] X 0 0 _
  unfold w_X5_recordedIn at h
  refine aw_aload_n 1 dX5_recordedIn_0 rfl 0 rfl rfl ?_
  refine aw_iload_n 2 dX5_recordedIn_1 rfl 1 rfl rfl ?_
  refine aw_callS (M' := M_X5_isTongue) 5 38 [.int _] [.ref _] dX5_recordedIn_2 lk_RX5_38 ms_X5_isTongue mp_X5_isTongue rfl ⟨leb rfl, leb rfl⟩ rfl (leb rfl) (leb rfl) (leb rfl) rfl (am_X5_isTongue hG h) (kkI fun v2 X1 h => ?_) (kxN KrI.no)
  refine aw_widen (cc' := 0) (ss' := 0) (leb rfl) (leb rfl) ?_
  refine aw_if_eq 12 8 dX5_recordedIn_5 rfl rfl (fun c3 => ?_) (fun c3 => ?_)
  · replace h := h.1 c3
    refine aw_iconst 13 (v := 1) dX5_recordedIn_12 kI_1 rfl ?_
    exact aw_pick [0, 1] rfl (aw_X5_recordedIn_13 hG  h)
  · replace h := h.2 c3
    refine aw_iconst 9 (v := 0) dX5_recordedIn_8 kI_0 rfl ?_
    refine aw_goto 13 dX5_recordedIn_9 rfl ?_
    exact aw_pick [0, 1] rfl (aw_X5_recordedIn_13 hG  h))
set_option maxRecDepth 20000 in
theorem aw_X3_readyTotal_4 {G : GG} (hG : G.1.stackTraces = false)  {l0 : Nat} {l1 : Int32} {l2 : Int32} {l3 : Int32} {X : XH} {K : Int32 → XH → Prop}  (h : w_X3_readyTotal_4  l0 l1 l2 l3 X K) : AW G M_X3_readyTotal 4 [(0, .ref l0), (1, .int l1), (2, .int l2), (3, .int l3)] [] X 0 0 (KrI K) :=
  h (fun l0 l1 l2 l3 X => AW G M_X3_readyTotal 4 [(0, .ref l0), (1, .int l1), (2, .int l2), (3, .int l3)] [] X 0 0 (KrI K)) (fun l0 l1 l2 l3 X h => by
    refine aw_iload_n 5 dX3_readyTotal_4 rfl 3 rfl rfl ?_
    refine aw_aload_n 6 dX3_readyTotal_5 rfl 0 rfl rfl ?_
    obtain ⟨g1, h⟩ := h
    refine aw_getI 9 dX3_readyTotal_6 fl_RX3_45 rfl g1 rfl ?_
    refine aw_icmp_ge 36 12 dX3_readyTotal_9 rfl rfl (fun c2 => ?_) (fun c2 => ?_)
    · replace h := h.1 c2
      refine aw_iload_n 37 dX3_readyTotal_36 rfl 2 rfl rfl ?_
      exact aw_ireturn (ty := .int) dX3_readyTotal_37 rfl rfl (leb rfl) (leb rfl) ⟨_, rfl, h⟩
    · replace h := h.2 c2
      refine aw_aload_n 13 dX3_readyTotal_12 rfl 0 rfl rfl ?_
      refine aw_iload_n 14 dX3_readyTotal_13 rfl 3 rfl rfl ?_
      refine aw_iload_n 15 dX3_readyTotal_14 rfl 1 rfl rfl ?_
      refine aw_callV (M' := M_X3_isReady) 18 134 3 l0 [.int _, .int _] [] dX3_readyTotal_15 lk_RX3_134 mv_X3_isReady mp_X3_isReady rfl ⟨leb rfl, leb rfl⟩ rfl (ltb rfl) g1 rfl (leb rfl) (leb rfl) (leb rfl) rfl (am_X3_isReady hG h) (kkI fun v4 X3 h => ?_) (kxN KrI.no)
      refine aw_widen (cc' := 0) (ss' := 0) (leb rfl) (leb rfl) ?_
      refine aw_if_eq 30 21 dX3_readyTotal_18 rfl rfl (fun c5 => ?_) (fun c5 => ?_)
      · replace h := h.1 c5
        refine aw_iinc 33 (v := 1) (lv' := [(3, _), (0, _), (1, _), (2, _)]) dX3_readyTotal_30 3 rfl kI_1 (ltb rfl) rfl rfl ?_
        refine aw_goto 4 dX3_readyTotal_33 rfl ?_
        exact aw_pick [1, 2, 3, 0] rfl h
      · replace h := h.2 c5
        refine aw_iload_n 22 dX3_readyTotal_21 rfl 2 rfl rfl ?_
        refine aw_aload_n 23 dX3_readyTotal_22 rfl 0 rfl rfl ?_
        refine aw_iload_n 24 dX3_readyTotal_23 rfl 3 rfl rfl ?_
        refine aw_iload_n 25 dX3_readyTotal_24 rfl 1 rfl rfl ?_
        obtain ⟨g8, h⟩ := h
        refine aw_callV (M' := M_X3_spokenAt) 28 85 3 l0 [.int _, .int _] [.int _] dX3_readyTotal_25 lk_RX3_85 mv_X3_spokenAt mp_X3_spokenAt rfl ⟨leb rfl, leb rfl⟩ rfl (ltb rfl) g8 rfl (leb rfl) (leb rfl) (leb rfl) rfl (am_X3_spokenAt hG h) (kkI fun v7 X6 h => ?_) (kxN KrI.no)
        refine aw_widen (cc' := 0) (ss' := 0) (leb rfl) (leb rfl) ?_
        refine aw_iadd 29 dX3_readyTotal_28 rfl ?_
        refine aw_istore_n 30 (lv' := [(2, _), (0, _), (1, _), (3, _)]) dX3_readyTotal_29 rfl (ltb rfl) rfl rfl ?_
        refine aw_iinc 33 (v := 1) (lv' := [(3, _), (2, _), (0, _), (1, _)]) dX3_readyTotal_30 3 rfl kI_1 (ltb rfl) rfl rfl ?_
        refine aw_goto 4 dX3_readyTotal_33 rfl ?_
        exact aw_pick [2, 3, 1, 0] rfl h)
set_option maxRecDepth 20000 in
theorem am_X3_readyTotal {G : GG} (hG : G.1.stackTraces = false) {l0 : Nat} {l1 : Int32} {X : XH} {K : Int32 → XH → Prop} (h : w_X3_readyTotal l0 l1 X K) : AM G M_X3_readyTotal X [.ref l0, .int l1] (KrI K) := AM_of (by decide +kernel) rfl (leb rfl) hG (by
  show AW G M_X3_readyTotal 0 [(0, .ref l0), (1, .int l1)] [] X 0 0 _
  unfold w_X3_readyTotal at h
  refine aw_iconst 1 (v := 0) dX3_readyTotal_0 kI_0 rfl ?_
  refine aw_istore_n 2 (lv' := [(2, _), (0, _), (1, _)]) dX3_readyTotal_1 rfl (ltb rfl) rfl rfl ?_
  refine aw_iconst 3 (v := 0) dX3_readyTotal_2 kI_0 rfl ?_
  refine aw_istore_n 4 (lv' := [(3, _), (2, _), (0, _), (1, _)]) dX3_readyTotal_3 rfl (ltb rfl) rfl rfl ?_
  exact aw_pick [2, 3, 1, 0] rfl (aw_X3_readyTotal_4 hG  h))
set_option maxRecDepth 20000 in
theorem am_X4_readyByClauses {G : GG} (hG : G.1.stackTraces = false) {l0 : Nat} {l1 : Int32} {X : XH} {K : Int32 → XH → Prop} {KX : String → XH → Prop} (h : w_X4_readyByClauses l0 l1 X K KX) : AM G M_X4_readyByClauses X [.ref l0, .int l1] (KxT (KrI K) KX) := AM_of (by decide +kernel) rfl (leb rfl) hG (by
  show AW G M_X4_readyByClauses 0 [(0, .ref l0), (1, .int l1)] [] X 0 0 _
  unfold w_X4_readyByClauses at h
  refine aw_iload_n 1 dX4_readyByClauses_0 rfl 1 rfl rfl ?_
  refine aw_callS (M' := M_X4_checkTongue) 4 195 [.int _] [] dX4_readyByClauses_1 lk_RX4_195 ms_X4_checkTongue mp_X4_checkTongue rfl ⟨leb rfl, leb rfl⟩ rfl (leb rfl) (leb rfl) (leb rfl) rfl (am_X4_checkTongue hG h) (kkT (kkV fun X1 h => ?_)) (kxT KrV.no fun E X h => at_out rfl (leb rfl) (leb rfl) (Or.inr ⟨_, rfl, h⟩))
  refine aw_widen (cc' := 1) (ss' := 6) (leb rfl) (leb rfl) ?_
  refine aw_aload_n 5 dX4_readyByClauses_4 rfl 0 rfl rfl ?_
  obtain ⟨g2, h⟩ := h
  obtain ⟨g3, h⟩ := h
  refine aw_getR 8 dX4_readyByClauses_5 fl_RX4_10 rfl g2 g3 rfl ?_
  refine aw_iload_n 9 dX4_readyByClauses_8 rfl 1 rfl rfl ?_
  obtain ⟨g6, h⟩ := h
  refine aw_callV (M' := M_X3_readyTotal) 12 319 3 (hR X1 l0 0) [.int _] [] dX4_readyByClauses_9 lk_RX4_319 mv_X3_readyTotal mp_X3_readyTotal rfl ⟨leb rfl, leb rfl⟩ rfl (ltb rfl) g6 rfl (leb rfl) (leb rfl) (leb rfl) rfl (am_X3_readyTotal hG h) (kkI fun v5 X4 h => ?_) (kxN KrI.no)
  refine aw_widen (cc' := 1) (ss' := 6) (leb rfl) (leb rfl) ?_
  exact aw_ireturn (ty := .int) dX4_readyByClauses_12 rfl rfl (leb rfl) (leb rfl) (Or.inl ⟨_, rfl, h⟩))
set_option maxRecDepth 20000 in
theorem am_L_readyByClauses {G : GG} (hG : G.1.stackTraces = false) {l0 : Nat} {l1 : Int32} {l2 : Nat} {X : XH} {K : Int32 → XH → Prop} (h : w_L_readyByClauses l0 l1 l2 X K) : AM G M_L_readyByClauses X [.ref l0, .int l1, .ref l2] (KrI K) := AM_ofH (by decide +kernel) (0, 9, 12, 13) [] rfl (leb rfl) hG (by
  show AW G M_L_readyByClauses 0 [(0, .ref l0), (1, .int l1), (2, .ref l2)] [] X 0 0 _
  unfold w_L_readyByClauses at h
  refine aw_aload_n 1 dL_readyByClauses_0 rfl 2 rfl rfl ?_
  refine aw_iconst 2 (v := 0) dL_readyByClauses_1 kI_0 rfl ?_
  refine aw_aload_n 3 dL_readyByClauses_2 rfl 0 rfl rfl ?_
  refine aw_iload_n 4 dL_readyByClauses_3 rfl 1 rfl rfl ?_
  obtain ⟨g3, h⟩ := h
  refine aw_callV (M' := M_X4_readyByClauses) 7 160 4 l0 [.int _] [.int _, .ref _] dL_readyByClauses_4 lk_RL_160 mv_X4_readyByClauses mp_X4_readyByClauses rfl ⟨leb rfl, leb rfl⟩ rfl (ltb rfl) g3 rfl (leb rfl) (leb rfl) (leb rfl) rfl (am_X4_readyByClauses hG h) (kkT (kkI fun v2 X1 h => ?_)) (kxT KrI.no fun E X1 h => ?_)
  · refine aw_widen (cc' := 1) (ss' := 6) (leb rfl) (leb rfl) ?_
    refine aw_i2l 8 dL_readyByClauses_7 rfl ?_
    obtain ⟨g4, h⟩ := h
    obtain ⟨g5, h⟩ := h
    refine aw_lastore 9 dL_readyByClauses_8 g4 g5 rfl ?_
    refine aw_goto 15 dL_readyByClauses_9 rfl ?_
    refine aw_iconst 16 (v := 0) dL_readyByClauses_15 kI_0 rfl ?_
    exact aw_ireturn (ty := .int) dL_readyByClauses_16 rfl rfl (leb rfl) (leb rfl) ⟨_, rfl, h⟩
  · obtain ⟨hE, h⟩ := h
    rcases hE with rfl
    refine aw_atc (lv' := [(0, .ref _), (1, .int _), (2, .ref _)]) [] (0, 9, 12, 13) [] rfl (fun z hz => nomatch hz) (by decide) (by decide) (tk3 (i := 61) (by decide +kernel) rfl) (by decide) 3 1 13 (Or.inl ⟨3, rfl, dL_readyByClauses_12, rfl⟩) (ltb rfl) rfl ?_
    refine aw_widen (cc' := 1) (ss' := 6) (leb rfl) (leb rfl) ?_
    replace h := h rfl
    refine aw_iconst 14 (v := 1) dL_readyByClauses_13 kI_1 rfl ?_
    exact aw_ireturn (ty := .int) dL_readyByClauses_14 rfl rfl (leb rfl) (leb rfl) ⟨_, rfl, h⟩)
set_option maxRecDepth 20000 in
theorem aw_X5_ready_4 {G : GG} (hG : G.1.stackTraces = false)  {l0 : Nat} {l1 : Int32} {l2 : Int32} {l3 : Int32} {X : XH} {K : Int32 → XH → Prop}  (h : w_X5_ready_4  l0 l1 l2 l3 X K) : AW G M_X5_ready 4 [(0, .ref l0), (1, .int l1), (2, .int l2), (3, .int l3)] [] X 0 0 (KrI K) :=
  h (fun l0 l1 l2 l3 X => AW G M_X5_ready 4 [(0, .ref l0), (1, .int l1), (2, .int l2), (3, .int l3)] [] X 0 0 (KrI K)) (fun l0 l1 l2 l3 X h => by
    refine aw_iload_n 5 dX5_ready_4 rfl 3 rfl rfl ?_
    refine aw_aload_n 6 dX5_ready_5 rfl 0 rfl rfl ?_
    obtain ⟨g1, h⟩ := h
    obtain ⟨g2, h⟩ := h
    refine aw_getR 9 dX5_ready_6 fl_RX5_7 rfl g1 g2 rfl ?_
    refine aw_sipush 12 (v := 366) dX5_ready_9 kS_366 rfl ?_
    obtain ⟨g3, h⟩ := h
    obtain ⟨g4, h⟩ := h
    refine aw_iaload 13 dX5_ready_12 g3 g4 rfl ?_
    refine aw_icmp_ge 44 16 dX5_ready_13 rfl rfl (fun c5 => ?_) (fun c5 => ?_)
    · replace h := h.1 c5
      refine aw_iload_n 45 dX5_ready_44 rfl 2 rfl rfl ?_
      exact aw_ireturn (ty := .int) dX5_ready_45 rfl rfl (leb rfl) (leb rfl) ⟨_, rfl, h⟩
    · replace h := h.2 c5
      refine aw_iload_n 17 dX5_ready_16 rfl 2 rfl rfl ?_
      refine aw_aload_n 18 dX5_ready_17 rfl 0 rfl rfl ?_
      refine aw_iload_n 19 dX5_ready_18 rfl 3 rfl rfl ?_
      refine aw_iload_n 20 dX5_ready_19 rfl 1 rfl rfl ?_
      refine aw_callV (M' := M_X5_isReady) 23 185 5 l0 [.int _, .int _] [.int _] dX5_ready_20 lk_RX5_185 mv_X5_isReady mp_X5_isReady rfl ⟨leb rfl, leb rfl⟩ rfl (ltb rfl) g1 rfl (leb rfl) (leb rfl) (leb rfl) rfl (am_X5_isReady hG h) (kkI fun v7 X6 h => ?_) (kxN KrI.no)
      refine aw_widen (cc' := 0) (ss' := 0) (leb rfl) (leb rfl) ?_
      refine aw_if_eq 35 26 dX5_ready_23 rfl rfl (fun c8 => ?_) (fun c8 => ?_)
      · replace h := h.1 c8
        refine aw_iconst 36 (v := 0) dX5_ready_35 kI_0 rfl ?_
        refine aw_iadd 37 dX5_ready_36 rfl ?_
        refine aw_istore_n 38 (lv' := [(2, _), (0, _), (1, _), (3, _)]) dX5_ready_37 rfl (ltb rfl) rfl rfl ?_
        refine aw_iinc 41 (v := 1) (lv' := [(3, _), (2, _), (0, _), (1, _)]) dX5_ready_38 3 rfl kI_1 (ltb rfl) rfl rfl ?_
        refine aw_goto 4 dX5_ready_41 rfl ?_
        exact aw_pick [2, 3, 1, 0] rfl h
      · replace h := h.2 c8
        refine aw_aload_n 27 dX5_ready_26 rfl 0 rfl rfl ?_
        refine aw_iload_n 28 dX5_ready_27 rfl 3 rfl rfl ?_
        refine aw_iload_n 29 dX5_ready_28 rfl 1 rfl rfl ?_
        obtain ⟨g11, h⟩ := h
        refine aw_callV (M' := M_X5_both) 32 59 5 l0 [.int _, .int _] [.int _] dX5_ready_29 lk_RX5_59 mv_X5_both mp_X5_both rfl ⟨leb rfl, leb rfl⟩ rfl (ltb rfl) g11 rfl (leb rfl) (leb rfl) (leb rfl) rfl (am_X5_both hG h) (kkI fun v10 X9 h => ?_) (kxN KrI.no)
        refine aw_widen (cc' := 0) (ss' := 0) (leb rfl) (leb rfl) ?_
        refine aw_goto 36 dX5_ready_32 rfl ?_
        refine aw_iadd 37 dX5_ready_36 rfl ?_
        refine aw_istore_n 38 (lv' := [(2, _), (0, _), (1, _), (3, _)]) dX5_ready_37 rfl (ltb rfl) rfl rfl ?_
        refine aw_iinc 41 (v := 1) (lv' := [(3, _), (2, _), (0, _), (1, _)]) dX5_ready_38 3 rfl kI_1 (ltb rfl) rfl rfl ?_
        refine aw_goto 4 dX5_ready_41 rfl ?_
        exact aw_pick [2, 3, 1, 0] rfl h)
set_option maxRecDepth 20000 in
theorem am_X5_ready {G : GG} (hG : G.1.stackTraces = false) {l0 : Nat} {l1 : Int32} {X : XH} {K : Int32 → XH → Prop} (h : w_X5_ready l0 l1 X K) : AM G M_X5_ready X [.ref l0, .int l1] (KrI K) := AM_of (by decide +kernel) rfl (leb rfl) hG (by
  show AW G M_X5_ready 0 [(0, .ref l0), (1, .int l1)] [] X 0 0 _
  unfold w_X5_ready at h
  refine aw_iconst 1 (v := 0) dX5_ready_0 kI_0 rfl ?_
  refine aw_istore_n 2 (lv' := [(2, _), (0, _), (1, _)]) dX5_ready_1 rfl (ltb rfl) rfl rfl ?_
  refine aw_iconst 3 (v := 0) dX5_ready_2 kI_0 rfl ?_
  refine aw_istore_n 4 (lv' := [(3, _), (2, _), (0, _), (1, _)]) dX5_ready_3 rfl (ltb rfl) rfl rfl ?_
  exact aw_pick [2, 3, 1, 0] rfl (aw_X5_ready_4 hG  h))
set_option maxRecDepth 20000 in
theorem aw_X5_readyByClauses_13 {G : GG} (hG : G.1.stackTraces = false)  {l0 : Nat} {l1 : Int32} {s0 : Nat} {s1 : Int32} {X : XH} {K : Int32 → XH → Prop}  (h : w_X5_readyByClauses_13  l0 l1 s0 s1 X K) : AW G M_X5_readyByClauses 13 [(0, .ref l0), (1, .int l1)] [.int s1, .ref s0] X 0 0 (KrI K) := by
  unfold w_X5_readyByClauses_13 at h
  obtain ⟨g3, h⟩ := h
  refine aw_callV (M' := M_X5_refused) 16 81 5 s0 [.int _] [] dX5_readyByClauses_13 lk_RX5_81 mv_X5_refused mp_X5_refused rfl ⟨leb rfl, leb rfl⟩ rfl (ltb rfl) g3 rfl (leb rfl) (leb rfl) (leb rfl) rfl (am_X5_refused hG h) (kkI fun v2 X1 h => ?_) (kxN KrI.no)
  refine aw_widen (cc' := 0) (ss' := 0) (leb rfl) (leb rfl) ?_
  refine aw_if_eq 23 19 dX5_readyByClauses_16 rfl rfl (fun c4 => ?_) (fun c4 => ?_)
  · replace h := h.1 c4
    refine aw_aload_n 24 dX5_readyByClauses_23 rfl 0 rfl rfl ?_
    refine aw_iload_n 25 dX5_readyByClauses_24 rfl 1 rfl rfl ?_
    obtain ⟨g7, h⟩ := h
    refine aw_callV (M' := M_X5_ready) 28 206 5 l0 [.int _] [] dX5_readyByClauses_25 lk_RX5_206 mv_X5_ready mp_X5_ready rfl ⟨leb rfl, leb rfl⟩ rfl (ltb rfl) g7 rfl (leb rfl) (leb rfl) (leb rfl) rfl (am_X5_ready hG h) (kkI fun v6 X5 h => ?_) (kxN KrI.no)
    refine aw_widen (cc' := 0) (ss' := 0) (leb rfl) (leb rfl) ?_
    exact aw_ireturn (ty := .int) dX5_readyByClauses_28 rfl rfl (leb rfl) (leb rfl) ⟨_, rfl, h⟩
  · replace h := h.2 c4
    refine aw_iconst 20 (v := 0) dX5_readyByClauses_19 kI_0 rfl ?_
    refine aw_goto 28 dX5_readyByClauses_20 rfl ?_
    exact aw_ireturn (ty := .int) dX5_readyByClauses_28 rfl rfl (leb rfl) (leb rfl) ⟨_, rfl, h⟩
set_option maxRecDepth 20000 in
theorem am_X5_readyByClauses {G : GG} (hG : G.1.stackTraces = false) {l0 : Nat} {l1 : Int32} {X : XH} {K : Int32 → XH → Prop} (h : w_X5_readyByClauses l0 l1 X K) : AM G M_X5_readyByClauses X [.ref l0, .int l1] (KrI K) := AM_of (by decide +kernel) rfl (leb rfl) hG (by
  show AW G M_X5_readyByClauses 0 [(0, .ref l0), (1, .int l1)] [] X 0 0 _
  unfold w_X5_readyByClauses at h
  refine aw_aload_n 1 dX5_readyByClauses_0 rfl 0 rfl rfl ?_
  refine aw_iload_n 2 dX5_readyByClauses_1 rfl 1 rfl rfl ?_
  refine aw_callS (M' := M_X5_isTongue) 5 38 [.int _] [.ref _] dX5_readyByClauses_2 lk_RX5_38 ms_X5_isTongue mp_X5_isTongue rfl ⟨leb rfl, leb rfl⟩ rfl (leb rfl) (leb rfl) (leb rfl) rfl (am_X5_isTongue hG h) (kkI fun v2 X1 h => ?_) (kxN KrI.no)
  refine aw_widen (cc' := 0) (ss' := 0) (leb rfl) (leb rfl) ?_
  refine aw_if_eq 12 8 dX5_readyByClauses_5 rfl rfl (fun c3 => ?_) (fun c3 => ?_)
  · replace h := h.1 c3
    refine aw_iconst 13 (v := 1) dX5_readyByClauses_12 kI_1 rfl ?_
    exact aw_pick [0, 1] rfl (aw_X5_readyByClauses_13 hG  h)
  · replace h := h.2 c3
    refine aw_iconst 9 (v := 0) dX5_readyByClauses_8 kI_0 rfl ?_
    refine aw_goto 13 dX5_readyByClauses_9 rfl ?_
    exact aw_pick [0, 1] rfl (aw_X5_readyByClauses_13 hG  h))
set_option maxRecDepth 20000 in
theorem aw_X3_readyOfVoice_5 {G : GG} (hG : G.1.stackTraces = false)  {l0 : Nat} {l1 : Int32} {l2 : Int32} {l3 : Int32} {l4 : Int32} {X : XH} {K : Int32 → XH → Prop}  (h : w_X3_readyOfVoice_5  l0 l1 l2 l3 l4 X K) : AW G M_X3_readyOfVoice 5 [(0, .ref l0), (1, .int l1), (2, .int l2), (3, .int l3), (4, .int l4)] [] X 0 0 (KrI K) :=
  h (fun l0 l1 l2 l3 l4 X => AW G M_X3_readyOfVoice 5 [(0, .ref l0), (1, .int l1), (2, .int l2), (3, .int l3), (4, .int l4)] [] X 0 0 (KrI K)) (fun l0 l1 l2 l3 l4 X h => by
    refine aw_iload 7 dX3_readyOfVoice_5 4 rfl rfl ?_
    refine aw_aload_n 8 dX3_readyOfVoice_7 rfl 0 rfl rfl ?_
    obtain ⟨g1, h⟩ := h
    refine aw_getI 11 dX3_readyOfVoice_8 fl_RX3_45 rfl g1 rfl ?_
    refine aw_icmp_ge 50 14 dX3_readyOfVoice_11 rfl rfl (fun c2 => ?_) (fun c2 => ?_)
    · replace h := h.1 c2
      refine aw_iload_n 51 dX3_readyOfVoice_50 rfl 3 rfl rfl ?_
      exact aw_ireturn (ty := .int) dX3_readyOfVoice_51 rfl rfl (leb rfl) (leb rfl) ⟨_, rfl, h⟩
    · replace h := h.2 c2
      refine aw_aload_n 15 dX3_readyOfVoice_14 rfl 0 rfl rfl ?_
      refine aw_iload 17 dX3_readyOfVoice_15 4 rfl rfl ?_
      refine aw_callV (M' := M_X3_speakerAt) 20 77 3 l0 [.int _] [] dX3_readyOfVoice_17 lk_RX3_77 mv_X3_speakerAt mp_X3_speakerAt rfl ⟨leb rfl, leb rfl⟩ rfl (ltb rfl) g1 rfl (leb rfl) (leb rfl) (leb rfl) rfl (am_X3_speakerAt hG h) (kkI fun v4 X3 h => ?_) (kxN KrI.no)
      refine aw_widen (cc' := 0) (ss' := 0) (leb rfl) (leb rfl) ?_
      refine aw_iload_n 21 dX3_readyOfVoice_20 rfl 1 rfl rfl ?_
      refine aw_icmp_ne 44 24 dX3_readyOfVoice_21 rfl rfl (fun c5 => ?_) (fun c5 => ?_)
      · replace h := h.1 c5
        refine aw_iinc 47 (v := 1) (lv' := [(4, _), (0, _), (1, _), (2, _), (3, _)]) dX3_readyOfVoice_44 4 rfl kI_1 (ltb rfl) rfl rfl ?_
        refine aw_goto 5 dX3_readyOfVoice_47 rfl ?_
        exact aw_pick [1, 2, 3, 4, 0] rfl h
      · replace h := h.2 c5
        refine aw_aload_n 25 dX3_readyOfVoice_24 rfl 0 rfl rfl ?_
        refine aw_iload 27 dX3_readyOfVoice_25 4 rfl rfl ?_
        refine aw_iload_n 28 dX3_readyOfVoice_27 rfl 2 rfl rfl ?_
        obtain ⟨g8, h⟩ := h
        refine aw_callV (M' := M_X3_isReady) 31 134 3 l0 [.int _, .int _] [] dX3_readyOfVoice_28 lk_RX3_134 mv_X3_isReady mp_X3_isReady rfl ⟨leb rfl, leb rfl⟩ rfl (ltb rfl) g8 rfl (leb rfl) (leb rfl) (leb rfl) rfl (am_X3_isReady hG h) (kkI fun v7 X6 h => ?_) (kxN KrI.no)
        refine aw_widen (cc' := 0) (ss' := 0) (leb rfl) (leb rfl) ?_
        refine aw_if_eq 44 34 dX3_readyOfVoice_31 rfl rfl (fun c9 => ?_) (fun c9 => ?_)
        · replace h := h.1 c9
          refine aw_iinc 47 (v := 1) (lv' := [(4, _), (0, _), (1, _), (2, _), (3, _)]) dX3_readyOfVoice_44 4 rfl kI_1 (ltb rfl) rfl rfl ?_
          refine aw_goto 5 dX3_readyOfVoice_47 rfl ?_
          exact aw_pick [1, 2, 3, 4, 0] rfl h
        · replace h := h.2 c9
          refine aw_iload_n 35 dX3_readyOfVoice_34 rfl 3 rfl rfl ?_
          refine aw_aload_n 36 dX3_readyOfVoice_35 rfl 0 rfl rfl ?_
          refine aw_iload 38 dX3_readyOfVoice_36 4 rfl rfl ?_
          refine aw_iload_n 39 dX3_readyOfVoice_38 rfl 2 rfl rfl ?_
          obtain ⟨g12, h⟩ := h
          refine aw_callV (M' := M_X3_spokenAt) 42 85 3 l0 [.int _, .int _] [.int _] dX3_readyOfVoice_39 lk_RX3_85 mv_X3_spokenAt mp_X3_spokenAt rfl ⟨leb rfl, leb rfl⟩ rfl (ltb rfl) g12 rfl (leb rfl) (leb rfl) (leb rfl) rfl (am_X3_spokenAt hG h) (kkI fun v11 X10 h => ?_) (kxN KrI.no)
          refine aw_widen (cc' := 0) (ss' := 0) (leb rfl) (leb rfl) ?_
          refine aw_iadd 43 dX3_readyOfVoice_42 rfl ?_
          refine aw_istore_n 44 (lv' := [(3, _), (0, _), (1, _), (2, _), (4, _)]) dX3_readyOfVoice_43 rfl (ltb rfl) rfl rfl ?_
          refine aw_iinc 47 (v := 1) (lv' := [(4, _), (3, _), (0, _), (1, _), (2, _)]) dX3_readyOfVoice_44 4 rfl kI_1 (ltb rfl) rfl rfl ?_
          refine aw_goto 5 dX3_readyOfVoice_47 rfl ?_
          exact aw_pick [2, 3, 4, 1, 0] rfl h)
set_option maxRecDepth 20000 in
theorem am_X3_readyOfVoice {G : GG} (hG : G.1.stackTraces = false) {l0 : Nat} {l1 : Int32} {l2 : Int32} {X : XH} {K : Int32 → XH → Prop} (h : w_X3_readyOfVoice l0 l1 l2 X K) : AM G M_X3_readyOfVoice X [.ref l0, .int l1, .int l2] (KrI K) := AM_of (by decide +kernel) rfl (leb rfl) hG (by
  show AW G M_X3_readyOfVoice 0 [(0, .ref l0), (1, .int l1), (2, .int l2)] [] X 0 0 _
  unfold w_X3_readyOfVoice at h
  refine aw_iconst 1 (v := 0) dX3_readyOfVoice_0 kI_0 rfl ?_
  refine aw_istore_n 2 (lv' := [(3, _), (0, _), (1, _), (2, _)]) dX3_readyOfVoice_1 rfl (ltb rfl) rfl rfl ?_
  refine aw_iconst 3 (v := 0) dX3_readyOfVoice_2 kI_0 rfl ?_
  refine aw_istore 5 (lv' := [(4, _), (3, _), (0, _), (1, _), (2, _)]) dX3_readyOfVoice_3 (ltb rfl) rfl rfl ?_
  exact aw_pick [2, 3, 4, 1, 0] rfl (aw_X3_readyOfVoice_5 hG  h))
set_option maxRecDepth 20000 in
theorem aw_X3_readyOfAllVoices_4 {G : GG} (hG : G.1.stackTraces = false)  {l0 : Nat} {l1 : Int32} {l2 : Int32} {l3 : Int32} {X : XH} {K : Int32 → XH → Prop}  (h : w_X3_readyOfAllVoices_4  l0 l1 l2 l3 X K) : AW G M_X3_readyOfAllVoices 4 [(0, .ref l0), (1, .int l1), (2, .int l2), (3, .int l3)] [] X 0 0 (KrI K) :=
  h (fun l0 l1 l2 l3 X => AW G M_X3_readyOfAllVoices 4 [(0, .ref l0), (1, .int l1), (2, .int l2), (3, .int l3)] [] X 0 0 (KrI K)) (fun l0 l1 l2 l3 X h => by
    refine aw_iload_n 5 dX3_readyOfAllVoices_4 rfl 3 rfl rfl ?_
    refine aw_iconst 6 (v := 5) dX3_readyOfAllVoices_5 kI_5 rfl ?_
    refine aw_icmp_ge 24 9 dX3_readyOfAllVoices_6 rfl rfl (fun c1 => ?_) (fun c1 => ?_)
    · replace h := h.1 c1
      refine aw_iload_n 25 dX3_readyOfAllVoices_24 rfl 2 rfl rfl ?_
      exact aw_ireturn (ty := .int) dX3_readyOfAllVoices_25 rfl rfl (leb rfl) (leb rfl) ⟨_, rfl, h⟩
    · replace h := h.2 c1
      refine aw_iload_n 10 dX3_readyOfAllVoices_9 rfl 2 rfl rfl ?_
      refine aw_aload_n 11 dX3_readyOfAllVoices_10 rfl 0 rfl rfl ?_
      refine aw_iload_n 12 dX3_readyOfAllVoices_11 rfl 3 rfl rfl ?_
      refine aw_iload_n 13 dX3_readyOfAllVoices_12 rfl 1 rfl rfl ?_
      obtain ⟨g4, h⟩ := h
      refine aw_callV (M' := M_X3_readyOfVoice) 16 166 3 l0 [.int _, .int _] [.int _] dX3_readyOfAllVoices_13 lk_RX3_166 mv_X3_readyOfVoice mp_X3_readyOfVoice rfl ⟨leb rfl, leb rfl⟩ rfl (ltb rfl) g4 rfl (leb rfl) (leb rfl) (leb rfl) rfl (am_X3_readyOfVoice hG h) (kkI fun v3 X2 h => ?_) (kxN KrI.no)
      refine aw_widen (cc' := 0) (ss' := 0) (leb rfl) (leb rfl) ?_
      refine aw_iadd 17 dX3_readyOfAllVoices_16 rfl ?_
      refine aw_istore_n 18 (lv' := [(2, _), (0, _), (1, _), (3, _)]) dX3_readyOfAllVoices_17 rfl (ltb rfl) rfl rfl ?_
      refine aw_iinc 21 (v := 1) (lv' := [(3, _), (2, _), (0, _), (1, _)]) dX3_readyOfAllVoices_18 3 rfl kI_1 (ltb rfl) rfl rfl ?_
      refine aw_goto 4 dX3_readyOfAllVoices_21 rfl ?_
      exact aw_pick [2, 3, 1, 0] rfl h)
set_option maxRecDepth 20000 in
theorem am_X3_readyOfAllVoices {G : GG} (hG : G.1.stackTraces = false) {l0 : Nat} {l1 : Int32} {X : XH} {K : Int32 → XH → Prop} (h : w_X3_readyOfAllVoices l0 l1 X K) : AM G M_X3_readyOfAllVoices X [.ref l0, .int l1] (KrI K) := AM_of (by decide +kernel) rfl (leb rfl) hG (by
  show AW G M_X3_readyOfAllVoices 0 [(0, .ref l0), (1, .int l1)] [] X 0 0 _
  unfold w_X3_readyOfAllVoices at h
  refine aw_iconst 1 (v := 0) dX3_readyOfAllVoices_0 kI_0 rfl ?_
  refine aw_istore_n 2 (lv' := [(2, _), (0, _), (1, _)]) dX3_readyOfAllVoices_1 rfl (ltb rfl) rfl rfl ?_
  refine aw_iconst 3 (v := 0) dX3_readyOfAllVoices_2 kI_0 rfl ?_
  refine aw_istore_n 4 (lv' := [(3, _), (2, _), (0, _), (1, _)]) dX3_readyOfAllVoices_3 rfl (ltb rfl) rfl rfl ?_
  exact aw_pick [2, 3, 1, 0] rfl (aw_X3_readyOfAllVoices_4 hG  h))
set_option maxRecDepth 20000 in
theorem am_X4_readyByVoices {G : GG} (hG : G.1.stackTraces = false) {l0 : Nat} {l1 : Int32} {X : XH} {K : Int32 → XH → Prop} {KX : String → XH → Prop} (h : w_X4_readyByVoices l0 l1 X K KX) : AM G M_X4_readyByVoices X [.ref l0, .int l1] (KxT (KrI K) KX) := AM_of (by decide +kernel) rfl (leb rfl) hG (by
  show AW G M_X4_readyByVoices 0 [(0, .ref l0), (1, .int l1)] [] X 0 0 _
  unfold w_X4_readyByVoices at h
  refine aw_iload_n 1 dX4_readyByVoices_0 rfl 1 rfl rfl ?_
  refine aw_callS (M' := M_X4_checkTongue) 4 195 [.int _] [] dX4_readyByVoices_1 lk_RX4_195 ms_X4_checkTongue mp_X4_checkTongue rfl ⟨leb rfl, leb rfl⟩ rfl (leb rfl) (leb rfl) (leb rfl) rfl (am_X4_checkTongue hG h) (kkT (kkV fun X1 h => ?_)) (kxT KrV.no fun E X h => at_out rfl (leb rfl) (leb rfl) (Or.inr ⟨_, rfl, h⟩))
  refine aw_widen (cc' := 1) (ss' := 6) (leb rfl) (leb rfl) ?_
  refine aw_aload_n 5 dX4_readyByVoices_4 rfl 0 rfl rfl ?_
  obtain ⟨g2, h⟩ := h
  obtain ⟨g3, h⟩ := h
  refine aw_getR 8 dX4_readyByVoices_5 fl_RX4_10 rfl g2 g3 rfl ?_
  refine aw_iload_n 9 dX4_readyByVoices_8 rfl 1 rfl rfl ?_
  obtain ⟨g6, h⟩ := h
  refine aw_callV (M' := M_X3_readyOfAllVoices) 12 322 3 (hR X1 l0 0) [.int _] [] dX4_readyByVoices_9 lk_RX4_322 mv_X3_readyOfAllVoices mp_X3_readyOfAllVoices rfl ⟨leb rfl, leb rfl⟩ rfl (ltb rfl) g6 rfl (leb rfl) (leb rfl) (leb rfl) rfl (am_X3_readyOfAllVoices hG h) (kkI fun v5 X4 h => ?_) (kxN KrI.no)
  refine aw_widen (cc' := 1) (ss' := 6) (leb rfl) (leb rfl) ?_
  exact aw_ireturn (ty := .int) dX4_readyByVoices_12 rfl rfl (leb rfl) (leb rfl) (Or.inl ⟨_, rfl, h⟩))
end XWK8
