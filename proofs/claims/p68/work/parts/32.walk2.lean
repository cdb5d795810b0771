/-! the walks of methods, as predicates -/
section XWK2
set_option maxRecDepth 20000 in
theorem am_X1_popInto {G : GG} (hG : G.1.stackTraces = false) {l0 : Nat} {l1 : Nat} {X : XH} {K : XH → Prop} (h : w_X1_popInto l0 l1 X K) : AM G M_X1_popInto X [.ref l0, .ref l1] (KrV K) := AM_of (by decide +kernel) rfl (leb rfl) hG (by
  show AW G M_X1_popInto 0 [(0, .ref l0), (1, .ref l1)] [] X 0 0 _
  unfold w_X1_popInto at h
  refine aw_aload_n 1 dX1_popInto_0 rfl 0 rfl rfl ?_
  obtain ⟨g1, h⟩ := h
  refine aw_getI 4 dX1_popInto_1 fl_RX1_18 rfl g1 rfl ?_
  refine aw_if_le 36 7 dX1_popInto_4 rfl rfl (fun c2 => ?_) (fun c2 => ?_)
  · replace h := h.1 c2
    exact aw_return dX1_popInto_36 rfl (leb rfl) (leb rfl) ⟨rfl, h⟩
  · replace h := h.2 c2
    refine aw_aload_n 8 dX1_popInto_7 rfl 1 rfl rfl ?_
    refine aw_ifnull 11 dX1_popInto_8 rfl ?_
    refine aw_aload_n 12 dX1_popInto_11 rfl 0 rfl rfl ?_
    refine aw_dup 13 dX1_popInto_12 rfl rfl ?_
    refine aw_getI 16 dX1_popInto_13 fl_RX1_18 rfl g1 rfl ?_
    refine aw_iconst 17 (v := 1) dX1_popInto_16 kI_1 rfl ?_
    refine aw_isub 18 dX1_popInto_17 rfl ?_
    refine aw_putI 21 dX1_popInto_18 fl_RX1_18 rfl rfl rfl rfl g1 rfl ?_
    refine aw_aload_n 22 dX1_popInto_21 rfl 1 rfl rfl ?_
    refine aw_aload_n 23 dX1_popInto_22 rfl 0 rfl rfl ?_
    obtain ⟨g3, h⟩ := h
    refine aw_getR 26 dX1_popInto_23 fl_RX1_11 rfl g1 g3 rfl ?_
    refine aw_aload_n 27 dX1_popInto_26 rfl 0 rfl rfl ?_
    refine aw_getI 30 dX1_popInto_27 fl_RX1_18 rfl g1 rfl ?_
    refine aw_callSN (M' := M_X4_treatyAt) 33 25 [.ref _, .int _] [.ref _] dX1_popInto_30 (by decide) ms_X4_treatyAt mp_X4_treatyAt rfl ⟨leb rfl, leb rfl⟩ rfl (leb rfl) (leb rfl) (leb rfl) rfl (am_X4_treatyAt hG h) (kkR fun v5 X4 h => ?_) KrR.no
    refine aw_widen (cc' := 0) (ss' := 0) (leb rfl) (leb rfl) ?_
    obtain ⟨g7, h⟩ := h
    refine aw_callV (M' := M_X3_becomeLike) 36 29 3 l1 [.ref _] [] dX1_popInto_33 lk_RX1_29 mv_X3_becomeLike mp_X3_becomeLike rfl ⟨leb rfl, leb rfl⟩ rfl (ltb rfl) g7 rfl (leb rfl) (leb rfl) (leb rfl) rfl (am_X3_becomeLike hG h) (kkV fun X6 h => ?_) (kxN KrV.no)
    refine aw_widen (cc' := 0) (ss' := 0) (leb rfl) (leb rfl) ?_
    exact aw_return dX1_popInto_36 rfl (leb rfl) (leb rfl) ⟨rfl, h⟩)
set_option maxRecDepth 20000 in
theorem am_X4_undo {G : GG} (hG : G.1.stackTraces = false) {l0 : Nat} {X : XH} {K : XH → Prop} {KX : String → XH → Prop} (h : w_X4_undo l0 X K KX) : AM G M_X4_undo X [.ref l0] (KxT (KrV K) KX) := AM_of (by decide +kernel) rfl (leb rfl) hG (by
  show AW G M_X4_undo 0 [(0, .ref l0)] [] X 0 0 _
  unfold w_X4_undo at h
  refine aw_aload_n 1 dX4_undo_0 rfl 0 rfl rfl ?_
  obtain ⟨g1, h⟩ := h
  obtain ⟨g2, h⟩ := h
  refine aw_getR 4 dX4_undo_1 fl_RX4_19 rfl g1 g2 rfl ?_
  obtain ⟨g3, h⟩ := h
  refine aw_getI 7 dX4_undo_4 fl_RX4_277 rfl g3 rfl ?_
  refine aw_if_gt 21 10 dX4_undo_7 rfl rfl (fun c4 => ?_) (fun c4 => ?_)
  · replace h := h.1 c4
    refine aw_aload_n 22 dX4_undo_21 rfl 0 rfl rfl ?_
    refine aw_getR 25 dX4_undo_22 fl_RX4_19 rfl g1 g2 rfl ?_
    refine aw_aload_n 26 dX4_undo_25 rfl 0 rfl rfl ?_
    obtain ⟨g5, h⟩ := h
    refine aw_getR 29 dX4_undo_26 fl_RX4_10 rfl g1 g5 rfl ?_
    refine aw_callV (M' := M_X1_popInto) 32 280 1 (hR X l0 1) [.ref _] [] dX4_undo_29 lk_RX4_280 mv_X1_popInto mp_X1_popInto rfl ⟨leb rfl, leb rfl⟩ rfl (ltb rfl) g3 rfl (leb rfl) (leb rfl) (leb rfl) rfl (am_X1_popInto hG h) (kkV fun X6 h => ?_) (kxN KrV.no)
    refine aw_widen (cc' := 0) (ss' := 0) (leb rfl) (leb rfl) ?_
    exact aw_return dX4_undo_32 rfl (leb rfl) (leb rfl) (Or.inl ⟨rfl, h⟩)
  · replace h := h.2 c4
    exact aw_throw xcS 60 278 64 rfl th_xcS (by decide) (Or.inr ⟨dX4_undo_10, dX4_undo_13, dX4_undo_14, dX4_undo_17, dX4_undo_20⟩) rfl (ltb rfl) (leb rfl) (leb rfl) (leb rfl) (Or.inr ⟨_, rfl, h⟩))
set_option maxRecDepth 20000 in
theorem am_L_undo {G : GG} (hG : G.1.stackTraces = false) {l0 : Nat} {X : XH} {K : Int32 → XH → Prop} (h : w_L_undo l0 X K) : AM G M_L_undo X [.ref l0] (KrI K) := AM_ofH (by decide +kernel) (0, 5, 6, 19) [] rfl (leb rfl) hG (by
  show AW G M_L_undo 0 [(0, .ref l0)] [] X 0 0 _
  unfold w_L_undo at h
  refine aw_aload_n 1 dL_undo_0 rfl 0 rfl rfl ?_
  obtain ⟨g2, h⟩ := h
  refine aw_callV (M' := M_X4_undo) 4 188 4 l0 [] [] dL_undo_1 lk_RL_188 mv_X4_undo mp_X4_undo rfl ⟨leb rfl, leb rfl⟩ rfl (ltb rfl) g2 rfl (leb rfl) (leb rfl) (leb rfl) rfl (am_X4_undo hG h) (kkT (kkV fun X1 h => ?_)) (kxT KrV.no fun E X1 h => ?_)
  · refine aw_widen (cc' := 1) (ss' := 6) (leb rfl) (leb rfl) ?_
    refine aw_iconst 5 (v := 1) dL_undo_4 kI_1 rfl ?_
    exact aw_ireturn (ty := .int) dL_undo_5 rfl rfl (leb rfl) (leb rfl) ⟨_, rfl, h⟩
  · obtain ⟨hE, h⟩ := h
    rcases hE with rfl
    refine aw_atc (lv' := [(0, .ref _)]) [] (0, 5, 6, 19) [] rfl (fun z hz => nomatch hz) (by decide) (by decide) (tk3 (i := 42) (by decide +kernel) rfl) (by decide) 1 1 7 (Or.inl ⟨1, rfl, dL_undo_6, rfl⟩) (ltb rfl) rfl ?_
    refine aw_widen (cc' := 1) (ss' := 6) (leb rfl) (leb rfl) ?_
    replace h := h rfl
    refine aw_bipush 9 (v := -4) dL_undo_7 kB_m4 rfl ?_
    exact aw_ireturn (ty := .int) dL_undo_9 rfl rfl (leb rfl) (leb rfl) ⟨_, rfl, h⟩)
set_option maxRecDepth 20000 in
theorem am_X4_keep {G : GG} (hG : G.1.stackTraces = false) {l0 : Nat} {l1 : Int32} {X : XH} {K : XH → Prop} {KX : String → XH → Prop} (h : w_X4_keep l0 l1 X K KX) : AM G M_X4_keep X [.ref l0, .int l1] (KxT (KrV K) KX) := AM_of (by decide +kernel) rfl (leb rfl) hG (by
  show AW G M_X4_keep 0 [(0, .ref l0), (1, .int l1)] [] X 0 0 _
  unfold w_X4_keep at h
  refine aw_iload_n 1 dX4_keep_0 rfl 1 rfl rfl ?_
  refine aw_iconst 2 (v := 0) dX4_keep_1 kI_0 rfl ?_
  refine aw_iconst 3 (v := 1) dX4_keep_2 kI_1 rfl ?_
  refine aw_callS (M' := M_X4_checkRange) 6 52 [.int _, .int _, .int _] [] dX4_keep_3 lk_RX4_52 ms_X4_checkRange mp_X4_checkRange rfl ⟨leb rfl, leb rfl⟩ rfl (leb rfl) (leb rfl) (leb rfl) rfl (am_X4_checkRange hG h) (kkT (kkV fun X1 h => ?_)) (kxT KrV.no fun E X h => at_out rfl (leb rfl) (leb rfl) (Or.inr ⟨_, rfl, h⟩))
  refine aw_widen (cc' := 1) (ss' := 6) (leb rfl) (leb rfl) ?_
  refine aw_aload_n 7 dX4_keep_6 rfl 0 rfl rfl ?_
  obtain ⟨g2, h⟩ := h
  obtain ⟨g3, h⟩ := h
  refine aw_getR 10 dX4_keep_7 fl_RX4_23 rfl g2 g3 rfl ?_
  refine aw_iload_n 11 dX4_keep_10 rfl 1 rfl rfl ?_
  refine aw_callS (M' := M_X4_treatyAt) 14 265 [.ref _, .int _] [] dX4_keep_11 lk_RX4_265 ms_X4_treatyAt mp_X4_treatyAt rfl ⟨leb rfl, leb rfl⟩ rfl (leb rfl) (leb rfl) (leb rfl) rfl (am_X4_treatyAt hG h) (kkR fun v5 X4 h => ?_) (kxN KrR.no)
  refine aw_widen (cc' := 1) (ss' := 6) (leb rfl) (leb rfl) ?_
  refine aw_astore_n 15 (lv' := [(2, _), (0, _), (1, _)]) dX4_keep_14 rfl (ltb rfl) rfl rfl ?_
  refine aw_aload_n 16 dX4_keep_15 rfl 0 rfl rfl ?_
  refine aw_ifnull 19 dX4_keep_16 rfl ?_
  refine aw_iload_n 20 dX4_keep_19 rfl 2 rfl rfl ?_
  refine aw_if_lt 47 23 dX4_keep_20 rfl rfl (fun c6 => ?_) (fun c6 => ?_)
  · replace h := h.1 c6
    exact aw_return dX4_keep_47 rfl (leb rfl) (leb rfl) (Or.inl ⟨rfl, h⟩)
  · replace h := h.2 c6
    refine aw_iload_n 24 dX4_keep_23 rfl 2 rfl rfl ?_
    refine aw_aload_n 25 dX4_keep_24 rfl 1 rfl rfl ?_
    obtain ⟨g7, h⟩ := h
    obtain ⟨g8, h⟩ := h
    refine aw_getR 28 dX4_keep_25 fl_RX4_27 rfl g7 g8 rfl ?_
    obtain ⟨g9, h⟩ := h
    refine aw_alen 29 dX4_keep_28 g9 rfl ?_
    refine aw_icmp_ge 47 32 dX4_keep_29 rfl rfl (fun c10 => ?_) (fun c10 => ?_)
    · replace h := h.1 c10
      exact aw_return dX4_keep_47 rfl (leb rfl) (leb rfl) (Or.inl ⟨rfl, h⟩)
    · replace h := h.2 c10
      refine aw_aload_n 33 dX4_keep_32 rfl 0 rfl rfl ?_
      refine aw_aload_n 34 dX4_keep_33 rfl 1 rfl rfl ?_
      obtain ⟨g11, h⟩ := h
      refine aw_getR 37 dX4_keep_34 fl_RX4_10 rfl g7 g11 rfl ?_
      obtain ⟨g13, h⟩ := h
      refine aw_callV (M' := M_X3_becomeLike) 40 269 3 v5 [.ref _] [] dX4_keep_37 lk_RX4_269 mv_X3_becomeLike mp_X3_becomeLike rfl ⟨leb rfl, leb rfl⟩ rfl (ltb rfl) g13 rfl (leb rfl) (leb rfl) (leb rfl) rfl (am_X3_becomeLike hG h) (kkV fun X12 h => ?_) (kxN KrV.no)
      refine aw_widen (cc' := 1) (ss' := 6) (leb rfl) (leb rfl) ?_
      refine aw_aload_n 41 dX4_keep_40 rfl 1 rfl rfl ?_
      obtain ⟨g14, h⟩ := h
      obtain ⟨g15, h⟩ := h
      refine aw_getR 44 dX4_keep_41 fl_RX4_27 rfl g14 g15 rfl ?_
      refine aw_iload_n 45 dX4_keep_44 rfl 2 rfl rfl ?_
      refine aw_iconst 46 (v := 1) dX4_keep_45 kI_1 rfl ?_
      obtain ⟨g16, h⟩ := h
      obtain ⟨g17, h⟩ := h
      refine aw_bastore 47 dX4_keep_46 g16 g17 (Or.inr rfl) rfl ?_
      exact aw_return dX4_keep_47 rfl (leb rfl) (leb rfl) (Or.inl ⟨rfl, h⟩))
set_option maxRecDepth 20000 in
theorem am_L_keep {G : GG} (hG : G.1.stackTraces = false) {l0 : Nat} {l1 : Int32} {X : XH} {K : Int32 → XH → Prop} (h : w_L_keep l0 l1 X K) : AM G M_L_keep X [.ref l0, .int l1] (KrI K) := AM_ofH (by decide +kernel) (0, 6, 7, 17) [] rfl (leb rfl) hG (by
  show AW G M_L_keep 0 [(0, .ref l0), (1, .int l1)] [] X 0 0 _
  unfold w_L_keep at h
  refine aw_aload_n 1 dL_keep_0 rfl 0 rfl rfl ?_
  refine aw_iload_n 2 dL_keep_1 rfl 1 rfl rfl ?_
  obtain ⟨g2, h⟩ := h
  refine aw_callV (M' := M_X4_keep) 5 181 4 l0 [.int _] [] dL_keep_2 lk_RL_181 mv_X4_keep mp_X4_keep rfl ⟨leb rfl, leb rfl⟩ rfl (ltb rfl) g2 rfl (leb rfl) (leb rfl) (leb rfl) rfl (am_X4_keep hG h) (kkT (kkV fun X1 h => ?_)) (kxT KrV.no fun E X1 h => ?_)
  · refine aw_widen (cc' := 1) (ss' := 6) (leb rfl) (leb rfl) ?_
    refine aw_iconst 6 (v := 1) dL_keep_5 kI_1 rfl ?_
    exact aw_ireturn (ty := .int) dL_keep_6 rfl rfl (leb rfl) (leb rfl) ⟨_, rfl, h⟩
  · obtain ⟨hE, h⟩ := h
    rcases hE with rfl
    refine aw_atc (lv' := [(0, .ref _), (1, .int _)]) [] (0, 6, 7, 17) [] rfl (fun z hz => nomatch hz) (by decide) (by decide) (tk3 (i := 41) (by decide +kernel) rfl) (by decide) 2 1 8 (Or.inl ⟨2, rfl, dL_keep_7, rfl⟩) (ltb rfl) rfl ?_
    refine aw_widen (cc' := 1) (ss' := 6) (leb rfl) (leb rfl) ?_
    replace h := h rfl
    refine aw_bipush 10 (v := -3) dL_keep_8 kB_m3 rfl ?_
    exact aw_ireturn (ty := .int) dL_keep_10 rfl rfl (leb rfl) (leb rfl) ⟨_, rfl, h⟩)
set_option maxRecDepth 20000 in
theorem am_X4_hasSnapshot {G : GG} (hG : G.1.stackTraces = false) {l0 : Nat} {l1 : Int32} {X : XH} {K : Int32 → XH → Prop} (h : w_X4_hasSnapshot l0 l1 X K) : AM G M_X4_hasSnapshot X [.ref l0, .int l1] (KrI K) := AM_of (by decide +kernel) rfl (leb rfl) hG (by
  show AW G M_X4_hasSnapshot 0 [(0, .ref l0), (1, .int l1)] [] X 0 0 _
  unfold w_X4_hasSnapshot at h
  refine aw_iload_n 1 dX4_hasSnapshot_0 rfl 1 rfl rfl ?_
  refine aw_if_lt 26 4 dX4_hasSnapshot_1 rfl rfl (fun c1 => ?_) (fun c1 => ?_)
  · replace h := h.1 c1
    refine aw_iconst 27 (v := 0) dX4_hasSnapshot_26 kI_0 rfl ?_
    exact aw_ireturn (ty := .boolean) dX4_hasSnapshot_27 rfl rfl (leb rfl) (leb rfl) ⟨_, rfl, h⟩
  · replace h := h.2 c1
    refine aw_iload_n 5 dX4_hasSnapshot_4 rfl 1 rfl rfl ?_
    refine aw_aload_n 6 dX4_hasSnapshot_5 rfl 0 rfl rfl ?_
    obtain ⟨g2, h⟩ := h
    obtain ⟨g3, h⟩ := h
    refine aw_getR 9 dX4_hasSnapshot_6 fl_RX4_27 rfl g2 g3 rfl ?_
    obtain ⟨g4, h⟩ := h
    refine aw_alen 10 dX4_hasSnapshot_9 g4 rfl ?_
    refine aw_icmp_ge 26 13 dX4_hasSnapshot_10 rfl rfl (fun c5 => ?_) (fun c5 => ?_)
    · replace h := h.1 c5
      refine aw_iconst 27 (v := 0) dX4_hasSnapshot_26 kI_0 rfl ?_
      exact aw_ireturn (ty := .boolean) dX4_hasSnapshot_27 rfl rfl (leb rfl) (leb rfl) ⟨_, rfl, h⟩
    · replace h := h.2 c5
      refine aw_aload_n 14 dX4_hasSnapshot_13 rfl 0 rfl rfl ?_
      refine aw_getR 17 dX4_hasSnapshot_14 fl_RX4_27 rfl g2 g3 rfl ?_
      refine aw_iload_n 18 dX4_hasSnapshot_17 rfl 1 rfl rfl ?_
      obtain ⟨g6, h⟩ := h
      obtain ⟨g7, h⟩ := h
      refine aw_baload 19 dX4_hasSnapshot_18 g6 g7 rfl ?_
      refine aw_if_eq 26 22 dX4_hasSnapshot_19 rfl rfl (fun c8 => ?_) (fun c8 => ?_)
      · replace h := h.1 c8
        refine aw_iconst 27 (v := 0) dX4_hasSnapshot_26 kI_0 rfl ?_
        exact aw_ireturn (ty := .boolean) dX4_hasSnapshot_27 rfl rfl (leb rfl) (leb rfl) ⟨_, rfl, h⟩
      · replace h := h.2 c8
        refine aw_iconst 23 (v := 1) dX4_hasSnapshot_22 kI_1 rfl ?_
        refine aw_goto 27 dX4_hasSnapshot_23 rfl ?_
        exact aw_ireturn (ty := .boolean) dX4_hasSnapshot_27 rfl rfl (leb rfl) (leb rfl) ⟨_, rfl, h⟩)
set_option maxRecDepth 20000 in
theorem am_X4_goBack {G : GG} (hG : G.1.stackTraces = false) {l0 : Nat} {l1 : Int32} {X : XH} {K : XH → Prop} {KX : String → XH → Prop} (h : w_X4_goBack l0 l1 X K KX) : AM G M_X4_goBack X [.ref l0, .int l1] (KxT (KrV K) KX) := AM_of (by decide +kernel) rfl (leb rfl) hG (by
  show AW G M_X4_goBack 0 [(0, .ref l0), (1, .int l1)] [] X 0 0 _
  unfold w_X4_goBack at h
  refine aw_iload_n 1 dX4_goBack_0 rfl 1 rfl rfl ?_
  refine aw_iconst 2 (v := 0) dX4_goBack_1 kI_0 rfl ?_
  refine aw_iconst 3 (v := 1) dX4_goBack_2 kI_1 rfl ?_
  refine aw_callS (M' := M_X4_checkRange) 6 52 [.int _, .int _, .int _] [] dX4_goBack_3 lk_RX4_52 ms_X4_checkRange mp_X4_checkRange rfl ⟨leb rfl, leb rfl⟩ rfl (leb rfl) (leb rfl) (leb rfl) rfl (am_X4_checkRange hG h) (kkT (kkV fun X1 h => ?_)) (kxT KrV.no fun E X h => at_out rfl (leb rfl) (leb rfl) (Or.inr ⟨_, rfl, h⟩))
  refine aw_widen (cc' := 1) (ss' := 6) (leb rfl) (leb rfl) ?_
  refine aw_aload_n 7 dX4_goBack_6 rfl 0 rfl rfl ?_
  refine aw_iload_n 8 dX4_goBack_7 rfl 1 rfl rfl ?_
  obtain ⟨g4, h⟩ := h
  refine aw_callV (M' := M_X4_hasSnapshot) 11 272 4 l0 [.int _] [] dX4_goBack_8 lk_RX4_272 mv_X4_hasSnapshot mp_X4_hasSnapshot rfl ⟨leb rfl, leb rfl⟩ rfl (ltb rfl) g4 rfl (leb rfl) (leb rfl) (leb rfl) rfl (am_X4_hasSnapshot hG h) (kkI fun v3 X2 h => ?_) (kxN KrI.no)
  refine aw_widen (cc' := 1) (ss' := 6) (leb rfl) (leb rfl) ?_
  refine aw_if_ne 25 14 dX4_goBack_11 rfl rfl (fun c5 => ?_) (fun c5 => ?_)
  · replace h := h.1 c5
    refine aw_aload_n 26 dX4_goBack_25 rfl 0 rfl rfl ?_
    obtain ⟨g6, h⟩ := h
    obtain ⟨g7, h⟩ := h
    refine aw_getR 29 dX4_goBack_26 fl_RX4_19 rfl g6 g7 rfl ?_
    refine aw_aload_n 30 dX4_goBack_29 rfl 0 rfl rfl ?_
    obtain ⟨g8, h⟩ := h
    refine aw_getR 33 dX4_goBack_30 fl_RX4_10 rfl g6 g8 rfl ?_
    obtain ⟨g10, h⟩ := h
    refine aw_callV (M' := M_X1_push) 36 67 1 (hR X2 l0 1) [.ref _] [] dX4_goBack_33 lk_RX4_67 mv_X1_push mp_X1_push rfl ⟨leb rfl, leb rfl⟩ rfl (ltb rfl) g10 rfl (leb rfl) (leb rfl) (leb rfl) rfl (am_X1_push hG h) (kkV fun X9 h => ?_) (kxN KrV.no)
    refine aw_widen (cc' := 1) (ss' := 6) (leb rfl) (leb rfl) ?_
    refine aw_aload_n 37 dX4_goBack_36 rfl 0 rfl rfl ?_
    obtain ⟨g11, h⟩ := h
    obtain ⟨g12, h⟩ := h
    refine aw_getR 40 dX4_goBack_37 fl_RX4_10 rfl g11 g12 rfl ?_
    refine aw_aload_n 41 dX4_goBack_40 rfl 0 rfl rfl ?_
    obtain ⟨g13, h⟩ := h
    refine aw_getR 44 dX4_goBack_41 fl_RX4_23 rfl g11 g13 rfl ?_
    refine aw_iload_n 45 dX4_goBack_44 rfl 1 rfl rfl ?_
    refine aw_callS (M' := M_X4_treatyAt) 48 265 [.ref _, .int _] [.ref _] dX4_goBack_45 lk_RX4_265 ms_X4_treatyAt mp_X4_treatyAt rfl ⟨leb rfl, leb rfl⟩ rfl (leb rfl) (leb rfl) (leb rfl) rfl (am_X4_treatyAt hG h) (kkR fun v15 X14 h => ?_) (kxN KrR.no)
    refine aw_widen (cc' := 1) (ss' := 6) (leb rfl) (leb rfl) ?_
    obtain ⟨g17, h⟩ := h
    refine aw_callV (M' := M_X3_becomeLike) 51 269 3 (hR X9 l0 0) [.ref _] [] dX4_goBack_48 lk_RX4_269 mv_X3_becomeLike mp_X3_becomeLike rfl ⟨leb rfl, leb rfl⟩ rfl (ltb rfl) g17 rfl (leb rfl) (leb rfl) (leb rfl) rfl (am_X3_becomeLike hG h) (kkV fun X16 h => ?_) (kxN KrV.no)
    refine aw_widen (cc' := 1) (ss' := 6) (leb rfl) (leb rfl) ?_
    exact aw_return dX4_goBack_51 rfl (leb rfl) (leb rfl) (Or.inl ⟨rfl, h⟩)
  · replace h := h.2 c5
    exact aw_throw xcS 60 275 64 rfl th_xcS (by decide) (Or.inr ⟨dX4_goBack_14, dX4_goBack_17, dX4_goBack_18, dX4_goBack_21, dX4_goBack_24⟩) rfl (ltb rfl) (leb rfl) (leb rfl) (leb rfl) (Or.inr ⟨_, rfl, h⟩))
set_option maxRecDepth 20000 in
theorem am_L_goBack {G : GG} (hG : G.1.stackTraces = false) {l0 : Nat} {l1 : Int32} {X : XH} {K : Int32 → XH → Prop} (h : w_L_goBack l0 l1 X K) : AM G M_L_goBack X [.ref l0, .int l1] (KrI K) := AM_ofH (by decide +kernel) (0, 6, 7, 17) [(0, 6, 11, 19)] rfl (leb rfl) hG (by
  show AW G M_L_goBack 0 [(0, .ref l0), (1, .int l1)] [] X 0 0 _
  unfold w_L_goBack at h
  refine aw_aload_n 1 dL_goBack_0 rfl 0 rfl rfl ?_
  refine aw_iload_n 2 dL_goBack_1 rfl 1 rfl rfl ?_
  obtain ⟨g2, h⟩ := h
  refine aw_callV (M' := M_X4_goBack) 5 185 4 l0 [.int _] [] dL_goBack_2 lk_RL_185 mv_X4_goBack mp_X4_goBack rfl ⟨leb rfl, leb rfl⟩ rfl (ltb rfl) g2 rfl (leb rfl) (leb rfl) (leb rfl) rfl (am_X4_goBack hG h) (kkT (kkV fun X1 h => ?_)) (kxT KrV.no fun E X1 h => ?_)
  · refine aw_widen (cc' := 2) (ss' := 12) (leb rfl) (leb rfl) ?_
    refine aw_iconst 6 (v := 1) dL_goBack_5 kI_1 rfl ?_
    exact aw_ireturn (ty := .int) dL_goBack_6 rfl rfl (leb rfl) (leb rfl) ⟨_, rfl, h⟩
  · obtain ⟨hE, h⟩ := h
    rcases hE with rfl | rfl
    · refine aw_atc (lv' := [(0, .ref _), (1, .int _)]) [] (0, 6, 7, 17) [(0, 6, 11, 19)] rfl (fun z hz => nomatch hz) (by decide) (by decide) (tk3 (i := 41) (by decide +kernel) rfl) (by decide) 2 1 8 (Or.inl ⟨2, rfl, dL_goBack_7, rfl⟩) (ltb rfl) rfl ?_
      refine aw_widen (cc' := 2) (ss' := 12) (leb rfl) (leb rfl) ?_
      replace h := h.1 rfl
      refine aw_bipush 10 (v := -3) dL_goBack_8 kB_m3 rfl ?_
      exact aw_ireturn (ty := .int) dL_goBack_10 rfl rfl (leb rfl) (leb rfl) ⟨_, rfl, h⟩
    · refine aw_atc (lv' := [(0, .ref _), (1, .int _)]) [(0, 6, 7, 17)] (0, 6, 11, 19) [] rfl (by intro z hz; simp only [List.mem_cons, List.not_mem_nil, or_false] at hz; rcases hz with rfl <;> first | exact ⟨by decide, xcA, tk3 (i := 41) (by decide +kernel) rfl, by decide⟩) (by decide) (by decide) (tk3 (i := 42) (by decide +kernel) rfl) (by decide) 2 1 12 (Or.inl ⟨2, rfl, dL_goBack_11, rfl⟩) (ltb rfl) rfl ?_
      refine aw_widen (cc' := 2) (ss' := 12) (leb rfl) (leb rfl) ?_
      replace h := h.2 rfl
      refine aw_bipush 14 (v := -4) dL_goBack_12 kB_m4 rfl ?_
      exact aw_ireturn (ty := .int) dL_goBack_14 rfl rfl (leb rfl) (leb rfl) ⟨_, rfl, h⟩)
set_option maxRecDepth 20000 in
theorem am_X4_clearBuffer {G : GG} (hG : G.1.stackTraces = false) {l0 : Nat} {X : XH} {K : Int32 → XH → Prop} (h : w_X4_clearBuffer l0 X K) : AM G M_X4_clearBuffer X [.ref l0] (KrI K) := AM_of (by decide +kernel) rfl (leb rfl) hG (by
  show AW G M_X4_clearBuffer 0 [(0, .ref l0)] [] X 0 0 _
  unfold w_X4_clearBuffer at h
  refine aw_aload_n 1 dX4_clearBuffer_0 rfl 0 rfl rfl ?_
  obtain ⟨g1, h⟩ := h
  obtain ⟨g2, h⟩ := h
  refine aw_getR 4 dX4_clearBuffer_1 fl_RX4_34 rfl g1 g2 rfl ?_
  obtain ⟨g3, h⟩ := h
  refine aw_getI 7 dX4_clearBuffer_4 fl_RX4_226 rfl g3 rfl ?_
  refine aw_istore_n 8 (lv' := [(1, _), (0, _)]) dX4_clearBuffer_7 rfl (ltb rfl) rfl rfl ?_
  refine aw_aload_n 9 dX4_clearBuffer_8 rfl 1 rfl rfl ?_
  refine aw_getR 12 dX4_clearBuffer_9 fl_RX4_34 rfl g1 g2 rfl ?_
  refine aw_iconst 13 (v := 0) dX4_clearBuffer_12 kI_0 rfl ?_
  refine aw_putI 16 dX4_clearBuffer_13 fl_RX4_226 rfl rfl rfl rfl g3 rfl ?_
  refine aw_iload_n 17 dX4_clearBuffer_16 rfl 0 rfl rfl ?_
  exact aw_ireturn (ty := .int) dX4_clearBuffer_17 rfl rfl (leb rfl) (leb rfl) ⟨_, rfl, h⟩)
set_option maxRecDepth 20000 in
theorem am_X0_putSign {G : GG} (hG : G.1.stackTraces = false) {l0 : Nat} {l1 : Int32} {X : XH} {K : XH → Prop} (h : w_X0_putSign l0 l1 X K) : AM G M_X0_putSign X [.ref l0, .int l1] (KrV K) := AM_of (by decide +kernel) rfl (leb rfl) hG (by
  show AW G M_X0_putSign 0 [(0, .ref l0), (1, .int l1)] [] X 0 0 _
  unfold w_X0_putSign at h
  refine aw_aload_n 1 dX0_putSign_0 rfl 0 rfl rfl ?_
  obtain ⟨g1, h⟩ := h
  refine aw_getI 4 dX0_putSign_1 fl_RX0_27 rfl g1 rfl ?_
  refine aw_aload_n 5 dX0_putSign_4 rfl 0 rfl rfl ?_
  obtain ⟨g2, h⟩ := h
  refine aw_getR 8 dX0_putSign_5 fl_RX0_9 rfl g1 g2 rfl ?_
  obtain ⟨g3, h⟩ := h
  refine aw_alen 9 dX0_putSign_8 g3 rfl ?_
  refine aw_icmp_ge 34 12 dX0_putSign_9 rfl rfl (fun c4 => ?_) (fun c4 => ?_)
  · replace h := h.1 c4
    exact aw_return dX0_putSign_34 rfl (leb rfl) (leb rfl) ⟨rfl, h⟩
  · replace h := h.2 c4
    refine aw_aload_n 13 dX0_putSign_12 rfl 0 rfl rfl ?_
    refine aw_getR 16 dX0_putSign_13 fl_RX0_9 rfl g1 g2 rfl ?_
    refine aw_aload_n 17 dX0_putSign_16 rfl 0 rfl rfl ?_
    refine aw_getI 20 dX0_putSign_17 fl_RX0_27 rfl g1 rfl ?_
    refine aw_iload_n 21 dX0_putSign_20 rfl 1 rfl rfl ?_
    refine aw_callSN (M' := M_X4_put) 24 31 [.ref _, .int _, .int _] [] dX0_putSign_21 (by decide) ms_X4_put mp_X4_put rfl ⟨leb rfl, leb rfl⟩ rfl (leb rfl) (leb rfl) (leb rfl) rfl (am_X4_put hG h) (kkV fun X5 h => ?_) KrV.no
    refine aw_widen (cc' := 0) (ss' := 0) (leb rfl) (leb rfl) ?_
    refine aw_aload_n 25 dX0_putSign_24 rfl 0 rfl rfl ?_
    refine aw_dup 26 dX0_putSign_25 rfl rfl ?_
    obtain ⟨g6, h⟩ := h
    refine aw_getI 29 dX0_putSign_26 fl_RX0_27 rfl g6 rfl ?_
    refine aw_iconst 30 (v := 1) dX0_putSign_29 kI_1 rfl ?_
    refine aw_iadd 31 dX0_putSign_30 rfl ?_
    refine aw_putI 34 dX0_putSign_31 fl_RX0_27 rfl rfl rfl rfl g6 rfl ?_
    exact aw_return dX0_putSign_34 rfl (leb rfl) (leb rfl) ⟨rfl, h⟩)
set_option maxRecDepth 20000 in
theorem am_X4_append {G : GG} (hG : G.1.stackTraces = false) {l0 : Nat} {l1 : Int32} {X : XH} {K : Int32 → XH → Prop} {KX : String → XH → Prop} (h : w_X4_append l0 l1 X K KX) : AM G M_X4_append X [.ref l0, .int l1] (KxT (KrI K) KX) := AM_of (by decide +kernel) rfl (leb rfl) hG (by
  show AW G M_X4_append 0 [(0, .ref l0), (1, .int l1)] [] X 0 0 _
  unfold w_X4_append at h
  refine aw_iload_n 1 dX4_append_0 rfl 1 rfl rfl ?_
  refine aw_bipush 3 (v := 33) dX4_append_1 kB_33 rfl ?_
  refine aw_bipush 5 (v := 126) dX4_append_3 kB_126 rfl ?_
  refine aw_callS (M' := M_X4_checkRange) 8 52 [.int _, .int _, .int _] [] dX4_append_5 lk_RX4_52 ms_X4_checkRange mp_X4_checkRange rfl ⟨leb rfl, leb rfl⟩ rfl (leb rfl) (leb rfl) (leb rfl) rfl (am_X4_checkRange hG h) (kkT (kkV fun X1 h => ?_)) (kxT KrV.no fun E X h => at_out rfl (leb rfl) (leb rfl) (Or.inr ⟨_, rfl, h⟩))
  refine aw_widen (cc' := 1) (ss' := 6) (leb rfl) (leb rfl) ?_
  refine aw_aload_n 9 dX4_append_8 rfl 0 rfl rfl ?_
  obtain ⟨g2, h⟩ := h
  obtain ⟨g3, h⟩ := h
  refine aw_getR 12 dX4_append_9 fl_RX4_34 rfl g2 g3 rfl ?_
  obtain ⟨g4, h⟩ := h
  refine aw_getI 15 dX4_append_12 fl_RX4_226 rfl g4 rfl ?_
  refine aw_bipush 17 (v := 60) dX4_append_15 kB_60 rfl ?_
  refine aw_icmp_lt 30 20 dX4_append_17 rfl rfl (fun c5 => ?_) (fun c5 => ?_)
  · replace h := h.1 c5
    refine aw_aload_n 31 dX4_append_30 rfl 0 rfl rfl ?_
    refine aw_getR 34 dX4_append_31 fl_RX4_34 rfl g2 g3 rfl ?_
    refine aw_iload_n 35 dX4_append_34 rfl 1 rfl rfl ?_
    refine aw_callV (M' := M_X0_putSign) 38 231 0 (hR X1 l0 4) [.int _] [] dX4_append_35 lk_RX4_231 mv_X0_putSign mp_X0_putSign rfl ⟨leb rfl, leb rfl⟩ rfl (ltb rfl) g4 rfl (leb rfl) (leb rfl) (leb rfl) rfl (am_X0_putSign hG h) (kkV fun X6 h => ?_) (kxN KrV.no)
    refine aw_widen (cc' := 1) (ss' := 6) (leb rfl) (leb rfl) ?_
    refine aw_aload_n 39 dX4_append_38 rfl 0 rfl rfl ?_
    obtain ⟨g7, h⟩ := h
    obtain ⟨g8, h⟩ := h
    refine aw_getR 42 dX4_append_39 fl_RX4_34 rfl g7 g8 rfl ?_
    obtain ⟨g9, h⟩ := h
    refine aw_getI 45 dX4_append_42 fl_RX4_226 rfl g9 rfl ?_
    exact aw_ireturn (ty := .int) dX4_append_45 rfl rfl (leb rfl) (leb rfl) (Or.inl ⟨_, rfl, h⟩)
  · replace h := h.2 c5
    exact aw_throw xcS 60 229 64 rfl th_xcS (by decide) (Or.inl ⟨dX4_append_20, dX4_append_23, dX4_append_24, dX4_append_26, dX4_append_29⟩) rfl (ltb rfl) (leb rfl) (leb rfl) (leb rfl) (Or.inr ⟨_, rfl, h⟩))
set_option maxRecDepth 20000 in
theorem am_L_append {G : GG} (hG : G.1.stackTraces = false) {l0 : Nat} {l1 : Int32} {X : XH} {K : Int32 → XH → Prop} (h : w_L_append l0 l1 X K) : AM G M_L_append X [.ref l0, .int l1] (KrI K) := AM_ofH (by decide +kernel) (0, 5, 6, 17) [(0, 5, 10, 19)] rfl (leb rfl) hG (by
  show AW G M_L_append 0 [(0, .ref l0), (1, .int l1)] [] X 0 0 _
  unfold w_L_append at h
  refine aw_aload_n 1 dL_append_0 rfl 0 rfl rfl ?_
  refine aw_iload_n 2 dL_append_1 rfl 1 rfl rfl ?_
  obtain ⟨g3, h⟩ := h
  refine aw_callV (M' := M_X4_append) 5 175 4 l0 [.int _] [] dL_append_2 lk_RL_175 mv_X4_append mp_X4_append rfl ⟨leb rfl, leb rfl⟩ rfl (ltb rfl) g3 rfl (leb rfl) (leb rfl) (leb rfl) rfl (am_X4_append hG h) (kkT (kkI fun v2 X1 h => ?_)) (kxT KrI.no fun E X1 h => ?_)
  · refine aw_widen (cc' := 2) (ss' := 12) (leb rfl) (leb rfl) ?_
    exact aw_ireturn (ty := .int) dL_append_5 rfl rfl (leb rfl) (leb rfl) ⟨_, rfl, h⟩
  · obtain ⟨hE, h⟩ := h
    rcases hE with rfl | rfl
    · refine aw_atc (lv' := [(0, .ref _), (1, .int _)]) [] (0, 5, 6, 17) [(0, 5, 10, 19)] rfl (fun z hz => nomatch hz) (by decide) (by decide) (tk3 (i := 41) (by decide +kernel) rfl) (by decide) 2 1 7 (Or.inl ⟨2, rfl, dL_append_6, rfl⟩) (ltb rfl) rfl ?_
      refine aw_widen (cc' := 2) (ss' := 12) (leb rfl) (leb rfl) ?_
      replace h := h.1 rfl
      refine aw_bipush 9 (v := -3) dL_append_7 kB_m3 rfl ?_
      exact aw_ireturn (ty := .int) dL_append_9 rfl rfl (leb rfl) (leb rfl) ⟨_, rfl, h⟩
    · refine aw_atc (lv' := [(0, .ref _), (1, .int _)]) [(0, 5, 6, 17)] (0, 5, 10, 19) [] rfl (by intro z hz; simp only [List.mem_cons, List.not_mem_nil, or_false] at hz; rcases hz with rfl <;> first | exact ⟨by decide, xcA, tk3 (i := 41) (by decide +kernel) rfl, by decide⟩) (by decide) (by decide) (tk3 (i := 42) (by decide +kernel) rfl) (by decide) 2 1 11 (Or.inl ⟨2, rfl, dL_append_10, rfl⟩) (ltb rfl) rfl ?_
      refine aw_widen (cc' := 2) (ss' := 12) (leb rfl) (leb rfl) ?_
      replace h := h.2 rfl
      refine aw_bipush 13 (v := -4) dL_append_11 kB_m4 rfl ?_
      exact aw_ireturn (ty := .int) dL_append_13 rfl rfl (leb rfl) (leb rfl) ⟨_, rfl, h⟩)
set_option maxRecDepth 20000 in
theorem am_X0_acceptsReel {G : GG} (hG : G.1.stackTraces = false) {l0 : Nat} {l1 : Int32} {X : XH} {K : Int32 → XH → Prop} (h : w_X0_acceptsReel l0 l1 X K) : AM G M_X0_acceptsReel X [.ref l0, .int l1] (KrI K) := AM_of (by decide +kernel) rfl (leb rfl) hG (by
  show AW G M_X0_acceptsReel 0 [(0, .ref l0), (1, .int l1)] [] X 0 0 _
  unfold w_X0_acceptsReel at h
  refine aw_iload_n 1 dX0_acceptsReel_0 rfl 1 rfl rfl ?_
  refine aw_bipush 3 (v := 48) dX0_acceptsReel_1 kB_48 rfl ?_
  refine aw_icmp_lt 12 6 dX0_acceptsReel_3 rfl rfl (fun c1 => ?_) (fun c1 => ?_)
  · replace h := h.1 c1
    refine aw_iconst 13 (v := 0) dX0_acceptsReel_12 kI_0 rfl ?_
    exact aw_ireturn (ty := .boolean) dX0_acceptsReel_13 rfl rfl (leb rfl) (leb rfl) ⟨_, rfl, h⟩
  · replace h := h.2 c1
    refine aw_iload_n 7 dX0_acceptsReel_6 rfl 1 rfl rfl ?_
    refine aw_bipush 9 (v := 52) dX0_acceptsReel_7 kB_52 rfl ?_
    refine aw_icmp_lt 14 12 dX0_acceptsReel_9 rfl rfl (fun c2 => ?_) (fun c2 => ?_)
    · replace h := h.1 c2
      refine aw_aload_n 15 dX0_acceptsReel_14 rfl 0 rfl rfl ?_
      obtain ⟨g3, h⟩ := h
      obtain ⟨g4, h⟩ := h
      refine aw_getR 18 dX0_acceptsReel_15 fl_RX0_15 rfl g3 g4 rfl ?_
      refine aw_aload_n 19 dX0_acceptsReel_18 rfl 0 rfl rfl ?_
      refine aw_getI 22 dX0_acceptsReel_19 fl_RX0_35 rfl g3 rfl ?_
      refine aw_iload_n 23 dX0_acceptsReel_22 rfl 1 rfl rfl ?_
      refine aw_bipush 25 (v := 48) dX0_acceptsReel_23 kB_48 rfl ?_
      refine aw_isub 26 dX0_acceptsReel_25 rfl ?_
      refine aw_callSN (M' := M_X4_put) 29 31 [.ref _, .int _, .int _] [] dX0_acceptsReel_26 (by decide) ms_X4_put mp_X4_put rfl ⟨leb rfl, leb rfl⟩ rfl (leb rfl) (leb rfl) (leb rfl) rfl (am_X4_put hG h) (kkV fun X5 h => ?_) KrV.no
      refine aw_widen (cc' := 0) (ss' := 0) (leb rfl) (leb rfl) ?_
      refine aw_aload_n 30 dX0_acceptsReel_29 rfl 0 rfl rfl ?_
      refine aw_iconst 31 (v := 1) dX0_acceptsReel_30 kI_1 rfl ?_
      obtain ⟨g6, h⟩ := h
      refine aw_putI 34 dX0_acceptsReel_31 fl_RX0_38 rfl rfl rfl rfl g6 rfl ?_
      refine aw_iconst 35 (v := 1) dX0_acceptsReel_34 kI_1 rfl ?_
      exact aw_ireturn (ty := .boolean) dX0_acceptsReel_35 rfl rfl (leb rfl) (leb rfl) ⟨_, rfl, h⟩
    · replace h := h.2 c2
      refine aw_iconst 13 (v := 0) dX0_acceptsReel_12 kI_0 rfl ?_
      exact aw_ireturn (ty := .boolean) dX0_acceptsReel_13 rfl rfl (leb rfl) (leb rfl) ⟨_, rfl, h⟩)
set_option maxRecDepth 20000 in
theorem am_X0_acceptsSpeaker {G : GG} (hG : G.1.stackTraces = false) {l0 : Nat} {l1 : Int32} {X : XH} {K : Int32 → XH → Prop} (h : w_X0_acceptsSpeaker l0 l1 X K) : AM G M_X0_acceptsSpeaker X [.ref l0, .int l1] (KrI K) := AM_of (by decide +kernel) rfl (leb rfl) hG (by
  show AW G M_X0_acceptsSpeaker 0 [(0, .ref l0), (1, .int l1)] [] X 0 0 _
  unfold w_X0_acceptsSpeaker at h
  refine aw_iload_n 1 dX0_acceptsSpeaker_0 rfl 1 rfl rfl ?_
  refine aw_bipush 3 (v := 65) dX0_acceptsSpeaker_1 kB_65 rfl ?_
  refine aw_icmp_lt 12 6 dX0_acceptsSpeaker_3 rfl rfl (fun c1 => ?_) (fun c1 => ?_)
  · replace h := h.1 c1
    refine aw_iconst 13 (v := 0) dX0_acceptsSpeaker_12 kI_0 rfl ?_
    exact aw_ireturn (ty := .boolean) dX0_acceptsSpeaker_13 rfl rfl (leb rfl) (leb rfl) ⟨_, rfl, h⟩
  · replace h := h.2 c1
    refine aw_iload_n 7 dX0_acceptsSpeaker_6 rfl 1 rfl rfl ?_
    refine aw_bipush 9 (v := 70) dX0_acceptsSpeaker_7 kB_70 rfl ?_
    refine aw_icmp_lt 14 12 dX0_acceptsSpeaker_9 rfl rfl (fun c2 => ?_) (fun c2 => ?_)
    · replace h := h.1 c2
      refine aw_aload_n 15 dX0_acceptsSpeaker_14 rfl 0 rfl rfl ?_
      obtain ⟨g3, h⟩ := h
      obtain ⟨g4, h⟩ := h
      refine aw_getR 18 dX0_acceptsSpeaker_15 fl_RX0_18 rfl g3 g4 rfl ?_
      refine aw_aload_n 19 dX0_acceptsSpeaker_18 rfl 0 rfl rfl ?_
      refine aw_getI 22 dX0_acceptsSpeaker_19 fl_RX0_35 rfl g3 rfl ?_
      refine aw_iload_n 23 dX0_acceptsSpeaker_22 rfl 1 rfl rfl ?_
      refine aw_bipush 25 (v := 65) dX0_acceptsSpeaker_23 kB_65 rfl ?_
      refine aw_isub 26 dX0_acceptsSpeaker_25 rfl ?_
      refine aw_callSN (M' := M_X4_put) 29 31 [.ref _, .int _, .int _] [] dX0_acceptsSpeaker_26 (by decide) ms_X4_put mp_X4_put rfl ⟨leb rfl, leb rfl⟩ rfl (leb rfl) (leb rfl) (leb rfl) rfl (am_X4_put hG h) (kkV fun X5 h => ?_) KrV.no
      refine aw_widen (cc' := 0) (ss' := 0) (leb rfl) (leb rfl) ?_
      refine aw_aload_n 30 dX0_acceptsSpeaker_29 rfl 0 rfl rfl ?_
      obtain ⟨g6, h⟩ := h
      obtain ⟨g7, h⟩ := h
      refine aw_getR 33 dX0_acceptsSpeaker_30 fl_RX0_21 rfl g6 g7 rfl ?_
      refine aw_aload_n 34 dX0_acceptsSpeaker_33 rfl 0 rfl rfl ?_
      refine aw_getI 37 dX0_acceptsSpeaker_34 fl_RX0_35 rfl g6 rfl ?_
      refine aw_iconst 38 (v := 0) dX0_acceptsSpeaker_37 kI_0 rfl ?_
      refine aw_callSN (M' := M_X4_put) 41 31 [.ref _, .int _, .int _] [] dX0_acceptsSpeaker_38 (by decide) ms_X4_put mp_X4_put rfl ⟨leb rfl, leb rfl⟩ rfl (leb rfl) (leb rfl) (leb rfl) rfl (am_X4_put hG h) (kkV fun X8 h => ?_) KrV.no
      refine aw_widen (cc' := 0) (ss' := 0) (leb rfl) (leb rfl) ?_
      refine aw_aload_n 42 dX0_acceptsSpeaker_41 rfl 0 rfl rfl ?_
      obtain ⟨g9, h⟩ := h
      obtain ⟨g10, h⟩ := h
      refine aw_getR 45 dX0_acceptsSpeaker_42 fl_RX0_24 rfl g9 g10 rfl ?_
      refine aw_aload_n 46 dX0_acceptsSpeaker_45 rfl 0 rfl rfl ?_
      refine aw_getI 49 dX0_acceptsSpeaker_46 fl_RX0_35 rfl g9 rfl ?_
      refine aw_iconst 50 (v := 0) dX0_acceptsSpeaker_49 kI_0 rfl ?_
      refine aw_callSN (M' := M_X4_put) 53 31 [.ref _, .int _, .int _] [] dX0_acceptsSpeaker_50 (by decide) ms_X4_put mp_X4_put rfl ⟨leb rfl, leb rfl⟩ rfl (leb rfl) (leb rfl) (leb rfl) rfl (am_X4_put hG h) (kkV fun X11 h => ?_) KrV.no
      refine aw_widen (cc' := 0) (ss' := 0) (leb rfl) (leb rfl) ?_
      refine aw_aload_n 54 dX0_acceptsSpeaker_53 rfl 0 rfl rfl ?_
      refine aw_iconst 55 (v := 2) dX0_acceptsSpeaker_54 kI_2 rfl ?_
      obtain ⟨g12, h⟩ := h
      refine aw_putI 58 dX0_acceptsSpeaker_55 fl_RX0_38 rfl rfl rfl rfl g12 rfl ?_
      refine aw_iconst 59 (v := 1) dX0_acceptsSpeaker_58 kI_1 rfl ?_
      exact aw_ireturn (ty := .boolean) dX0_acceptsSpeaker_59 rfl rfl (leb rfl) (leb rfl) ⟨_, rfl, h⟩
    · replace h := h.2 c2
      refine aw_iconst 13 (v := 0) dX0_acceptsSpeaker_12 kI_0 rfl ?_
      exact aw_ireturn (ty := .boolean) dX0_acceptsSpeaker_13 rfl rfl (leb rfl) (leb rfl) ⟨_, rfl, h⟩)
set_option maxRecDepth 20000 in
theorem am_X0_acceptsDigit {G : GG} (hG : G.1.stackTraces = false) {l0 : Nat} {l1 : Nat} {l2 : Int32} {l3 : Int32} {X : XH} {K : Int32 → XH → Prop} (h : w_X0_acceptsDigit l0 l1 l2 l3 X K) : AM G M_X0_acceptsDigit X [.ref l0, .ref l1, .int l2, .int l3] (KrI K) := AM_of (by decide +kernel) rfl (leb rfl) hG (by
  show AW G M_X0_acceptsDigit 0 [(0, .ref l0), (1, .ref l1), (2, .int l2), (3, .int l3)] [] X 0 0 _
  unfold w_X0_acceptsDigit at h
  refine aw_aload_n 1 dX0_acceptsDigit_0 rfl 1 rfl rfl ?_
  refine aw_aload_n 2 dX0_acceptsDigit_1 rfl 0 rfl rfl ?_
  obtain ⟨g1, h⟩ := h
  refine aw_getI 5 dX0_acceptsDigit_2 fl_RX0_35 rfl g1 rfl ?_
  refine aw_callSN (M' := M_X4_at) 8 41 [.ref _, .int _] [] dX0_acceptsDigit_5 (by decide) ms_X4_at mp_X4_at rfl ⟨leb rfl, leb rfl⟩ rfl (leb rfl) (leb rfl) (leb rfl) rfl (am_X4_at hG h) (kkI fun v3 X2 h => ?_) KrI.no
  refine aw_widen (cc' := 0) (ss' := 0) (leb rfl) (leb rfl) ?_
  refine aw_bipush 10 (v := 10) dX0_acceptsDigit_8 kB_10 rfl ?_
  refine aw_imul 11 dX0_acceptsDigit_10 rfl ?_
  refine aw_iload_n 12 dX0_acceptsDigit_11 rfl 2 rfl rfl ?_
  refine aw_iadd 13 dX0_acceptsDigit_12 rfl ?_
  refine aw_bipush 15 (v := 48) dX0_acceptsDigit_13 kB_48 rfl ?_
  refine aw_isub 16 dX0_acceptsDigit_15 rfl ?_
  refine aw_istore 18 (lv' := [(4, _), (0, _), (1, _), (2, _), (3, _)]) dX0_acceptsDigit_16 (ltb rfl) rfl rfl ?_
  refine aw_iload 20 dX0_acceptsDigit_18 0 rfl rfl ?_
  refine aw_iconst 21 (v := 1) dX0_acceptsDigit_20 kI_1 rfl ?_
  refine aw_icmp_lt 30 24 dX0_acceptsDigit_21 rfl rfl (fun c4 => ?_) (fun c4 => ?_)
  · replace h := h.1 c4
    refine aw_iconst 31 (v := 0) dX0_acceptsDigit_30 kI_0 rfl ?_
    exact aw_ireturn (ty := .boolean) dX0_acceptsDigit_31 rfl rfl (leb rfl) (leb rfl) ⟨_, rfl, h⟩
  · replace h := h.2 c4
    refine aw_iload 26 dX0_acceptsDigit_24 0 rfl rfl ?_
    refine aw_iload_n 27 dX0_acceptsDigit_26 rfl 4 rfl rfl ?_
    refine aw_icmp_le 32 30 dX0_acceptsDigit_27 rfl rfl (fun c5 => ?_) (fun c5 => ?_)
    · replace h := h.1 c5
      refine aw_aload_n 33 dX0_acceptsDigit_32 rfl 2 rfl rfl ?_
      refine aw_aload_n 34 dX0_acceptsDigit_33 rfl 1 rfl rfl ?_
      obtain ⟨g6, h⟩ := h
      refine aw_getI 37 dX0_acceptsDigit_34 fl_RX0_35 rfl g6 rfl ?_
      refine aw_iload 39 dX0_acceptsDigit_37 0 rfl rfl ?_
      refine aw_callSN (M' := M_X4_put) 42 31 [.ref _, .int _, .int _] [] dX0_acceptsDigit_39 (by decide) ms_X4_put mp_X4_put rfl ⟨leb rfl, leb rfl⟩ rfl (leb rfl) (leb rfl) (leb rfl) rfl (am_X4_put hG h) (kkV fun X7 h => ?_) KrV.no
      refine aw_widen (cc' := 0) (ss' := 0) (leb rfl) (leb rfl) ?_
      refine aw_iconst 43 (v := 1) dX0_acceptsDigit_42 kI_1 rfl ?_
      exact aw_ireturn (ty := .boolean) dX0_acceptsDigit_43 rfl rfl (leb rfl) (leb rfl) ⟨_, rfl, h⟩
    · replace h := h.2 c5
      refine aw_iconst 31 (v := 0) dX0_acceptsDigit_30 kI_0 rfl ?_
      exact aw_ireturn (ty := .boolean) dX0_acceptsDigit_31 rfl rfl (leb rfl) (leb rfl) ⟨_, rfl, h⟩)
set_option maxRecDepth 20000 in
theorem am_X0_acceptsEnd {G : GG} (hG : G.1.stackTraces = false) {l0 : Nat} {l1 : Int32} {X : XH} {K : Int32 → XH → Prop} (h : w_X0_acceptsEnd l0 l1 X K) : AM G M_X0_acceptsEnd X [.ref l0, .int l1] (KrI K) := AM_of (by decide +kernel) rfl (leb rfl) hG (by
  show AW G M_X0_acceptsEnd 0 [(0, .ref l0), (1, .int l1)] [] X 0 0 _
  unfold w_X0_acceptsEnd at h
  refine aw_iload_n 1 dX0_acceptsEnd_0 rfl 1 rfl rfl ?_
  refine aw_bipush 3 (v := 59) dX0_acceptsEnd_1 kB_59 rfl ?_
  refine aw_icmp_eq 8 6 dX0_acceptsEnd_3 rfl rfl (fun c1 => ?_) (fun c1 => ?_)
  · replace h := h.1 c1
    refine aw_aload_n 9 dX0_acceptsEnd_8 rfl 0 rfl rfl ?_
    refine aw_dup 10 dX0_acceptsEnd_9 rfl rfl ?_
    obtain ⟨g2, h⟩ := h
    refine aw_getI 13 dX0_acceptsEnd_10 fl_RX0_35 rfl g2 rfl ?_
    refine aw_iconst 14 (v := 1) dX0_acceptsEnd_13 kI_1 rfl ?_
    refine aw_iadd 15 dX0_acceptsEnd_14 rfl ?_
    refine aw_putI 18 dX0_acceptsEnd_15 fl_RX0_35 rfl rfl rfl rfl g2 rfl ?_
    refine aw_aload_n 19 dX0_acceptsEnd_18 rfl 0 rfl rfl ?_
    refine aw_iconst 20 (v := 0) dX0_acceptsEnd_19 kI_0 rfl ?_
    refine aw_putI 23 dX0_acceptsEnd_20 fl_RX0_38 rfl rfl rfl rfl g2 rfl ?_
    refine aw_iconst 24 (v := 1) dX0_acceptsEnd_23 kI_1 rfl ?_
    exact aw_ireturn (ty := .boolean) dX0_acceptsEnd_24 rfl rfl (leb rfl) (leb rfl) ⟨_, rfl, h⟩
  · replace h := h.2 c1
    refine aw_iconst 7 (v := 0) dX0_acceptsEnd_6 kI_0 rfl ?_
    exact aw_ireturn (ty := .boolean) dX0_acceptsEnd_7 rfl rfl (leb rfl) (leb rfl) ⟨_, rfl, h⟩)
set_option maxRecDepth 20000 in
theorem aw_X0_acceptsLips_24 {G : GG} (hG : G.1.stackTraces = false)  {l0 : Nat} {l1 : Int32} {X : XH} {K : Int32 → XH → Prop}  (h : w_X0_acceptsLips_24  l0 l1 X K) : AW G M_X0_acceptsLips 24 [(0, .ref l0), (1, .int l1)] [] X 0 0 (KrI K) := by
  unfold w_X0_acceptsLips_24 at h
  refine aw_aload_n 25 dX0_acceptsLips_24 rfl 0 rfl rfl ?_
  obtain ⟨g1, h⟩ := h
  obtain ⟨g2, h⟩ := h
  refine aw_getR 28 dX0_acceptsLips_25 fl_RX0_21 rfl g1 g2 rfl ?_
  refine aw_aload_n 29 dX0_acceptsLips_28 rfl 0 rfl rfl ?_
  refine aw_getI 32 dX0_acceptsLips_29 fl_RX0_35 rfl g1 rfl ?_
  refine aw_callSN (M' := M_X4_at) 35 41 [.ref _, .int _] [] dX0_acceptsLips_32 (by decide) ms_X4_at mp_X4_at rfl ⟨leb rfl, leb rfl⟩ rfl (leb rfl) (leb rfl) (leb rfl) rfl (am_X4_at hG h) (kkI fun v4 X3 h => ?_) KrI.no
  refine aw_widen (cc' := 0) (ss' := 0) (leb rfl) (leb rfl) ?_
  refine aw_iconst 36 (v := 4) dX0_acceptsLips_35 kI_4 rfl ?_
  refine aw_icmp_ge 41 39 dX0_acceptsLips_36 rfl rfl (fun c5 => ?_) (fun c5 => ?_)
  · replace h := h.1 c5
    refine aw_iload_n 42 dX0_acceptsLips_41 rfl 1 rfl rfl ?_
    refine aw_bipush 44 (v := 126) dX0_acceptsLips_42 kB_126 rfl ?_
    refine aw_icmp_ne 54 47 dX0_acceptsLips_44 rfl rfl (fun c6 => ?_) (fun c6 => ?_)
    · replace h := h.1 c6
      refine aw_aload_n 55 dX0_acceptsLips_54 rfl 0 rfl rfl ?_
      refine aw_iload_n 56 dX0_acceptsLips_55 rfl 1 rfl rfl ?_
      obtain ⟨g9, h⟩ := h
      refine aw_callV (M' := M_X0_acceptsEnd) 59 69 0 l0 [.int _] [] dX0_acceptsLips_56 lk_RX0_69 mv_X0_acceptsEnd mp_X0_acceptsEnd rfl ⟨leb rfl, leb rfl⟩ rfl (ltb rfl) g9 rfl (leb rfl) (leb rfl) (leb rfl) rfl (am_X0_acceptsEnd hG h) (kkI fun v8 X7 h => ?_) (kxN KrI.no)
      refine aw_widen (cc' := 0) (ss' := 0) (leb rfl) (leb rfl) ?_
      obtain ⟨g10, h⟩ := h
      exact aw_ireturn (ty := .boolean) dX0_acceptsLips_59 rfl (narZ g10) (leb rfl) (leb rfl) ⟨_, rfl, h⟩
    · replace h := h.2 c6
      refine aw_aload_n 48 dX0_acceptsLips_47 rfl 0 rfl rfl ?_
      refine aw_iconst 49 (v := 3) dX0_acceptsLips_48 kI_3 rfl ?_
      obtain ⟨g11, h⟩ := h
      refine aw_putI 52 dX0_acceptsLips_49 fl_RX0_38 rfl rfl rfl rfl g11 rfl ?_
      refine aw_iconst 53 (v := 1) dX0_acceptsLips_52 kI_1 rfl ?_
      exact aw_ireturn (ty := .boolean) dX0_acceptsLips_53 rfl rfl (leb rfl) (leb rfl) ⟨_, rfl, h⟩
  · replace h := h.2 c5
    refine aw_iconst 40 (v := 0) dX0_acceptsLips_39 kI_0 rfl ?_
    exact aw_ireturn (ty := .boolean) dX0_acceptsLips_40 rfl rfl (leb rfl) (leb rfl) ⟨_, rfl, h⟩
set_option maxRecDepth 20000 in
theorem am_X0_acceptsLips {G : GG} (hG : G.1.stackTraces = false) {l0 : Nat} {l1 : Int32} {X : XH} {K : Int32 → XH → Prop} (h : w_X0_acceptsLips l0 l1 X K) : AM G M_X0_acceptsLips X [.ref l0, .int l1] (KrI K) := AM_of (by decide +kernel) rfl (leb rfl) hG (by
  show AW G M_X0_acceptsLips 0 [(0, .ref l0), (1, .int l1)] [] X 0 0 _
  unfold w_X0_acceptsLips at h
  refine aw_iload_n 1 dX0_acceptsLips_0 rfl 1 rfl rfl ?_
  refine aw_bipush 3 (v := 48) dX0_acceptsLips_1 kB_48 rfl ?_
  refine aw_icmp_lt 24 6 dX0_acceptsLips_3 rfl rfl (fun c1 => ?_) (fun c1 => ?_)
  · replace h := h.1 c1
    exact aw_pick [0, 1] rfl (aw_X0_acceptsLips_24 hG  h)
  · replace h := h.2 c1
    refine aw_iload_n 7 dX0_acceptsLips_6 rfl 1 rfl rfl ?_
    refine aw_bipush 9 (v := 57) dX0_acceptsLips_7 kB_57 rfl ?_
    refine aw_icmp_gt 24 12 dX0_acceptsLips_9 rfl rfl (fun c2 => ?_) (fun c2 => ?_)
    · replace h := h.1 c2
      exact aw_pick [0, 1] rfl (aw_X0_acceptsLips_24 hG  h)
    · replace h := h.2 c2
      refine aw_aload_n 13 dX0_acceptsLips_12 rfl 0 rfl rfl ?_
      refine aw_aload_n 14 dX0_acceptsLips_13 rfl 0 rfl rfl ?_
      obtain ⟨g3, h⟩ := h
      obtain ⟨g4, h⟩ := h
      refine aw_getR 17 dX0_acceptsLips_14 fl_RX0_21 rfl g3 g4 rfl ?_
      refine aw_iload_n 18 dX0_acceptsLips_17 rfl 1 rfl rfl ?_
      refine aw_bipush 20 (v := 60) dX0_acceptsLips_18 kB_60 rfl ?_
      refine aw_callV (M' := M_X0_acceptsDigit) 23 65 0 l0 [.ref _, .int _, .int _] [] dX0_acceptsLips_20 lk_RX0_65 mv_X0_acceptsDigit mp_X0_acceptsDigit rfl ⟨leb rfl, leb rfl⟩ rfl (ltb rfl) g3 rfl (leb rfl) (leb rfl) (leb rfl) rfl (am_X0_acceptsDigit hG h) (kkI fun v6 X5 h => ?_) (kxN KrI.no)
      refine aw_widen (cc' := 0) (ss' := 0) (leb rfl) (leb rfl) ?_
      obtain ⟨g7, h⟩ := h
      exact aw_ireturn (ty := .boolean) dX0_acceptsLips_23 rfl (narZ g7) (leb rfl) (leb rfl) ⟨_, rfl, h⟩)
set_option maxRecDepth 20000 in
theorem aw_X0_acceptsSigh_24 {G : GG} (hG : G.1.stackTraces = false)  {l0 : Nat} {l1 : Int32} {X : XH} {K : Int32 → XH → Prop}  (h : w_X0_acceptsSigh_24  l0 l1 X K) : AW G M_X0_acceptsSigh 24 [(0, .ref l0), (1, .int l1)] [] X 0 0 (KrI K) := by
  unfold w_X0_acceptsSigh_24 at h
  refine aw_aload_n 25 dX0_acceptsSigh_24 rfl 0 rfl rfl ?_
  obtain ⟨g1, h⟩ := h
  obtain ⟨g2, h⟩ := h
  refine aw_getR 28 dX0_acceptsSigh_25 fl_RX0_24 rfl g1 g2 rfl ?_
  refine aw_aload_n 29 dX0_acceptsSigh_28 rfl 0 rfl rfl ?_
  refine aw_getI 32 dX0_acceptsSigh_29 fl_RX0_35 rfl g1 rfl ?_
  refine aw_callSN (M' := M_X4_at) 35 41 [.ref _, .int _] [] dX0_acceptsSigh_32 (by decide) ms_X4_at mp_X4_at rfl ⟨leb rfl, leb rfl⟩ rfl (leb rfl) (leb rfl) (leb rfl) rfl (am_X4_at hG h) (kkI fun v4 X3 h => ?_) KrI.no
  refine aw_widen (cc' := 0) (ss' := 0) (leb rfl) (leb rfl) ?_
  refine aw_iconst 36 (v := 1) dX0_acceptsSigh_35 kI_1 rfl ?_
  refine aw_icmp_lt 51 39 dX0_acceptsSigh_36 rfl rfl (fun c5 => ?_) (fun c5 => ?_)
  · replace h := h.1 c5
    refine aw_iconst 52 (v := 0) dX0_acceptsSigh_51 kI_0 rfl ?_
    exact aw_ireturn (ty := .boolean) dX0_acceptsSigh_52 rfl rfl (leb rfl) (leb rfl) ⟨_, rfl, h⟩
  · replace h := h.2 c5
    refine aw_aload_n 40 dX0_acceptsSigh_39 rfl 0 rfl rfl ?_
    refine aw_iload_n 41 dX0_acceptsSigh_40 rfl 1 rfl rfl ?_
    obtain ⟨g8, h⟩ := h
    refine aw_callV (M' := M_X0_acceptsEnd) 44 69 0 l0 [.int _] [] dX0_acceptsSigh_41 lk_RX0_69 mv_X0_acceptsEnd mp_X0_acceptsEnd rfl ⟨leb rfl, leb rfl⟩ rfl (ltb rfl) g8 rfl (leb rfl) (leb rfl) (leb rfl) rfl (am_X0_acceptsEnd hG h) (kkI fun v7 X6 h => ?_) (kxN KrI.no)
    refine aw_widen (cc' := 0) (ss' := 0) (leb rfl) (leb rfl) ?_
    refine aw_if_eq 51 47 dX0_acceptsSigh_44 rfl rfl (fun c9 => ?_) (fun c9 => ?_)
    · replace h := h.1 c9
      refine aw_iconst 52 (v := 0) dX0_acceptsSigh_51 kI_0 rfl ?_
      exact aw_ireturn (ty := .boolean) dX0_acceptsSigh_52 rfl rfl (leb rfl) (leb rfl) ⟨_, rfl, h⟩
    · replace h := h.2 c9
      refine aw_iconst 48 (v := 1) dX0_acceptsSigh_47 kI_1 rfl ?_
      refine aw_goto 52 dX0_acceptsSigh_48 rfl ?_
      exact aw_ireturn (ty := .boolean) dX0_acceptsSigh_52 rfl rfl (leb rfl) (leb rfl) ⟨_, rfl, h⟩
set_option maxRecDepth 20000 in
theorem am_X0_acceptsSigh {G : GG} (hG : G.1.stackTraces = false) {l0 : Nat} {l1 : Int32} {X : XH} {K : Int32 → XH → Prop} (h : w_X0_acceptsSigh l0 l1 X K) : AM G M_X0_acceptsSigh X [.ref l0, .int l1] (KrI K) := AM_of (by decide +kernel) rfl (leb rfl) hG (by
  show AW G M_X0_acceptsSigh 0 [(0, .ref l0), (1, .int l1)] [] X 0 0 _
  unfold w_X0_acceptsSigh at h
  refine aw_iload_n 1 dX0_acceptsSigh_0 rfl 1 rfl rfl ?_
  refine aw_bipush 3 (v := 48) dX0_acceptsSigh_1 kB_48 rfl ?_
  refine aw_icmp_lt 24 6 dX0_acceptsSigh_3 rfl rfl (fun c1 => ?_) (fun c1 => ?_)
  · replace h := h.1 c1
    exact aw_pick [0, 1] rfl (aw_X0_acceptsSigh_24 hG  h)
  · replace h := h.2 c1
    refine aw_iload_n 7 dX0_acceptsSigh_6 rfl 1 rfl rfl ?_
    refine aw_bipush 9 (v := 57) dX0_acceptsSigh_7 kB_57 rfl ?_
    refine aw_icmp_gt 24 12 dX0_acceptsSigh_9 rfl rfl (fun c2 => ?_) (fun c2 => ?_)
    · replace h := h.1 c2
      exact aw_pick [0, 1] rfl (aw_X0_acceptsSigh_24 hG  h)
    · replace h := h.2 c2
      refine aw_aload_n 13 dX0_acceptsSigh_12 rfl 0 rfl rfl ?_
      refine aw_aload_n 14 dX0_acceptsSigh_13 rfl 0 rfl rfl ?_
      obtain ⟨g3, h⟩ := h
      obtain ⟨g4, h⟩ := h
      refine aw_getR 17 dX0_acceptsSigh_14 fl_RX0_24 rfl g3 g4 rfl ?_
      refine aw_iload_n 18 dX0_acceptsSigh_17 rfl 1 rfl rfl ?_
      refine aw_bipush 20 (v := 20) dX0_acceptsSigh_18 kB_20 rfl ?_
      refine aw_callV (M' := M_X0_acceptsDigit) 23 65 0 l0 [.ref _, .int _, .int _] [] dX0_acceptsSigh_20 lk_RX0_65 mv_X0_acceptsDigit mp_X0_acceptsDigit rfl ⟨leb rfl, leb rfl⟩ rfl (ltb rfl) g3 rfl (leb rfl) (leb rfl) (leb rfl) rfl (am_X0_acceptsDigit hG h) (kkI fun v6 X5 h => ?_) (kxN KrI.no)
      refine aw_widen (cc' := 0) (ss' := 0) (leb rfl) (leb rfl) ?_
      obtain ⟨g7, h⟩ := h
      exact aw_ireturn (ty := .boolean) dX0_acceptsSigh_23 rfl (narZ g7) (leb rfl) (leb rfl) ⟨_, rfl, h⟩)
set_option maxRecDepth 20000 in
theorem am_X0_accepts {G : GG} (hG : G.1.stackTraces = false) {l0 : Nat} {l1 : Int32} {X : XH} {K : Int32 → XH → Prop} (h : w_X0_accepts l0 l1 X K) : AM G M_X0_accepts X [.ref l0, .int l1] (KrI K) := AM_of (by decide +kernel) rfl (leb rfl) hG (by
  show AW G M_X0_accepts 0 [(0, .ref l0), (1, .int l1)] [] X 0 0 _
  unfold w_X0_accepts at h
  refine aw_aload_n 1 dX0_accepts_0 rfl 0 rfl rfl ?_
  obtain ⟨g1, h⟩ := h
  refine aw_getI 4 dX0_accepts_1 fl_RX0_38 rfl g1 rfl ?_
  by_cases c2 : (hI X l0 7).toInt < 0 ∨ 2 < (hI X l0 7).toInt
  · refine aw_tableOut 50 dX0_accepts_4 c2 rfl ?_
    replace h := h.1 c2
    refine aw_aload_n 51 dX0_accepts_50 rfl 0 rfl rfl ?_
    refine aw_iload_n 52 dX0_accepts_51 rfl 1 rfl rfl ?_
    refine aw_callV (M' := M_X0_acceptsSigh) 55 62 0 l0 [.int _] [] dX0_accepts_52 lk_RX0_62 mv_X0_acceptsSigh mp_X0_acceptsSigh rfl ⟨leb rfl, leb rfl⟩ rfl (ltb rfl) g1 rfl (leb rfl) (leb rfl) (leb rfl) rfl (am_X0_acceptsSigh hG h) (kkI fun v4 X3 h => ?_) (kxN KrI.no)
    refine aw_widen (cc' := 0) (ss' := 0) (leb rfl) (leb rfl) ?_
    obtain ⟨g5, h⟩ := h
    exact aw_ireturn (ty := .boolean) dX0_accepts_55 rfl (narZ g5) (leb rfl) (leb rfl) ⟨_, rfl, h⟩
  by_cases c2_0 : (hI X l0 7).toInt = 0
  · refine aw_tableIn 32 dX0_accepts_4 (fun q => c2 (Or.inl q)) (fun q => c2 (Or.inr q)) (by rw [c2_0]; rfl) rfl ?_
    replace h := h.2.1 c2_0
    refine aw_aload_n 33 dX0_accepts_32 rfl 0 rfl rfl ?_
    refine aw_iload_n 34 dX0_accepts_33 rfl 1 rfl rfl ?_
    refine aw_callV (M' := M_X0_acceptsReel) 37 53 0 l0 [.int _] [] dX0_accepts_34 lk_RX0_53 mv_X0_acceptsReel mp_X0_acceptsReel rfl ⟨leb rfl, leb rfl⟩ rfl (ltb rfl) g1 rfl (leb rfl) (leb rfl) (leb rfl) rfl (am_X0_acceptsReel hG h) (kkI fun v7 X6 h => ?_) (kxN KrI.no)
    refine aw_widen (cc' := 0) (ss' := 0) (leb rfl) (leb rfl) ?_
    obtain ⟨g8, h⟩ := h
    exact aw_ireturn (ty := .boolean) dX0_accepts_37 rfl (narZ g8) (leb rfl) (leb rfl) ⟨_, rfl, h⟩
  by_cases c2_1 : (hI X l0 7).toInt = 1
  · refine aw_tableIn 38 dX0_accepts_4 (fun q => c2 (Or.inl q)) (fun q => c2 (Or.inr q)) (by rw [c2_1]; rfl) rfl ?_
    replace h := h.2.2.1 c2_1
    refine aw_aload_n 39 dX0_accepts_38 rfl 0 rfl rfl ?_
    refine aw_iload_n 40 dX0_accepts_39 rfl 1 rfl rfl ?_
    refine aw_callV (M' := M_X0_acceptsSpeaker) 43 56 0 l0 [.int _] [] dX0_accepts_40 lk_RX0_56 mv_X0_acceptsSpeaker mp_X0_acceptsSpeaker rfl ⟨leb rfl, leb rfl⟩ rfl (ltb rfl) g1 rfl (leb rfl) (leb rfl) (leb rfl) rfl (am_X0_acceptsSpeaker hG h) (kkI fun v10 X9 h => ?_) (kxN KrI.no)
    refine aw_widen (cc' := 0) (ss' := 0) (leb rfl) (leb rfl) ?_
    obtain ⟨g11, h⟩ := h
    exact aw_ireturn (ty := .boolean) dX0_accepts_43 rfl (narZ g11) (leb rfl) (leb rfl) ⟨_, rfl, h⟩
  have c2_2 : (hI X l0 7).toInt = 2 := by omega
  refine aw_tableIn 44 dX0_accepts_4 (fun q => c2 (Or.inl q)) (fun q => c2 (Or.inr q)) (by rw [c2_2]; rfl) rfl ?_
  replace h := h.2.2.2 c2_2
  refine aw_aload_n 45 dX0_accepts_44 rfl 0 rfl rfl ?_
  refine aw_iload_n 46 dX0_accepts_45 rfl 1 rfl rfl ?_
  refine aw_callV (M' := M_X0_acceptsLips) 49 59 0 l0 [.int _] [] dX0_accepts_46 lk_RX0_59 mv_X0_acceptsLips mp_X0_acceptsLips rfl ⟨leb rfl, leb rfl⟩ rfl (ltb rfl) g1 rfl (leb rfl) (leb rfl) (leb rfl) rfl (am_X0_acceptsLips hG h) (kkI fun v13 X12 h => ?_) (kxN KrI.no)
  refine aw_widen (cc' := 0) (ss' := 0) (leb rfl) (leb rfl) ?_
  obtain ⟨g14, h⟩ := h
  exact aw_ireturn (ty := .boolean) dX0_accepts_49 rfl (narZ g14) (leb rfl) (leb rfl) ⟨_, rfl, h⟩)
set_option maxRecDepth 20000 in
theorem aw_X0_readToError_12 {G : GG} (hG : G.1.stackTraces = false)  {l0 : Nat} {l1 : Int32} {X : XH} {K : Int32 → XH → Prop}  (h : w_X0_readToError_12  l0 l1 X K) : AW G M_X0_readToError 12 [(0, .ref l0), (1, .int l1)] [] X 0 0 (KrI K) :=
  h (fun l0 l1 X => AW G M_X0_readToError 12 [(0, .ref l0), (1, .int l1)] [] X 0 0 (KrI K)) (fun l0 l1 X h => by
    refine aw_iload_n 13 dX0_readToError_12 rfl 1 rfl rfl ?_
    refine aw_aload_n 14 dX0_readToError_13 rfl 0 rfl rfl ?_
    obtain ⟨g1, h⟩ := h
    refine aw_getI 17 dX0_readToError_14 fl_RX0_27 rfl g1 rfl ?_
    refine aw_icmp_ge 43 20 dX0_readToError_17 rfl rfl (fun c2 => ?_) (fun c2 => ?_)
    · replace h := h.1 c2
      refine aw_aload_n 44 dX0_readToError_43 rfl 0 rfl rfl ?_
      refine aw_getI 47 dX0_readToError_44 fl_RX0_27 rfl g1 rfl ?_
      exact aw_ireturn (ty := .int) dX0_readToError_47 rfl rfl (leb rfl) (leb rfl) ⟨_, rfl, h⟩
    · replace h := h.2 c2
      refine aw_aload_n 21 dX0_readToError_20 rfl 0 rfl rfl ?_
      refine aw_aload_n 22 dX0_readToError_21 rfl 0 rfl rfl ?_
      obtain ⟨g3, h⟩ := h
      refine aw_getR 25 dX0_readToError_22 fl_RX0_9 rfl g1 g3 rfl ?_
      refine aw_iload_n 26 dX0_readToError_25 rfl 1 rfl rfl ?_
      refine aw_callSN (M' := M_X4_at) 29 41 [.ref _, .int _] [.ref _] dX0_readToError_26 (by decide) ms_X4_at mp_X4_at rfl ⟨leb rfl, leb rfl⟩ rfl (leb rfl) (leb rfl) (leb rfl) rfl (am_X4_at hG h) (kkI fun v5 X4 h => ?_) KrI.no
      refine aw_widen (cc' := 0) (ss' := 0) (leb rfl) (leb rfl) ?_
      obtain ⟨g8, h⟩ := h
      refine aw_callV (M' := M_X0_accepts) 32 45 0 l0 [.int _] [] dX0_readToError_29 lk_RX0_45 mv_X0_accepts mp_X0_accepts rfl ⟨leb rfl, leb rfl⟩ rfl (ltb rfl) g8 rfl (leb rfl) (leb rfl) (leb rfl) rfl (am_X0_accepts hG h) (kkI fun v7 X6 h => ?_) (kxN KrI.no)
      refine aw_widen (cc' := 0) (ss' := 0) (leb rfl) (leb rfl) ?_
      refine aw_if_ne 37 35 dX0_readToError_32 rfl rfl (fun c9 => ?_) (fun c9 => ?_)
      · replace h := h.1 c9
        refine aw_iinc 40 (v := 1) (lv' := [(1, _), (0, _)]) dX0_readToError_37 1 rfl kI_1 (ltb rfl) rfl rfl ?_
        refine aw_goto 12 dX0_readToError_40 rfl ?_
        exact aw_pick [1, 0] rfl h
      · replace h := h.2 c9
        refine aw_iload_n 36 dX0_readToError_35 rfl 1 rfl rfl ?_
        exact aw_ireturn (ty := .int) dX0_readToError_36 rfl rfl (leb rfl) (leb rfl) ⟨_, rfl, h⟩)
set_option maxRecDepth 20000 in
theorem am_X0_readToError {G : GG} (hG : G.1.stackTraces = false) {l0 : Nat} {X : XH} {K : Int32 → XH → Prop} (h : w_X0_readToError l0 X K) : AM G M_X0_readToError X [.ref l0] (KrI K) := AM_of (by decide +kernel) rfl (leb rfl) hG (by
  show AW G M_X0_readToError 0 [(0, .ref l0)] [] X 0 0 _
  unfold w_X0_readToError at h
  refine aw_aload_n 1 dX0_readToError_0 rfl 0 rfl rfl ?_
  refine aw_iconst 2 (v := 0) dX0_readToError_1 kI_0 rfl ?_
  obtain ⟨g1, h⟩ := h
  refine aw_putI 5 dX0_readToError_2 fl_RX0_35 rfl rfl rfl rfl g1 rfl ?_
  refine aw_aload_n 6 dX0_readToError_5 rfl 0 rfl rfl ?_
  refine aw_iconst 7 (v := 0) dX0_readToError_6 kI_0 rfl ?_
  refine aw_putI 10 dX0_readToError_7 fl_RX0_38 rfl rfl rfl rfl g1 rfl ?_
  refine aw_iconst 11 (v := 0) dX0_readToError_10 kI_0 rfl ?_
  refine aw_istore_n 12 (lv' := [(1, _), (0, _)]) dX0_readToError_11 rfl (ltb rfl) rfl rfl ?_
  exact aw_pick [1, 0] rfl (aw_X0_readToError_12 hG  h))
set_option maxRecDepth 20000 in
theorem am_X4_firstError {G : GG} (hG : G.1.stackTraces = false) {l0 : Nat} {X : XH} {K : Int32 → XH → Prop} (h : w_X4_firstError l0 X K) : AM G M_X4_firstError X [.ref l0] (KrI K) := AM_of (by decide +kernel) rfl (leb rfl) hG (by
  show AW G M_X4_firstError 0 [(0, .ref l0)] [] X 0 0 _
  unfold w_X4_firstError at h
  refine aw_aload_n 1 dX4_firstError_0 rfl 0 rfl rfl ?_
  obtain ⟨g1, h⟩ := h
  obtain ⟨g2, h⟩ := h
  refine aw_getR 4 dX4_firstError_1 fl_RX4_34 rfl g1 g2 rfl ?_
  obtain ⟨g5, h⟩ := h
  refine aw_callV (M' := M_X0_readToError) 7 234 0 (hR X l0 4) [] [] dX4_firstError_4 lk_RX4_234 mv_X0_readToError mp_X0_readToError rfl ⟨leb rfl, leb rfl⟩ rfl (ltb rfl) g5 rfl (leb rfl) (leb rfl) (leb rfl) rfl (am_X0_readToError hG h) (kkI fun v4 X3 h => ?_) (kxN KrI.no)
  refine aw_widen (cc' := 0) (ss' := 0) (leb rfl) (leb rfl) ?_
  exact aw_ireturn (ty := .int) dX4_firstError_7 rfl rfl (leb rfl) (leb rfl) ⟨_, rfl, h⟩)
set_option maxRecDepth 20000 in
theorem aw_X0_readWhole_36 {G : GG} (hG : G.1.stackTraces = false)  {l0 : Nat} {X : XH} {K : Int32 → XH → Prop}  (h : w_X0_readWhole_36  l0 X K) : AW G M_X0_readWhole 36 [(0, .ref l0)] [] X 0 0 (KrI K) := by
  unfold w_X0_readWhole_36 at h
  refine aw_aload_n 37 dX0_readWhole_36 rfl 0 rfl rfl ?_
  obtain ⟨g1, h⟩ := h
  refine aw_getI 40 dX0_readWhole_37 fl_RX0_38 rfl g1 rfl ?_
  refine aw_iconst 41 (v := 3) dX0_readWhole_40 kI_3 rfl ?_
  refine aw_icmp_ne 63 44 dX0_readWhole_41 rfl rfl (fun c2 => ?_) (fun c2 => ?_)
  · replace h := h.1 c2
    refine aw_iconst 64 (v := 0) dX0_readWhole_63 kI_0 rfl ?_
    exact aw_ireturn (ty := .boolean) dX0_readWhole_64 rfl rfl (leb rfl) (leb rfl) ⟨_, rfl, h⟩
  · replace h := h.2 c2
    refine aw_aload_n 45 dX0_readWhole_44 rfl 0 rfl rfl ?_
    obtain ⟨g3, h⟩ := h
    refine aw_getR 48 dX0_readWhole_45 fl_RX0_24 rfl g1 g3 rfl ?_
    refine aw_aload_n 49 dX0_readWhole_48 rfl 0 rfl rfl ?_
    refine aw_getI 52 dX0_readWhole_49 fl_RX0_35 rfl g1 rfl ?_
    refine aw_callSN (M' := M_X4_at) 55 41 [.ref _, .int _] [] dX0_readWhole_52 (by decide) ms_X4_at mp_X4_at rfl ⟨leb rfl, leb rfl⟩ rfl (leb rfl) (leb rfl) (leb rfl) rfl (am_X4_at hG h) (kkI fun v5 X4 h => ?_) KrI.no
    refine aw_widen (cc' := 0) (ss' := 0) (leb rfl) (leb rfl) ?_
    refine aw_iconst 56 (v := 1) dX0_readWhole_55 kI_1 rfl ?_
    refine aw_icmp_lt 63 59 dX0_readWhole_56 rfl rfl (fun c6 => ?_) (fun c6 => ?_)
    · replace h := h.1 c6
      refine aw_iconst 64 (v := 0) dX0_readWhole_63 kI_0 rfl ?_
      exact aw_ireturn (ty := .boolean) dX0_readWhole_64 rfl rfl (leb rfl) (leb rfl) ⟨_, rfl, h⟩
    · replace h := h.2 c6
      refine aw_iconst 60 (v := 1) dX0_readWhole_59 kI_1 rfl ?_
      refine aw_goto 64 dX0_readWhole_60 rfl ?_
      exact aw_ireturn (ty := .boolean) dX0_readWhole_64 rfl rfl (leb rfl) (leb rfl) ⟨_, rfl, h⟩
set_option maxRecDepth 20000 in
theorem am_X0_readWhole {G : GG} (hG : G.1.stackTraces = false) {l0 : Nat} {X : XH} {K : Int32 → XH → Prop} (h : w_X0_readWhole l0 X K) : AM G M_X0_readWhole X [.ref l0] (KrI K) := AM_of (by decide +kernel) rfl (leb rfl) hG (by
  show AW G M_X0_readWhole 0 [(0, .ref l0)] [] X 0 0 _
  unfold w_X0_readWhole at h
  refine aw_aload_n 1 dX0_readWhole_0 rfl 0 rfl rfl ?_
  obtain ⟨g3, h⟩ := h
  refine aw_callV (M' := M_X0_readToError) 4 49 0 l0 [] [] dX0_readWhole_1 lk_RX0_49 mv_X0_readToError mp_X0_readToError rfl ⟨leb rfl, leb rfl⟩ rfl (ltb rfl) g3 rfl (leb rfl) (leb rfl) (leb rfl) rfl (am_X0_readToError hG h) (kkI fun v2 X1 h => ?_) (kxN KrI.no)
  refine aw_widen (cc' := 0) (ss' := 0) (leb rfl) (leb rfl) ?_
  refine aw_aload_n 5 dX0_readWhole_4 rfl 0 rfl rfl ?_
  obtain ⟨g4, h⟩ := h
  refine aw_getI 8 dX0_readWhole_5 fl_RX0_27 rfl g4 rfl ?_
  refine aw_icmp_ge 13 11 dX0_readWhole_8 rfl rfl (fun c5 => ?_) (fun c5 => ?_)
  · replace h := h.1 c5
    refine aw_aload_n 14 dX0_readWhole_13 rfl 0 rfl rfl ?_
    refine aw_getI 17 dX0_readWhole_14 fl_RX0_38 rfl g4 rfl ?_
    refine aw_iconst 18 (v := 2) dX0_readWhole_17 kI_2 rfl ?_
    refine aw_icmp_ne 36 21 dX0_readWhole_18 rfl rfl (fun c6 => ?_) (fun c6 => ?_)
    · replace h := h.1 c6
      exact aw_pick [0] rfl (aw_X0_readWhole_36 hG  h)
    · replace h := h.2 c6
      refine aw_aload_n 22 dX0_readWhole_21 rfl 0 rfl rfl ?_
      obtain ⟨g7, h⟩ := h
      refine aw_getR 25 dX0_readWhole_22 fl_RX0_21 rfl g4 g7 rfl ?_
      refine aw_aload_n 26 dX0_readWhole_25 rfl 0 rfl rfl ?_
      refine aw_getI 29 dX0_readWhole_26 fl_RX0_35 rfl g4 rfl ?_
      refine aw_callSN (M' := M_X4_at) 32 41 [.ref _, .int _] [] dX0_readWhole_29 (by decide) ms_X4_at mp_X4_at rfl ⟨leb rfl, leb rfl⟩ rfl (leb rfl) (leb rfl) (leb rfl) rfl (am_X4_at hG h) (kkI fun v9 X8 h => ?_) KrI.no
      refine aw_widen (cc' := 0) (ss' := 0) (leb rfl) (leb rfl) ?_
      refine aw_iconst 33 (v := 4) dX0_readWhole_32 kI_4 rfl ?_
      refine aw_icmp_ge 59 36 dX0_readWhole_33 rfl rfl (fun c10 => ?_) (fun c10 => ?_)
      · replace h := h.1 c10
        refine aw_iconst 60 (v := 1) dX0_readWhole_59 kI_1 rfl ?_
        refine aw_goto 64 dX0_readWhole_60 rfl ?_
        exact aw_ireturn (ty := .boolean) dX0_readWhole_64 rfl rfl (leb rfl) (leb rfl) ⟨_, rfl, h⟩
      · replace h := h.2 c10
        exact aw_pick [0] rfl (aw_X0_readWhole_36 hG  h)
  · replace h := h.2 c5
    refine aw_iconst 12 (v := 0) dX0_readWhole_11 kI_0 rfl ?_
    exact aw_ireturn (ty := .boolean) dX0_readWhole_12 rfl rfl (leb rfl) (leb rfl) ⟨_, rfl, h⟩)
set_option maxRecDepth 20000 in
theorem aw_X0_hasSighBeyondLips_2 {G : GG} (hG : G.1.stackTraces = false)  {l0 : Nat} {l1 : Int32} {l2 : Int32} {X : XH} {K : Int32 → XH → Prop}  (h : w_X0_hasSighBeyondLips_2  l0 l1 l2 X K) : AW G M_X0_hasSighBeyondLips 2 [(0, .ref l0), (1, .int l1), (2, .int l2)] [] X 0 0 (KrI K) :=
  h (fun l0 l1 l2 X => AW G M_X0_hasSighBeyondLips 2 [(0, .ref l0), (1, .int l1), (2, .int l2)] [] X 0 0 (KrI K)) (fun l0 l1 l2 X h => by
    refine aw_iload_n 3 dX0_hasSighBeyondLips_2 rfl 2 rfl rfl ?_
    refine aw_iload_n 4 dX0_hasSighBeyondLips_3 rfl 1 rfl rfl ?_
    refine aw_icmp_ge 34 7 dX0_hasSighBeyondLips_4 rfl rfl (fun c1 => ?_) (fun c1 => ?_)
    · replace h := h.1 c1
      refine aw_iconst 35 (v := 0) dX0_hasSighBeyondLips_34 kI_0 rfl ?_
      exact aw_ireturn (ty := .boolean) dX0_hasSighBeyondLips_35 rfl rfl (leb rfl) (leb rfl) ⟨_, rfl, h⟩
    · replace h := h.2 c1
      refine aw_aload_n 8 dX0_hasSighBeyondLips_7 rfl 0 rfl rfl ?_
      obtain ⟨g2, h⟩ := h
      obtain ⟨g3, h⟩ := h
      refine aw_getR 11 dX0_hasSighBeyondLips_8 fl_RX0_24 rfl g2 g3 rfl ?_
      refine aw_iload_n 12 dX0_hasSighBeyondLips_11 rfl 2 rfl rfl ?_
      refine aw_callSN (M' := M_X4_at) 15 41 [.ref _, .int _] [] dX0_hasSighBeyondLips_12 (by decide) ms_X4_at mp_X4_at rfl ⟨leb rfl, leb rfl⟩ rfl (leb rfl) (leb rfl) (leb rfl) rfl (am_X4_at hG h) (kkI fun v5 X4 h => ?_) KrI.no
      refine aw_widen (cc' := 0) (ss' := 0) (leb rfl) (leb rfl) ?_
      refine aw_aload_n 16 dX0_hasSighBeyondLips_15 rfl 0 rfl rfl ?_
      obtain ⟨g6, h⟩ := h
      obtain ⟨g7, h⟩ := h
      refine aw_getR 19 dX0_hasSighBeyondLips_16 fl_RX0_21 rfl g6 g7 rfl ?_
      refine aw_iload_n 20 dX0_hasSighBeyondLips_19 rfl 2 rfl rfl ?_
      refine aw_callSN (M' := M_X4_at) 23 41 [.ref _, .int _] [.int _] dX0_hasSighBeyondLips_20 (by decide) ms_X4_at mp_X4_at rfl ⟨leb rfl, leb rfl⟩ rfl (leb rfl) (leb rfl) (leb rfl) rfl (am_X4_at hG h) (kkI fun v9 X8 h => ?_) KrI.no
      refine aw_widen (cc' := 0) (ss' := 0) (leb rfl) (leb rfl) ?_
      refine aw_icmp_le 28 26 dX0_hasSighBeyondLips_23 rfl rfl (fun c10 => ?_) (fun c10 => ?_)
      · replace h := h.1 c10
        refine aw_iinc 31 (v := 1) (lv' := [(2, _), (0, _), (1, _)]) dX0_hasSighBeyondLips_28 2 rfl kI_1 (ltb rfl) rfl rfl ?_
        refine aw_goto 2 dX0_hasSighBeyondLips_31 rfl ?_
        exact aw_pick [1, 2, 0] rfl h
      · replace h := h.2 c10
        refine aw_iconst 27 (v := 1) dX0_hasSighBeyondLips_26 kI_1 rfl ?_
        exact aw_ireturn (ty := .boolean) dX0_hasSighBeyondLips_27 rfl rfl (leb rfl) (leb rfl) ⟨_, rfl, h⟩)
set_option maxRecDepth 20000 in
theorem am_X0_hasSighBeyondLips {G : GG} (hG : G.1.stackTraces = false) {l0 : Nat} {l1 : Int32} {X : XH} {K : Int32 → XH → Prop} (h : w_X0_hasSighBeyondLips l0 l1 X K) : AM G M_X0_hasSighBeyondLips X [.ref l0, .int l1] (KrI K) := AM_of (by decide +kernel) rfl (leb rfl) hG (by
  show AW G M_X0_hasSighBeyondLips 0 [(0, .ref l0), (1, .int l1)] [] X 0 0 _
  unfold w_X0_hasSighBeyondLips at h
  refine aw_iconst 1 (v := 0) dX0_hasSighBeyondLips_0 kI_0 rfl ?_
  refine aw_istore_n 2 (lv' := [(2, _), (0, _), (1, _)]) dX0_hasSighBeyondLips_1 rfl (ltb rfl) rfl rfl ?_
  exact aw_pick [1, 2, 0] rfl (aw_X0_hasSighBeyondLips_2 hG  h))
set_option maxRecDepth 20000 in
theorem aw_X4_load_78 {G : GG} (hG : G.1.stackTraces = false)  {l0 : Nat} {l1 : Int32} {l2 : Int32} {X : XH} {K : Int32 → XH → Prop} {KX : String → XH → Prop}  (h : w_X4_load_78  l0 l1 l2 X K KX) : AW G M_X4_load 78 [(0, .ref l0), (1, .int l1), (2, .int l2)] [] X 0 0 (KxT (KrI K) KX) :=
  h (fun l0 l1 l2 X => AW G M_X4_load 78 [(0, .ref l0), (1, .int l1), (2, .int l2)] [] X 0 0 (KxT (KrI K) KX)) (fun l0 l1 l2 X h => by
    refine aw_iload_n 79 dX4_load_78 rfl 2 rfl rfl ?_
    refine aw_iload_n 80 dX4_load_79 rfl 1 rfl rfl ?_
    refine aw_icmp_ge 141 83 dX4_load_80 rfl rfl (fun c1 => ?_) (fun c1 => ?_)
    · replace h := h.1 c1
      refine aw_aload_n 142 dX4_load_141 rfl 0 rfl rfl ?_
      obtain ⟨g2, h⟩ := h
      obtain ⟨g3, h⟩ := h
      refine aw_getR 145 dX4_load_142 fl_RX4_34 rfl g2 g3 rfl ?_
      refine aw_iconst 146 (v := 0) dX4_load_145 kI_0 rfl ?_
      obtain ⟨g4, h⟩ := h
      refine aw_putI 149 dX4_load_146 fl_RX4_226 rfl rfl rfl rfl g4 rfl ?_
      refine aw_aload_n 150 dX4_load_149 rfl 0 rfl rfl ?_
      obtain ⟨g5, h⟩ := h
      refine aw_getR 153 dX4_load_150 fl_RX4_10 rfl g2 g5 rfl ?_
      obtain ⟨g6, h⟩ := h
      refine aw_getI 156 dX4_load_153 fl_RX4_56 rfl g6 rfl ?_
      exact aw_ireturn (ty := .int) dX4_load_156 rfl rfl (leb rfl) (leb rfl) (Or.inl ⟨_, rfl, h⟩)
    · replace h := h.2 c1
      refine aw_aload_n 84 dX4_load_83 rfl 0 rfl rfl ?_
      obtain ⟨g7, h⟩ := h
      obtain ⟨g8, h⟩ := h
      refine aw_getR 87 dX4_load_84 fl_RX4_10 rfl g7 g8 rfl ?_
      refine aw_aload_n 88 dX4_load_87 rfl 0 rfl rfl ?_
      obtain ⟨g9, h⟩ := h
      refine aw_getR 91 dX4_load_88 fl_RX4_34 rfl g7 g9 rfl ?_
      obtain ⟨g10, h⟩ := h
      obtain ⟨g11, h⟩ := h
      refine aw_getR 94 dX4_load_91 fl_RX4_255 rfl g10 g11 rfl ?_
      refine aw_iload_n 95 dX4_load_94 rfl 2 rfl rfl ?_
      refine aw_callS (M' := M_X4_at) 98 256 [.ref _, .int _] [.ref _] dX4_load_95 lk_RX4_256 ms_X4_at mp_X4_at rfl ⟨leb rfl, leb rfl⟩ rfl (leb rfl) (leb rfl) (leb rfl) rfl (am_X4_at hG h) (kkI fun v13 X12 h => ?_) (kxN KrI.no)
      refine aw_widen (cc' := 0) (ss' := 0) (leb rfl) (leb rfl) ?_
      refine aw_aload_n 99 dX4_load_98 rfl 0 rfl rfl ?_
      obtain ⟨g14, h⟩ := h
      obtain ⟨g15, h⟩ := h
      refine aw_getR 102 dX4_load_99 fl_RX4_34 rfl g14 g15 rfl ?_
      obtain ⟨g16, h⟩ := h
      obtain ⟨g17, h⟩ := h
      refine aw_getR 105 dX4_load_102 fl_RX4_260 rfl g16 g17 rfl ?_
      refine aw_iload_n 106 dX4_load_105 rfl 2 rfl rfl ?_
      refine aw_callS (M' := M_X4_at) 109 256 [.ref _, .int _] [.int _, .ref _] dX4_load_106 lk_RX4_256 ms_X4_at mp_X4_at rfl ⟨leb rfl, leb rfl⟩ rfl (leb rfl) (leb rfl) (leb rfl) rfl (am_X4_at hG h) (kkI fun v19 X18 h => ?_) (kxN KrI.no)
      refine aw_widen (cc' := 0) (ss' := 0) (leb rfl) (leb rfl) ?_
      refine aw_aload_n 110 dX4_load_109 rfl 0 rfl rfl ?_
      obtain ⟨g20, h⟩ := h
      obtain ⟨g21, h⟩ := h
      refine aw_getR 113 dX4_load_110 fl_RX4_34 rfl g20 g21 rfl ?_
      obtain ⟨g22, h⟩ := h
      obtain ⟨g23, h⟩ := h
      refine aw_getR 116 dX4_load_113 fl_RX4_263 rfl g22 g23 rfl ?_
      refine aw_iload_n 117 dX4_load_116 rfl 2 rfl rfl ?_
      refine aw_callS (M' := M_X4_at) 120 256 [.ref _, .int _] [.int _, .int _, .ref _] dX4_load_117 lk_RX4_256 ms_X4_at mp_X4_at rfl ⟨leb rfl, leb rfl⟩ rfl (leb rfl) (leb rfl) (leb rfl) rfl (am_X4_at hG h) (kkI fun v25 X24 h => ?_) (kxN KrI.no)
      refine aw_widen (cc' := 0) (ss' := 0) (leb rfl) (leb rfl) ?_
      refine aw_aload_n 121 dX4_load_120 rfl 0 rfl rfl ?_
      obtain ⟨g26, h⟩ := h
      obtain ⟨g27, h⟩ := h
      refine aw_getR 124 dX4_load_121 fl_RX4_34 rfl g26 g27 rfl ?_
      obtain ⟨g28, h⟩ := h
      obtain ⟨g29, h⟩ := h
      refine aw_getR 127 dX4_load_124 fl_RX4_264 rfl g28 g29 rfl ?_
      refine aw_iload_n 128 dX4_load_127 rfl 2 rfl rfl ?_
      refine aw_callS (M' := M_X4_at) 131 256 [.ref _, .int _] [.int _, .int _, .int _, .ref _] dX4_load_128 lk_RX4_256 ms_X4_at mp_X4_at rfl ⟨leb rfl, leb rfl⟩ rfl (leb rfl) (leb rfl) (leb rfl) rfl (am_X4_at hG h) (kkI fun v31 X30 h => ?_) (kxN KrI.no)
      refine aw_widen (cc' := 0) (ss' := 0) (leb rfl) (leb rfl) ?_
      obtain ⟨g34, h⟩ := h
      refine aw_callV (M' := M_X3_add) 134 71 3 (hR X l0 0) [.int _, .int _, .int _, .int _] [] dX4_load_131 lk_RX4_71 mv_X3_add mp_X3_add rfl ⟨leb rfl, leb rfl⟩ rfl (ltb rfl) g34 rfl (leb rfl) (leb rfl) (leb rfl) rfl (am_X3_add hG h) (kkI fun v33 X32 h => ?_) (kxN KrI.no)
      refine aw_widen (cc' := 0) (ss' := 0) (leb rfl) (leb rfl) ?_
      refine aw_pop 135 dX4_load_134 rfl rfl ?_
      refine aw_iinc 138 (v := 1) (lv' := [(2, _), (0, _), (1, _)]) dX4_load_135 2 rfl kI_1 (ltb rfl) rfl rfl ?_
      refine aw_goto 78 dX4_load_138 rfl ?_
      exact aw_pick [1, 2, 0] rfl h)
set_option maxRecDepth 20000 in
theorem am_X4_load {G : GG} (hG : G.1.stackTraces = false) {l0 : Nat} {X : XH} {K : Int32 → XH → Prop} {KX : String → XH → Prop} (h : w_X4_load l0 X K KX) : AM G M_X4_load X [.ref l0] (KxT (KrI K) KX) := AM_of (by decide +kernel) rfl (leb rfl) hG (by
  show AW G M_X4_load 0 [(0, .ref l0)] [] X 0 0 _
  unfold w_X4_load at h
  refine aw_aload_n 1 dX4_load_0 rfl 0 rfl rfl ?_
  obtain ⟨g1, h⟩ := h
  obtain ⟨g2, h⟩ := h
  refine aw_getR 4 dX4_load_1 fl_RX4_34 rfl g1 g2 rfl ?_
  obtain ⟨g5, h⟩ := h
  refine aw_callV (M' := M_X0_readWhole) 7 238 0 (hR X l0 4) [] [] dX4_load_4 lk_RX4_238 mv_X0_readWhole mp_X0_readWhole rfl ⟨leb rfl, leb rfl⟩ rfl (ltb rfl) g5 rfl (leb rfl) (leb rfl) (leb rfl) rfl (am_X0_readWhole hG h) (kkI fun v4 X3 h => ?_) (kxN KrI.no)
  refine aw_widen (cc' := 0) (ss' := 0) (leb rfl) (leb rfl) ?_
  refine aw_if_ne 20 10 dX4_load_7 rfl rfl (fun c6 => ?_) (fun c6 => ?_)
  · replace h := h.1 c6
    refine aw_aload_n 21 dX4_load_20 rfl 0 rfl rfl ?_
    obtain ⟨g7, h⟩ := h
    obtain ⟨g8, h⟩ := h
    refine aw_getR 24 dX4_load_21 fl_RX4_34 rfl g7 g8 rfl ?_
    obtain ⟨g9, h⟩ := h
    refine aw_getI 27 dX4_load_24 fl_RX4_247 rfl g9 rfl ?_
    refine aw_iconst 28 (v := 1) dX4_load_27 kI_1 rfl ?_
    refine aw_iadd 29 dX4_load_28 rfl ?_
    refine aw_istore_n 30 (lv' := [(1, _), (0, _)]) dX4_load_29 rfl (ltb rfl) rfl rfl ?_
    refine aw_aload_n 31 dX4_load_30 rfl 1 rfl rfl ?_
    obtain ⟨g10, h⟩ := h
    refine aw_getR 34 dX4_load_31 fl_RX4_10 rfl g7 g10 rfl ?_
    obtain ⟨g11, h⟩ := h
    refine aw_getI 37 dX4_load_34 fl_RX4_56 rfl g11 rfl ?_
    refine aw_iload_n 38 dX4_load_37 rfl 0 rfl rfl ?_
    refine aw_iadd 39 dX4_load_38 rfl ?_
    refine aw_bipush 41 (v := 24) dX4_load_39 kB_24 rfl ?_
    refine aw_icmp_gt 55 44 dX4_load_41 rfl rfl (fun c12 => ?_) (fun c12 => ?_)
    · replace h := h.1 c12
      exact aw_throw xcS 60 253 64 rfl th_xcS (by decide) (Or.inl ⟨dX4_load_55, dX4_load_58, dX4_load_59, dX4_load_61, dX4_load_64⟩) rfl (ltb rfl) (leb rfl) (leb rfl) (leb rfl) (Or.inr ⟨_, rfl, h⟩)
    · replace h := h.2 c12
      refine aw_aload_n 45 dX4_load_44 rfl 1 rfl rfl ?_
      refine aw_getR 48 dX4_load_45 fl_RX4_34 rfl g7 g8 rfl ?_
      refine aw_iload_n 49 dX4_load_48 rfl 0 rfl rfl ?_
      refine aw_callV (M' := M_X0_hasSighBeyondLips) 52 250 0 (hR X3 l0 4) [.int _] [] dX4_load_49 lk_RX4_250 mv_X0_hasSighBeyondLips mp_X0_hasSighBeyondLips rfl ⟨leb rfl, leb rfl⟩ rfl (ltb rfl) g9 rfl (leb rfl) (leb rfl) (leb rfl) rfl (am_X0_hasSighBeyondLips hG h) (kkI fun v14 X13 h => ?_) (kxN KrI.no)
      refine aw_widen (cc' := 0) (ss' := 0) (leb rfl) (leb rfl) ?_
      refine aw_if_eq 65 55 dX4_load_52 rfl rfl (fun c15 => ?_) (fun c15 => ?_)
      · replace h := h.1 c15
        refine aw_aload_n 66 dX4_load_65 rfl 1 rfl rfl ?_
        obtain ⟨g16, h⟩ := h
        obtain ⟨g17, h⟩ := h
        refine aw_getR 69 dX4_load_66 fl_RX4_19 rfl g16 g17 rfl ?_
        refine aw_aload_n 70 dX4_load_69 rfl 1 rfl rfl ?_
        obtain ⟨g18, h⟩ := h
        refine aw_getR 73 dX4_load_70 fl_RX4_10 rfl g16 g18 rfl ?_
        obtain ⟨g20, h⟩ := h
        refine aw_callV (M' := M_X1_push) 76 67 1 (hR X13 l0 1) [.ref _] [] dX4_load_73 lk_RX4_67 mv_X1_push mp_X1_push rfl ⟨leb rfl, leb rfl⟩ rfl (ltb rfl) g20 rfl (leb rfl) (leb rfl) (leb rfl) rfl (am_X1_push hG h) (kkV fun X19 h => ?_) (kxN KrV.no)
        refine aw_widen (cc' := 0) (ss' := 0) (leb rfl) (leb rfl) ?_
        refine aw_iconst 77 (v := 0) dX4_load_76 kI_0 rfl ?_
        refine aw_istore_n 78 (lv' := [(2, _), (1, _), (0, _)]) dX4_load_77 rfl (ltb rfl) rfl rfl ?_
        exact aw_pick [2, 1, 0] rfl (aw_X4_load_78 hG  h)
      · replace h := h.2 c15
        exact aw_throw xcS 60 253 64 rfl th_xcS (by decide) (Or.inl ⟨dX4_load_55, dX4_load_58, dX4_load_59, dX4_load_61, dX4_load_64⟩) rfl (ltb rfl) (leb rfl) (leb rfl) (leb rfl) (Or.inr ⟨_, rfl, h⟩)
  · replace h := h.2 c6
    exact aw_throw xcA 242 244 246 rfl th_xcA (by decide) (Or.inl ⟨dX4_load_10, dX4_load_13, dX4_load_14, dX4_load_16, dX4_load_19⟩) rfl (ltb rfl) (leb rfl) (leb rfl) (leb rfl) (Or.inr ⟨_, rfl, h⟩))
set_option maxRecDepth 20000 in
theorem am_L_load {G : GG} (hG : G.1.stackTraces = false) {l0 : Nat} {X : XH} {K : Int32 → XH → Prop} (h : w_L_load l0 X K) : AM G M_L_load X [.ref l0] (KrI K) := AM_ofH (by decide +kernel) (0, 4, 5, 17) [(0, 4, 9, 19)] rfl (leb rfl) hG (by
  show AW G M_L_load 0 [(0, .ref l0)] [] X 0 0 _
  unfold w_L_load at h
  refine aw_aload_n 1 dL_load_0 rfl 0 rfl rfl ?_
  obtain ⟨g3, h⟩ := h
  refine aw_callV (M' := M_X4_load) 4 178 4 l0 [] [] dL_load_1 lk_RL_178 mv_X4_load mp_X4_load rfl ⟨leb rfl, leb rfl⟩ rfl (ltb rfl) g3 rfl (leb rfl) (leb rfl) (leb rfl) rfl (am_X4_load hG h) (kkT (kkI fun v2 X1 h => ?_)) (kxT KrI.no fun E X1 h => ?_)
  · refine aw_widen (cc' := 1) (ss' := 6) (leb rfl) (leb rfl) ?_
    exact aw_ireturn (ty := .int) dL_load_4 rfl rfl (leb rfl) (leb rfl) ⟨_, rfl, h⟩
  · obtain ⟨hE, h⟩ := h
    rcases hE with rfl | rfl
    · refine aw_atc (lv' := [(0, .ref _)]) [] (0, 4, 5, 17) [(0, 4, 9, 19)] rfl (fun z hz => nomatch hz) (by decide) (by decide) (tk3 (i := 41) (by decide +kernel) rfl) (by decide) 1 1 6 (Or.inl ⟨1, rfl, dL_load_5, rfl⟩) (ltb rfl) rfl ?_
      refine aw_widen (cc' := 1) (ss' := 6) (leb rfl) (leb rfl) ?_
      replace h := h.1 rfl
      refine aw_bipush 8 (v := -3) dL_load_6 kB_m3 rfl ?_
      exact aw_ireturn (ty := .int) dL_load_8 rfl rfl (leb rfl) (leb rfl) ⟨_, rfl, h⟩
    · refine aw_atc (lv' := [(0, .ref _)]) [(0, 4, 5, 17)] (0, 4, 9, 19) [] rfl (by intro z hz; simp only [List.mem_cons, List.not_mem_nil, or_false] at hz; rcases hz with rfl <;> first | exact ⟨by decide, xcA, tk3 (i := 41) (by decide +kernel) rfl, by decide⟩) (by decide) (by decide) (tk3 (i := 42) (by decide +kernel) rfl) (by decide) 1 1 10 (Or.inl ⟨1, rfl, dL_load_9, rfl⟩) (ltb rfl) rfl ?_
      refine aw_widen (cc' := 1) (ss' := 6) (leb rfl) (leb rfl) ?_
      replace h := h.2 rfl
      refine aw_bipush 12 (v := -4) dL_load_10 kB_m4 rfl ?_
      exact aw_ireturn (ty := .int) dL_load_12 rfl rfl (leb rfl) (leb rfl) ⟨_, rfl, h⟩)
set_option maxRecDepth 20000 in
theorem am_X3_hasFit {G : GG} (hG : G.1.stackTraces = false) {l0 : Nat} {l1 : Int32} {l2 : Int32} {X : XH} {K : Int32 → XH → Prop} (h : w_X3_hasFit l0 l1 l2 X K) : AM G M_X3_hasFit X [.ref l0, .int l1, .int l2] (KrI K) := AM_of (by decide +kernel) rfl (leb rfl) hG (by
  show AW G M_X3_hasFit 0 [(0, .ref l0), (1, .int l1), (2, .int l2)] [] X 0 0 _
  unfold w_X3_hasFit at h
  refine aw_aload_n 1 dX3_hasFit_0 rfl 0 rfl rfl ?_
  obtain ⟨g1, h⟩ := h
  obtain ⟨g2, h⟩ := h
  refine aw_getR 4 dX3_hasFit_1 fl_RX3_24 rfl g1 g2 rfl ?_
  refine aw_iload_n 5 dX3_hasFit_4 rfl 1 rfl rfl ?_
  refine aw_iload_n 6 dX3_hasFit_5 rfl 2 rfl rfl ?_
  refine aw_callS (M' := M_X3_place) 9 73 [.int _, .int _] [.ref _] dX3_hasFit_6 lk_RX3_73 ms_X3_place mp_X3_place rfl ⟨leb rfl, leb rfl⟩ rfl (leb rfl) (leb rfl) (leb rfl) rfl (am_X3_place hG h) (kkI fun v4 X3 h => ?_) (kxN KrI.no)
  refine aw_widen (cc' := 0) (ss' := 0) (leb rfl) (leb rfl) ?_
  refine aw_callSN (M' := M_X4_at) 12 81 [.ref _, .int _] [] dX3_hasFit_9 (by decide) ms_X4_at mp_X4_at rfl ⟨leb rfl, leb rfl⟩ rfl (leb rfl) (leb rfl) (leb rfl) rfl (am_X4_at hG h) (kkI fun v6 X5 h => ?_) KrI.no
  refine aw_widen (cc' := 0) (ss' := 0) (leb rfl) (leb rfl) ?_
  refine aw_istore_n 13 (lv' := [(3, _), (0, _), (1, _), (2, _)]) dX3_hasFit_12 rfl (ltb rfl) rfl rfl ?_
  refine aw_iload_n 14 dX3_hasFit_13 rfl 0 rfl rfl ?_
  refine aw_if_le 42 17 dX3_hasFit_14 rfl rfl (fun c7 => ?_) (fun c7 => ?_)
  · replace h := h.1 c7
    refine aw_iconst 43 (v := 0) dX3_hasFit_42 kI_0 rfl ?_
    exact aw_ireturn (ty := .boolean) dX3_hasFit_43 rfl rfl (leb rfl) (leb rfl) ⟨_, rfl, h⟩
  · replace h := h.2 c7
    refine aw_iload_n 18 dX3_hasFit_17 rfl 0 rfl rfl ?_
    refine aw_aload_n 19 dX3_hasFit_18 rfl 1 rfl rfl ?_
    obtain ⟨g8, h⟩ := h
    obtain ⟨g9, h⟩ := h
    refine aw_getR 22 dX3_hasFit_19 fl_RX3_21 rfl g8 g9 rfl ?_
    refine aw_iload_n 23 dX3_hasFit_22 rfl 2 rfl rfl ?_
    refine aw_callSN (M' := M_X4_at) 26 81 [.ref _, .int _] [.int _] dX3_hasFit_23 (by decide) ms_X4_at mp_X4_at rfl ⟨leb rfl, leb rfl⟩ rfl (leb rfl) (leb rfl) (leb rfl) rfl (am_X4_at hG h) (kkI fun v11 X10 h => ?_) KrI.no
    refine aw_widen (cc' := 0) (ss' := 0) (leb rfl) (leb rfl) ?_
    refine aw_iadd 27 dX3_hasFit_26 rfl ?_
    refine aw_aload_n 28 dX3_hasFit_27 rfl 1 rfl rfl ?_
    obtain ⟨g12, h⟩ := h
    obtain ⟨g13, h⟩ := h
    refine aw_getR 31 dX3_hasFit_28 fl_RX3_18 rfl g12 g13 rfl ?_
    refine aw_iload_n 32 dX3_hasFit_31 rfl 2 rfl rfl ?_
    refine aw_callSN (M' := M_X4_at) 35 81 [.ref _, .int _] [.int _] dX3_hasFit_32 (by decide) ms_X4_at mp_X4_at rfl ⟨leb rfl, leb rfl⟩ rfl (leb rfl) (leb rfl) (leb rfl) rfl (am_X4_at hG h) (kkI fun v15 X14 h => ?_) KrI.no
    refine aw_widen (cc' := 0) (ss' := 0) (leb rfl) (leb rfl) ?_
    refine aw_icmp_gt 42 38 dX3_hasFit_35 rfl rfl (fun c16 => ?_) (fun c16 => ?_)
    · replace h := h.1 c16
      refine aw_iconst 43 (v := 0) dX3_hasFit_42 kI_0 rfl ?_
      exact aw_ireturn (ty := .boolean) dX3_hasFit_43 rfl rfl (leb rfl) (leb rfl) ⟨_, rfl, h⟩
    · replace h := h.2 c16
      refine aw_iconst 39 (v := 1) dX3_hasFit_38 kI_1 rfl ?_
      refine aw_goto 43 dX3_hasFit_39 rfl ?_
      exact aw_ireturn (ty := .boolean) dX3_hasFit_43 rfl rfl (leb rfl) (leb rfl) ⟨_, rfl, h⟩)
set_option maxRecDepth 20000 in
theorem am_X3_strengthAt {G : GG} (hG : G.1.stackTraces = false) {l0 : Nat} {l1 : Int32} {l2 : Int32} {X : XH} {K : Int32 → XH → Prop} (h : w_X3_strengthAt l0 l1 l2 X K) : AM G M_X3_strengthAt X [.ref l0, .int l1, .int l2] (KrI K) := AM_of (by decide +kernel) rfl (leb rfl) hG (by
  show AW G M_X3_strengthAt 0 [(0, .ref l0), (1, .int l1), (2, .int l2)] [] X 0 0 _
  unfold w_X3_strengthAt at h
  refine aw_aload_n 1 dX3_strengthAt_0 rfl 0 rfl rfl ?_
  refine aw_iload_n 2 dX3_strengthAt_1 rfl 1 rfl rfl ?_
  refine aw_iload_n 3 dX3_strengthAt_2 rfl 2 rfl rfl ?_
  obtain ⟨g3, h⟩ := h
  refine aw_callV (M' := M_X3_staminaAt) 6 128 3 l0 [.int _, .int _] [] dX3_strengthAt_3 lk_RX3_128 mv_X3_staminaAt mp_X3_staminaAt rfl ⟨leb rfl, leb rfl⟩ rfl (ltb rfl) g3 rfl (leb rfl) (leb rfl) (leb rfl) rfl (am_X3_staminaAt hG h) (kkI fun v2 X1 h => ?_) (kxN KrI.no)
  refine aw_widen (cc' := 0) (ss' := 0) (leb rfl) (leb rfl) ?_
  refine aw_aload_n 7 dX3_strengthAt_6 rfl 0 rfl rfl ?_
  refine aw_iload_n 8 dX3_strengthAt_7 rfl 1 rfl rfl ?_
  refine aw_iload_n 9 dX3_strengthAt_8 rfl 2 rfl rfl ?_
  obtain ⟨g6, h⟩ := h
  refine aw_callV (M' := M_X3_usedBy) 12 131 3 l0 [.int _, .int _] [.int _] dX3_strengthAt_9 lk_RX3_131 mv_X3_usedBy mp_X3_usedBy rfl ⟨leb rfl, leb rfl⟩ rfl (ltb rfl) g6 rfl (leb rfl) (leb rfl) (leb rfl) rfl (am_X3_usedBy hG h) (kkI fun v5 X4 h => ?_) (kxN KrI.no)
  refine aw_widen (cc' := 0) (ss' := 0) (leb rfl) (leb rfl) ?_
  refine aw_isub 13 dX3_strengthAt_12 rfl ?_
  exact aw_ireturn (ty := .int) dX3_strengthAt_13 rfl rfl (leb rfl) (leb rfl) ⟨_, rfl, h⟩)
set_option maxRecDepth 20000 in
theorem am_X3_reasonAt {G : GG} (hG : G.1.stackTraces = false) {l0 : Nat} {l1 : Int32} {l2 : Int32} {X : XH} {K : Int32 → XH → Prop} (h : w_X3_reasonAt l0 l1 l2 X K) : AM G M_X3_reasonAt X [.ref l0, .int l1, .int l2] (KrI K) := AM_of (by decide +kernel) rfl (leb rfl) hG (by
  show AW G M_X3_reasonAt 0 [(0, .ref l0), (1, .int l1), (2, .int l2)] [] X 0 0 _
  unfold w_X3_reasonAt at h
  refine aw_aload_n 1 dX3_reasonAt_0 rfl 0 rfl rfl ?_
  refine aw_iload_n 2 dX3_reasonAt_1 rfl 1 rfl rfl ?_
  refine aw_iload_n 3 dX3_reasonAt_2 rfl 2 rfl rfl ?_
  obtain ⟨g3, h⟩ := h
  refine aw_callV (M' := M_X3_hasTranslation) 6 108 3 l0 [.int _, .int _] [] dX3_reasonAt_3 lk_RX3_108 mv_X3_hasTranslation mp_X3_hasTranslation rfl ⟨leb rfl, leb rfl⟩ rfl (ltb rfl) g3 rfl (leb rfl) (leb rfl) (leb rfl) rfl (am_X3_hasTranslation hG h) (kkI fun v2 X1 h => ?_) (kxN KrI.no)
  refine aw_widen (cc' := 0) (ss' := 0) (leb rfl) (leb rfl) ?_
  refine aw_if_ne 11 9 dX3_reasonAt_6 rfl rfl (fun c4 => ?_) (fun c4 => ?_)
  · replace h := h.1 c4
    refine aw_aload_n 12 dX3_reasonAt_11 rfl 0 rfl rfl ?_
    refine aw_iload_n 13 dX3_reasonAt_12 rfl 1 rfl rfl ?_
    refine aw_iload_n 14 dX3_reasonAt_13 rfl 2 rfl rfl ?_
    obtain ⟨g7, h⟩ := h
    refine aw_callV (M' := M_X3_isTaken) 17 98 3 l0 [.int _, .int _] [] dX3_reasonAt_14 lk_RX3_98 mv_X3_isTaken mp_X3_isTaken rfl ⟨leb rfl, leb rfl⟩ rfl (ltb rfl) g7 rfl (leb rfl) (leb rfl) (leb rfl) rfl (am_X3_isTaken hG h) (kkI fun v6 X5 h => ?_) (kxN KrI.no)
    refine aw_widen (cc' := 0) (ss' := 0) (leb rfl) (leb rfl) ?_
    refine aw_if_eq 22 20 dX3_reasonAt_17 rfl rfl (fun c8 => ?_) (fun c8 => ?_)
    · replace h := h.1 c8
      refine aw_aload_n 23 dX3_reasonAt_22 rfl 0 rfl rfl ?_
      refine aw_iload_n 24 dX3_reasonAt_23 rfl 1 rfl rfl ?_
      refine aw_iload_n 25 dX3_reasonAt_24 rfl 2 rfl rfl ?_
      obtain ⟨g11, h⟩ := h
      refine aw_callV (M' := M_X3_hasFit) 28 105 3 l0 [.int _, .int _] [] dX3_reasonAt_25 lk_RX3_105 mv_X3_hasFit mp_X3_hasFit rfl ⟨leb rfl, leb rfl⟩ rfl (ltb rfl) g11 rfl (leb rfl) (leb rfl) (leb rfl) rfl (am_X3_hasFit hG h) (kkI fun v10 X9 h => ?_) (kxN KrI.no)
      refine aw_widen (cc' := 0) (ss' := 0) (leb rfl) (leb rfl) ?_
      refine aw_if_ne 33 31 dX3_reasonAt_28 rfl rfl (fun c12 => ?_) (fun c12 => ?_)
      · replace h := h.1 c12
        refine aw_aload_n 34 dX3_reasonAt_33 rfl 0 rfl rfl ?_
        refine aw_aload_n 35 dX3_reasonAt_34 rfl 0 rfl rfl ?_
        refine aw_iload_n 36 dX3_reasonAt_35 rfl 1 rfl rfl ?_
        obtain ⟨g15, h⟩ := h
        refine aw_callV (M' := M_X3_speakerAt) 39 77 3 l0 [.int _] [.ref _] dX3_reasonAt_36 lk_RX3_77 mv_X3_speakerAt mp_X3_speakerAt rfl ⟨leb rfl, leb rfl⟩ rfl (ltb rfl) g15 rfl (leb rfl) (leb rfl) (leb rfl) rfl (am_X3_speakerAt hG h) (kkI fun v14 X13 h => ?_) (kxN KrI.no)
        refine aw_widen (cc' := 0) (ss' := 0) (leb rfl) (leb rfl) ?_
        refine aw_iload_n 40 dX3_reasonAt_39 rfl 2 rfl rfl ?_
        obtain ⟨g18, h⟩ := h
        refine aw_callV (M' := M_X3_strengthAt) 43 111 3 l0 [.int _, .int _] [] dX3_reasonAt_40 lk_RX3_111 mv_X3_strengthAt mp_X3_strengthAt rfl ⟨leb rfl, leb rfl⟩ rfl (ltb rfl) g18 rfl (leb rfl) (leb rfl) (leb rfl) rfl (am_X3_strengthAt hG h) (kkI fun v17 X16 h => ?_) (kxN KrI.no)
        refine aw_widen (cc' := 0) (ss' := 0) (leb rfl) (leb rfl) ?_
        refine aw_aload_n 44 dX3_reasonAt_43 rfl 0 rfl rfl ?_
        refine aw_iload_n 45 dX3_reasonAt_44 rfl 1 rfl rfl ?_
        refine aw_iload_n 46 dX3_reasonAt_45 rfl 2 rfl rfl ?_
        obtain ⟨g21, h⟩ := h
        refine aw_callV (M' := M_X3_spokenAt) 49 85 3 l0 [.int _, .int _] [.int _] dX3_reasonAt_46 lk_RX3_85 mv_X3_spokenAt mp_X3_spokenAt rfl ⟨leb rfl, leb rfl⟩ rfl (ltb rfl) g21 rfl (leb rfl) (leb rfl) (leb rfl) rfl (am_X3_spokenAt hG h) (kkI fun v20 X19 h => ?_) (kxN KrI.no)
        refine aw_widen (cc' := 0) (ss' := 0) (leb rfl) (leb rfl) ?_
        refine aw_icmp_ge 56 52 dX3_reasonAt_49 rfl rfl (fun c22 => ?_) (fun c22 => ?_)
        · replace h := h.1 c22
          refine aw_iconst 57 (v := 0) dX3_reasonAt_56 kI_0 rfl ?_
          refine aw_istore_n 58 (lv' := [(3, _), (0, _), (1, _), (2, _)]) dX3_reasonAt_57 rfl (ltb rfl) rfl rfl ?_
          refine aw_iload_n 59 dX3_reasonAt_58 rfl 0 rfl rfl ?_
          refine aw_if_eq 66 62 dX3_reasonAt_59 rfl rfl (fun c23 => ?_) (fun c23 => ?_)
          · replace h := h.1 c23
            refine aw_iconst 67 (v := 0) dX3_reasonAt_66 kI_0 rfl ?_
            exact aw_ireturn (ty := .int) dX3_reasonAt_67 rfl rfl (leb rfl) (leb rfl) ⟨_, rfl, h⟩
          · replace h := h.2 c23
            refine aw_iconst 63 (v := 4) dX3_reasonAt_62 kI_4 rfl ?_
            refine aw_goto 67 dX3_reasonAt_63 rfl ?_
            exact aw_ireturn (ty := .int) dX3_reasonAt_67 rfl rfl (leb rfl) (leb rfl) ⟨_, rfl, h⟩
        · replace h := h.2 c22
          refine aw_iconst 53 (v := 1) dX3_reasonAt_52 kI_1 rfl ?_
          refine aw_goto 57 dX3_reasonAt_53 rfl ?_
          refine aw_istore_n 58 (lv' := [(3, _), (0, _), (1, _), (2, _)]) dX3_reasonAt_57 rfl (ltb rfl) rfl rfl ?_
          refine aw_iload_n 59 dX3_reasonAt_58 rfl 0 rfl rfl ?_
          refine aw_if_eq 66 62 dX3_reasonAt_59 rfl rfl (fun c24 => ?_) (fun c24 => ?_)
          · replace h := h.1 c24
            refine aw_iconst 67 (v := 0) dX3_reasonAt_66 kI_0 rfl ?_
            exact aw_ireturn (ty := .int) dX3_reasonAt_67 rfl rfl (leb rfl) (leb rfl) ⟨_, rfl, h⟩
          · replace h := h.2 c24
            refine aw_iconst 63 (v := 4) dX3_reasonAt_62 kI_4 rfl ?_
            refine aw_goto 67 dX3_reasonAt_63 rfl ?_
            exact aw_ireturn (ty := .int) dX3_reasonAt_67 rfl rfl (leb rfl) (leb rfl) ⟨_, rfl, h⟩
      · replace h := h.2 c12
        refine aw_iconst 32 (v := 3) dX3_reasonAt_31 kI_3 rfl ?_
        exact aw_ireturn (ty := .int) dX3_reasonAt_32 rfl rfl (leb rfl) (leb rfl) ⟨_, rfl, h⟩
    · replace h := h.2 c8
      refine aw_iconst 21 (v := 2) dX3_reasonAt_20 kI_2 rfl ?_
      exact aw_ireturn (ty := .int) dX3_reasonAt_21 rfl rfl (leb rfl) (leb rfl) ⟨_, rfl, h⟩
  · replace h := h.2 c4
    refine aw_iconst 10 (v := 1) dX3_reasonAt_9 kI_1 rfl ?_
    exact aw_ireturn (ty := .int) dX3_reasonAt_10 rfl rfl (leb rfl) (leb rfl) ⟨_, rfl, h⟩)
set_option maxRecDepth 20000 in
theorem am_X3_take {G : GG} (hG : G.1.stackTraces = false) {l0 : Nat} {l1 : Int32} {l2 : Int32} {X : XH} {K : XH → Prop} (h : w_X3_take l0 l1 l2 X K) : AM G M_X3_take X [.ref l0, .int l1, .int l2] (KrV K) := AM_of (by decide +kernel) rfl (leb rfl) hG (by
  show AW G M_X3_take 0 [(0, .ref l0), (1, .int l1), (2, .int l2)] [] X 0 0 _
  unfold w_X3_take at h
  refine aw_aload_n 1 dX3_take_0 rfl 0 rfl rfl ?_
  refine aw_iload_n 2 dX3_take_1 rfl 1 rfl rfl ?_
  obtain ⟨g3, h⟩ := h
  refine aw_callV (M' := M_X3_speakerAt) 5 77 3 l0 [.int _] [] dX3_take_2 lk_RX3_77 mv_X3_speakerAt mp_X3_speakerAt rfl ⟨leb rfl, leb rfl⟩ rfl (ltb rfl) g3 rfl (leb rfl) (leb rfl) (leb rfl) rfl (am_X3_speakerAt hG h) (kkI fun v2 X1 h => ?_) (kxN KrI.no)
  refine aw_widen (cc' := 0) (ss' := 0) (leb rfl) (leb rfl) ?_
  refine aw_iload_n 6 dX3_take_5 rfl 2 rfl rfl ?_
  refine aw_callS (M' := M_X3_place) 9 73 [.int _, .int _] [] dX3_take_6 lk_RX3_73 ms_X3_place mp_X3_place rfl ⟨leb rfl, leb rfl⟩ rfl (leb rfl) (leb rfl) (leb rfl) rfl (am_X3_place hG h) (kkI fun v5 X4 h => ?_) (kxN KrI.no)
  refine aw_widen (cc' := 0) (ss' := 0) (leb rfl) (leb rfl) ?_
  refine aw_istore_n 10 (lv' := [(3, _), (0, _), (1, _), (2, _)]) dX3_take_9 rfl (ltb rfl) rfl rfl ?_
  refine aw_aload_n 11 dX3_take_10 rfl 1 rfl rfl ?_
  obtain ⟨g6, h⟩ := h
  obtain ⟨g7, h⟩ := h
  refine aw_getR 14 dX3_take_11 fl_RX3_36 rfl g6 g7 rfl ?_
  refine aw_iload_n 15 dX3_take_14 rfl 0 rfl rfl ?_
  refine aw_aload_n 16 dX3_take_15 rfl 1 rfl rfl ?_
  refine aw_getR 19 dX3_take_16 fl_RX3_36 rfl g6 g7 rfl ?_
  refine aw_iload_n 20 dX3_take_19 rfl 0 rfl rfl ?_
  refine aw_callSN (M' := M_X4_at) 23 81 [.ref _, .int _] [.int _, .ref _] dX3_take_20 (by decide) ms_X4_at mp_X4_at rfl ⟨leb rfl, leb rfl⟩ rfl (leb rfl) (leb rfl) (leb rfl) rfl (am_X4_at hG h) (kkI fun v9 X8 h => ?_) KrI.no
  refine aw_widen (cc' := 0) (ss' := 0) (leb rfl) (leb rfl) ?_
  refine aw_aload_n 24 dX3_take_23 rfl 1 rfl rfl ?_
  refine aw_iload_n 25 dX3_take_24 rfl 2 rfl rfl ?_
  refine aw_iload_n 26 dX3_take_25 rfl 3 rfl rfl ?_
  obtain ⟨g12, h⟩ := h
  refine aw_callV (M' := M_X3_spokenAt) 29 85 3 l0 [.int _, .int _] [.int _, .int _, .ref _] dX3_take_26 lk_RX3_85 mv_X3_spokenAt mp_X3_spokenAt rfl ⟨leb rfl, leb rfl⟩ rfl (ltb rfl) g12 rfl (leb rfl) (leb rfl) (leb rfl) rfl (am_X3_spokenAt hG h) (kkI fun v11 X10 h => ?_) (kxN KrI.no)
  refine aw_widen (cc' := 0) (ss' := 0) (leb rfl) (leb rfl) ?_
  refine aw_iadd 30 dX3_take_29 rfl ?_
  refine aw_callSN (M' := M_X4_put) 33 65 [.ref _, .int _, .int _] [] dX3_take_30 (by decide) ms_X4_put mp_X4_put rfl ⟨leb rfl, leb rfl⟩ rfl (leb rfl) (leb rfl) (leb rfl) rfl (am_X4_put hG h) (kkV fun X13 h => ?_) KrV.no
  refine aw_widen (cc' := 0) (ss' := 0) (leb rfl) (leb rfl) ?_
  refine aw_aload_n 34 dX3_take_33 rfl 1 rfl rfl ?_
  obtain ⟨g14, h⟩ := h
  obtain ⟨g15, h⟩ := h
  refine aw_getR 37 dX3_take_34 fl_RX3_30 rfl g14 g15 rfl ?_
  refine aw_iload_n 38 dX3_take_37 rfl 2 rfl rfl ?_
  refine aw_iload_n 39 dX3_take_38 rfl 3 rfl rfl ?_
  refine aw_callS (M' := M_X3_place) 42 73 [.int _, .int _] [.ref _] dX3_take_39 lk_RX3_73 ms_X3_place mp_X3_place rfl ⟨leb rfl, leb rfl⟩ rfl (leb rfl) (leb rfl) (leb rfl) rfl (am_X3_place hG h) (kkI fun v17 X16 h => ?_) (kxN KrI.no)
  refine aw_widen (cc' := 0) (ss' := 0) (leb rfl) (leb rfl) ?_
  refine aw_aload_n 43 dX3_take_42 rfl 1 rfl rfl ?_
  obtain ⟨g18, h⟩ := h
  refine aw_getI 46 dX3_take_43 fl_RX3_53 rfl g18 rfl ?_
  refine aw_iconst 47 (v := 1) dX3_take_46 kI_1 rfl ?_
  refine aw_iadd 48 dX3_take_47 rfl ?_
  refine aw_callSN (M' := M_X4_put) 51 65 [.ref _, .int _, .int _] [] dX3_take_48 (by decide) ms_X4_put mp_X4_put rfl ⟨leb rfl, leb rfl⟩ rfl (leb rfl) (leb rfl) (leb rfl) rfl (am_X4_put hG h) (kkV fun X19 h => ?_) KrV.no
  refine aw_widen (cc' := 0) (ss' := 0) (leb rfl) (leb rfl) ?_
  refine aw_aload_n 52 dX3_take_51 rfl 1 rfl rfl ?_
  refine aw_dup 53 dX3_take_52 rfl rfl ?_
  obtain ⟨g20, h⟩ := h
  refine aw_getI 56 dX3_take_53 fl_RX3_56 rfl g20 rfl ?_
  refine aw_iconst 57 (v := 1) dX3_take_56 kI_1 rfl ?_
  refine aw_iadd 58 dX3_take_57 rfl ?_
  refine aw_putI 61 dX3_take_58 fl_RX3_56 rfl rfl rfl rfl g20 rfl ?_
  exact aw_return dX3_take_61 rfl (leb rfl) (leb rfl) ⟨rfl, h⟩)
set_option maxRecDepth 20000 in
theorem am_X4_record {G : GG} (hG : G.1.stackTraces = false) {l0 : Nat} {l1 : Int32} {l2 : Int32} {X : XH} {K : Int32 → XH → Prop} {KX : String → XH → Prop} (h : w_X4_record l0 l1 l2 X K KX) : AM G M_X4_record X [.ref l0, .int l1, .int l2] (KxT (KrI K) KX) := AM_of (by decide +kernel) rfl (leb rfl) hG (by
  show AW G M_X4_record 0 [(0, .ref l0), (1, .int l1), (2, .int l2)] [] X 0 0 _
  unfold w_X4_record at h
  refine aw_aload_n 1 dX4_record_0 rfl 0 rfl rfl ?_
  refine aw_iload_n 2 dX4_record_1 rfl 1 rfl rfl ?_
  refine aw_iload_n 3 dX4_record_2 rfl 2 rfl rfl ?_
  obtain ⟨g2, h⟩ := h
  refine aw_callV (M' := M_X4_checkTranslation) 6 115 4 l0 [.int _, .int _] [] dX4_record_3 lk_RX4_115 mv_X4_checkTranslation mp_X4_checkTranslation rfl ⟨leb rfl, leb rfl⟩ rfl (ltb rfl) g2 rfl (leb rfl) (leb rfl) (leb rfl) rfl (am_X4_checkTranslation hG h) (kkT (kkV fun X1 h => ?_)) (kxT KrV.no fun E X h => at_out rfl (leb rfl) (leb rfl) (Or.inr ⟨_, rfl, h⟩))
  refine aw_widen (cc' := 2) (ss' := 12) (leb rfl) (leb rfl) ?_
  refine aw_aload_n 7 dX4_record_6 rfl 0 rfl rfl ?_
  obtain ⟨g3, h⟩ := h
  obtain ⟨g4, h⟩ := h
  refine aw_getR 10 dX4_record_7 fl_RX4_10 rfl g3 g4 rfl ?_
  refine aw_iload_n 11 dX4_record_10 rfl 1 rfl rfl ?_
  refine aw_iload_n 12 dX4_record_11 rfl 2 rfl rfl ?_
  obtain ⟨g7, h⟩ := h
  refine aw_callV (M' := M_X3_reasonAt) 15 164 3 (hR X1 l0 0) [.int _, .int _] [] dX4_record_12 lk_RX4_164 mv_X3_reasonAt mp_X3_reasonAt rfl ⟨leb rfl, leb rfl⟩ rfl (ltb rfl) g7 rfl (leb rfl) (leb rfl) (leb rfl) rfl (am_X3_reasonAt hG h) (kkI fun v6 X5 h => ?_) (kxN KrI.no)
  refine aw_widen (cc' := 2) (ss' := 12) (leb rfl) (leb rfl) ?_
  refine aw_if_eq 28 18 dX4_record_15 rfl rfl (fun c8 => ?_) (fun c8 => ?_)
  · replace h := h.1 c8
    refine aw_aload_n 29 dX4_record_28 rfl 0 rfl rfl ?_
    obtain ⟨g9, h⟩ := h
    obtain ⟨g10, h⟩ := h
    refine aw_getR 32 dX4_record_29 fl_RX4_19 rfl g9 g10 rfl ?_
    refine aw_aload_n 33 dX4_record_32 rfl 0 rfl rfl ?_
    obtain ⟨g11, h⟩ := h
    refine aw_getR 36 dX4_record_33 fl_RX4_10 rfl g9 g11 rfl ?_
    obtain ⟨g13, h⟩ := h
    refine aw_callV (M' := M_X1_push) 39 67 1 (hR X5 l0 1) [.ref _] [] dX4_record_36 lk_RX4_67 mv_X1_push mp_X1_push rfl ⟨leb rfl, leb rfl⟩ rfl (ltb rfl) g13 rfl (leb rfl) (leb rfl) (leb rfl) rfl (am_X1_push hG h) (kkV fun X12 h => ?_) (kxN KrV.no)
    refine aw_widen (cc' := 2) (ss' := 12) (leb rfl) (leb rfl) ?_
    refine aw_aload_n 40 dX4_record_39 rfl 0 rfl rfl ?_
    obtain ⟨g14, h⟩ := h
    obtain ⟨g15, h⟩ := h
    refine aw_getR 43 dX4_record_40 fl_RX4_10 rfl g14 g15 rfl ?_
    refine aw_iload_n 44 dX4_record_43 rfl 1 rfl rfl ?_
    refine aw_iload_n 45 dX4_record_44 rfl 2 rfl rfl ?_
    obtain ⟨g17, h⟩ := h
    refine aw_callV (M' := M_X3_take) 48 169 3 (hR X12 l0 0) [.int _, .int _] [] dX4_record_45 lk_RX4_169 mv_X3_take mp_X3_take rfl ⟨leb rfl, leb rfl⟩ rfl (ltb rfl) g17 rfl (leb rfl) (leb rfl) (leb rfl) rfl (am_X3_take hG h) (kkV fun X16 h => ?_) (kxN KrV.no)
    refine aw_widen (cc' := 2) (ss' := 12) (leb rfl) (leb rfl) ?_
    refine aw_aload_n 49 dX4_record_48 rfl 0 rfl rfl ?_
    obtain ⟨g18, h⟩ := h
    obtain ⟨g19, h⟩ := h
    refine aw_getR 52 dX4_record_49 fl_RX4_10 rfl g18 g19 rfl ?_
    refine aw_aload_n 53 dX4_record_52 rfl 0 rfl rfl ?_
    refine aw_getR 56 dX4_record_53 fl_RX4_10 rfl g18 g19 rfl ?_
    refine aw_iload_n 57 dX4_record_56 rfl 1 rfl rfl ?_
    obtain ⟨g22, h⟩ := h
    refine aw_callV (M' := M_X3_speakerAt) 60 172 3 (hR X16 l0 0) [.int _] [.ref _] dX4_record_57 lk_RX4_172 mv_X3_speakerAt mp_X3_speakerAt rfl ⟨leb rfl, leb rfl⟩ rfl (ltb rfl) g22 rfl (leb rfl) (leb rfl) (leb rfl) rfl (am_X3_speakerAt hG h) (kkI fun v21 X20 h => ?_) (kxN KrI.no)
    refine aw_widen (cc' := 2) (ss' := 12) (leb rfl) (leb rfl) ?_
    refine aw_iload_n 61 dX4_record_60 rfl 2 rfl rfl ?_
    obtain ⟨g25, h⟩ := h
    refine aw_callV (M' := M_X3_strengthAt) 64 175 3 (hR X16 l0 0) [.int _, .int _] [] dX4_record_61 lk_RX4_175 mv_X3_strengthAt mp_X3_strengthAt rfl ⟨leb rfl, leb rfl⟩ rfl (ltb rfl) g25 rfl (leb rfl) (leb rfl) (leb rfl) rfl (am_X3_strengthAt hG h) (kkI fun v24 X23 h => ?_) (kxN KrI.no)
    refine aw_widen (cc' := 2) (ss' := 12) (leb rfl) (leb rfl) ?_
    exact aw_ireturn (ty := .int) dX4_record_64 rfl rfl (leb rfl) (leb rfl) (Or.inl ⟨_, rfl, h⟩)
  · replace h := h.2 c8
    exact aw_throw xcS 60 167 64 rfl th_xcS (by decide) (Or.inl ⟨dX4_record_18, dX4_record_21, dX4_record_22, dX4_record_24, dX4_record_27⟩) rfl (ltb rfl) (leb rfl) (leb rfl) (leb rfl) (Or.inr ⟨_, rfl, h⟩))
set_option maxRecDepth 20000 in
theorem am_L_recordIt {G : GG} (hG : G.1.stackTraces = false) {l0 : Nat} {l1 : Int32} {l2 : Int32} {X : XH} {K : Int32 → XH → Prop} (h : w_L_recordIt l0 l1 l2 X K) : AM G M_L_recordIt X [.ref l0, .int l1, .int l2] (KrI K) := AM_ofH (by decide +kernel) (0, 6, 7, 15) [(0, 6, 11, 19)] rfl (leb rfl) hG (by
  show AW G M_L_recordIt 0 [(0, .ref l0), (1, .int l1), (2, .int l2)] [] X 0 0 _
  unfold w_L_recordIt at h
  refine aw_aload_n 1 dL_recordIt_0 rfl 0 rfl rfl ?_
  refine aw_iload_n 2 dL_recordIt_1 rfl 1 rfl rfl ?_
  refine aw_iload_n 3 dL_recordIt_2 rfl 2 rfl rfl ?_
  obtain ⟨g3, h⟩ := h
  refine aw_callV (M' := M_X4_record) 6 43 4 l0 [.int _, .int _] [] dL_recordIt_3 lk_RL_43 mv_X4_record mp_X4_record rfl ⟨leb rfl, leb rfl⟩ rfl (ltb rfl) g3 rfl (leb rfl) (leb rfl) (leb rfl) rfl (am_X4_record hG h) (kkT (kkI fun v2 X1 h => ?_)) (kxT KrI.no fun E X1 h => ?_)
  · refine aw_widen (cc' := 3) (ss' := 18) (leb rfl) (leb rfl) ?_
    exact aw_ireturn (ty := .int) dL_recordIt_6 rfl rfl (leb rfl) (leb rfl) ⟨_, rfl, h⟩
  · obtain ⟨hE, h⟩ := h
    rcases hE with rfl | rfl
    · refine aw_atc (lv' := [(0, .ref _), (1, .int _), (2, .int _)]) [] (0, 6, 7, 15) [(0, 6, 11, 19)] rfl (fun z hz => nomatch hz) (by decide) (by decide) (tk3 (i := 40) (by decide +kernel) rfl) (by decide) 3 1 8 (Or.inl ⟨3, rfl, dL_recordIt_7, rfl⟩) (ltb rfl) rfl ?_
      refine aw_widen (cc' := 3) (ss' := 18) (leb rfl) (leb rfl) ?_
      replace h := h.1 rfl
      refine aw_bipush 10 (v := -2) dL_recordIt_8 kB_m2 rfl ?_
      exact aw_ireturn (ty := .int) dL_recordIt_10 rfl rfl (leb rfl) (leb rfl) ⟨_, rfl, h⟩
    · refine aw_atc (lv' := [(0, .ref _), (1, .int _), (2, .int _)]) [(0, 6, 7, 15)] (0, 6, 11, 19) [] rfl (by intro z hz; simp only [List.mem_cons, List.not_mem_nil, or_false] at hz; rcases hz with rfl <;> first | exact ⟨by decide, xcI, tk3 (i := 40) (by decide +kernel) rfl, by decide⟩) (by decide) (by decide) (tk3 (i := 42) (by decide +kernel) rfl) (by decide) 3 1 12 (Or.inl ⟨3, rfl, dL_recordIt_11, rfl⟩) (ltb rfl) rfl ?_
      refine aw_widen (cc' := 3) (ss' := 18) (leb rfl) (leb rfl) ?_
      replace h := h.2 rfl
      refine aw_bipush 14 (v := -4) dL_recordIt_12 kB_m4 rfl ?_
      exact aw_ireturn (ty := .int) dL_recordIt_14 rfl rfl (leb rfl) (leb rfl) ⟨_, rfl, h⟩)
end XWK2
