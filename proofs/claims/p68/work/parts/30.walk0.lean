/-! the walks of methods, as predicates -/
section XWK0
set_option maxRecDepth 20000 in
theorem am_J6_bitCount_0f7a4 {G : GG} (hG : G.1.stackTraces = false) {l0 : Int32} {X : XH} {K : Int32 → XH → Prop} (h : w_J6_bitCount_0f7a4 l0 X K) : AM G M_J6_bitCount_0f7a4 X [.int l0] (KrI K) := AM_of (by decide +kernel) rfl (leb rfl) hG (by
  show AW G M_J6_bitCount_0f7a4 0 [(0, .int l0)] [] X 0 0 _
  unfold w_J6_bitCount_0f7a4 at h
  refine aw_iload_n 1 dJ6_bitCount_0f7a4_0 rfl 0 rfl rfl ?_
  refine aw_iload_n 2 dJ6_bitCount_0f7a4_1 rfl 0 rfl rfl ?_
  refine aw_iconst 3 (v := 1) dJ6_bitCount_0f7a4_2 kI_1 rfl ?_
  refine aw_iushr 4 dJ6_bitCount_0f7a4_3 rfl ?_
  refine aw_ldcw 7 (v := 1431655765) dJ6_bitCount_0f7a4_4 (tk2 (i := 180) (by decide +kernel) rfl) rfl ?_
  refine aw_iand 8 dJ6_bitCount_0f7a4_7 rfl ?_
  refine aw_isub 9 dJ6_bitCount_0f7a4_8 rfl ?_
  refine aw_istore_n 10 (lv' := [(0, _)]) dJ6_bitCount_0f7a4_9 rfl (ltb rfl) rfl rfl ?_
  refine aw_iload_n 11 dJ6_bitCount_0f7a4_10 rfl 0 rfl rfl ?_
  refine aw_ldcw 14 (v := 858993459) dJ6_bitCount_0f7a4_11 (tk2 (i := 181) (by decide +kernel) rfl) rfl ?_
  refine aw_iand 15 dJ6_bitCount_0f7a4_14 rfl ?_
  refine aw_iload_n 16 dJ6_bitCount_0f7a4_15 rfl 0 rfl rfl ?_
  refine aw_iconst 17 (v := 2) dJ6_bitCount_0f7a4_16 kI_2 rfl ?_
  refine aw_iushr 18 dJ6_bitCount_0f7a4_17 rfl ?_
  refine aw_ldcw 21 (v := 858993459) dJ6_bitCount_0f7a4_18 (tk2 (i := 181) (by decide +kernel) rfl) rfl ?_
  refine aw_iand 22 dJ6_bitCount_0f7a4_21 rfl ?_
  refine aw_iadd 23 dJ6_bitCount_0f7a4_22 rfl ?_
  refine aw_istore_n 24 (lv' := [(0, _)]) dJ6_bitCount_0f7a4_23 rfl (ltb rfl) rfl rfl ?_
  refine aw_iload_n 25 dJ6_bitCount_0f7a4_24 rfl 0 rfl rfl ?_
  refine aw_iload_n 26 dJ6_bitCount_0f7a4_25 rfl 0 rfl rfl ?_
  refine aw_iconst 27 (v := 4) dJ6_bitCount_0f7a4_26 kI_4 rfl ?_
  refine aw_iushr 28 dJ6_bitCount_0f7a4_27 rfl ?_
  refine aw_iadd 29 dJ6_bitCount_0f7a4_28 rfl ?_
  refine aw_ldcw 32 (v := 252645135) dJ6_bitCount_0f7a4_29 (tk2 (i := 182) (by decide +kernel) rfl) rfl ?_
  refine aw_iand 33 dJ6_bitCount_0f7a4_32 rfl ?_
  refine aw_istore_n 34 (lv' := [(0, _)]) dJ6_bitCount_0f7a4_33 rfl (ltb rfl) rfl rfl ?_
  refine aw_iload_n 35 dJ6_bitCount_0f7a4_34 rfl 0 rfl rfl ?_
  refine aw_iload_n 36 dJ6_bitCount_0f7a4_35 rfl 0 rfl rfl ?_
  refine aw_bipush 38 (v := 8) dJ6_bitCount_0f7a4_36 kB_8 rfl ?_
  refine aw_iushr 39 dJ6_bitCount_0f7a4_38 rfl ?_
  refine aw_iadd 40 dJ6_bitCount_0f7a4_39 rfl ?_
  refine aw_istore_n 41 (lv' := [(0, _)]) dJ6_bitCount_0f7a4_40 rfl (ltb rfl) rfl rfl ?_
  refine aw_iload_n 42 dJ6_bitCount_0f7a4_41 rfl 0 rfl rfl ?_
  refine aw_iload_n 43 dJ6_bitCount_0f7a4_42 rfl 0 rfl rfl ?_
  refine aw_bipush 45 (v := 16) dJ6_bitCount_0f7a4_43 kB_16 rfl ?_
  refine aw_iushr 46 dJ6_bitCount_0f7a4_45 rfl ?_
  refine aw_iadd 47 dJ6_bitCount_0f7a4_46 rfl ?_
  refine aw_istore_n 48 (lv' := [(0, _)]) dJ6_bitCount_0f7a4_47 rfl (ltb rfl) rfl rfl ?_
  refine aw_iload_n 49 dJ6_bitCount_0f7a4_48 rfl 0 rfl rfl ?_
  refine aw_bipush 51 (v := 63) dJ6_bitCount_0f7a4_49 kB_63 rfl ?_
  refine aw_iand 52 dJ6_bitCount_0f7a4_51 rfl ?_
  exact aw_ireturn (ty := .int) dJ6_bitCount_0f7a4_52 rfl rfl (leb rfl) (leb rfl) ⟨_, rfl, h⟩)
set_option maxRecDepth 20000 in
theorem am_X4_clauses {G : GG} (hG : G.1.stackTraces = false) {l0 : Nat} {X : XH} {K : Int32 → XH → Prop} (h : w_X4_clauses l0 X K) : AM G M_X4_clauses X [.ref l0] (KrI K) := AM_of (by decide +kernel) rfl (leb rfl) hG (by
  show AW G M_X4_clauses 0 [(0, .ref l0)] [] X 0 0 _
  unfold w_X4_clauses at h
  refine aw_aload_n 1 dX4_clauses_0 rfl 0 rfl rfl ?_
  obtain ⟨g1, h⟩ := h
  obtain ⟨g2, h⟩ := h
  refine aw_getR 4 dX4_clauses_1 fl_RX4_10 rfl g1 g2 rfl ?_
  obtain ⟨g3, h⟩ := h
  refine aw_getI 7 dX4_clauses_4 fl_RX4_56 rfl g3 rfl ?_
  exact aw_ireturn (ty := .int) dX4_clauses_7 rfl rfl (leb rfl) (leb rfl) ⟨_, rfl, h⟩)
set_option maxRecDepth 20000 in
theorem am_X4_checkReel {G : GG} (hG : G.1.stackTraces = false) {l0 : Int32} {X : XH} {K : XH → Prop} {KX : String → XH → Prop} (h : w_X4_checkReel l0 X K KX) : AM G M_X4_checkReel X [.int l0] (KxT (KrV K) KX) := AM_of (by decide +kernel) rfl (leb rfl) hG (by
  show AW G M_X4_checkReel 0 [(0, .int l0)] [] X 0 0 _
  unfold w_X4_checkReel at h
  refine aw_iload_n 1 dX4_checkReel_0 rfl 0 rfl rfl ?_
  refine aw_if_lt 9 4 dX4_checkReel_1 rfl rfl (fun c1 => ?_) (fun c1 => ?_)
  · replace h := h.1 c1
    exact aw_throw xcI 421 426 425 rfl th_xcI (by decide) (Or.inr ⟨dX4_checkReel_9, dX4_checkReel_12, dX4_checkReel_13, dX4_checkReel_16, dX4_checkReel_19⟩) rfl (ltb rfl) (leb rfl) (leb rfl) (leb rfl) (Or.inr ⟨_, rfl, h⟩)
  · replace h := h.2 c1
    refine aw_iload_n 5 dX4_checkReel_4 rfl 0 rfl rfl ?_
    refine aw_iconst 6 (v := 4) dX4_checkReel_5 kI_4 rfl ?_
    refine aw_icmp_lt 20 9 dX4_checkReel_6 rfl rfl (fun c2 => ?_) (fun c2 => ?_)
    · replace h := h.1 c2
      exact aw_return dX4_checkReel_20 rfl (leb rfl) (leb rfl) (Or.inl ⟨rfl, h⟩)
    · replace h := h.2 c2
      exact aw_throw xcI 421 426 425 rfl th_xcI (by decide) (Or.inr ⟨dX4_checkReel_9, dX4_checkReel_12, dX4_checkReel_13, dX4_checkReel_16, dX4_checkReel_19⟩) rfl (ltb rfl) (leb rfl) (leb rfl) (leb rfl) (Or.inr ⟨_, rfl, h⟩))
set_option maxRecDepth 20000 in
theorem am_X4_checkState {G : GG} (hG : G.1.stackTraces = false) {l0 : Int32} {X : XH} {K : XH → Prop} {KX : String → XH → Prop} (h : w_X4_checkState l0 X K KX) : AM G M_X4_checkState X [.int l0] (KxT (KrV K) KX) := AM_of (by decide +kernel) rfl (leb rfl) hG (by
  show AW G M_X4_checkState 0 [(0, .int l0)] [] X 0 0 _
  unfold w_X4_checkState at h
  refine aw_iload_n 1 dX4_checkState_0 rfl 0 rfl rfl ?_
  refine aw_if_lt 9 4 dX4_checkState_1 rfl rfl (fun c1 => ?_) (fun c1 => ?_)
  · replace h := h.1 c1
    exact aw_throw xcI 421 428 425 rfl th_xcI (by decide) (Or.inr ⟨dX4_checkState_9, dX4_checkState_12, dX4_checkState_13, dX4_checkState_16, dX4_checkState_19⟩) rfl (ltb rfl) (leb rfl) (leb rfl) (leb rfl) (Or.inr ⟨_, rfl, h⟩)
  · replace h := h.2 c1
    refine aw_iload_n 5 dX4_checkState_4 rfl 0 rfl rfl ?_
    refine aw_iconst 6 (v := 5) dX4_checkState_5 kI_5 rfl ?_
    refine aw_icmp_lt 20 9 dX4_checkState_6 rfl rfl (fun c2 => ?_) (fun c2 => ?_)
    · replace h := h.1 c2
      exact aw_return dX4_checkState_20 rfl (leb rfl) (leb rfl) (Or.inl ⟨rfl, h⟩)
    · replace h := h.2 c2
      exact aw_throw xcI 421 428 425 rfl th_xcI (by decide) (Or.inr ⟨dX4_checkState_9, dX4_checkState_12, dX4_checkState_13, dX4_checkState_16, dX4_checkState_19⟩) rfl (ltb rfl) (leb rfl) (leb rfl) (leb rfl) (Or.inr ⟨_, rfl, h⟩))
set_option maxRecDepth 20000 in
theorem am_X4_checkRange {G : GG} (hG : G.1.stackTraces = false) {l0 : Int32} {l1 : Int32} {l2 : Int32} {X : XH} {K : XH → Prop} {KX : String → XH → Prop} (h : w_X4_checkRange l0 l1 l2 X K KX) : AM G M_X4_checkRange X [.int l0, .int l1, .int l2] (KxT (KrV K) KX) := AM_of (by decide +kernel) rfl (leb rfl) hG (by
  show AW G M_X4_checkRange 0 [(0, .int l0), (1, .int l1), (2, .int l2)] [] X 0 0 _
  unfold w_X4_checkRange at h
  refine aw_iload_n 1 dX4_checkRange_0 rfl 0 rfl rfl ?_
  refine aw_iload_n 2 dX4_checkRange_1 rfl 1 rfl rfl ?_
  refine aw_icmp_lt 10 5 dX4_checkRange_2 rfl rfl (fun c1 => ?_) (fun c1 => ?_)
  · replace h := h.1 c1
    exact aw_throw xcA 242 432 246 rfl th_xcA (by decide) (Or.inr ⟨dX4_checkRange_10, dX4_checkRange_13, dX4_checkRange_14, dX4_checkRange_17, dX4_checkRange_20⟩) rfl (ltb rfl) (leb rfl) (leb rfl) (leb rfl) (Or.inr ⟨_, rfl, h⟩)
  · replace h := h.2 c1
    refine aw_iload_n 6 dX4_checkRange_5 rfl 0 rfl rfl ?_
    refine aw_iload_n 7 dX4_checkRange_6 rfl 2 rfl rfl ?_
    refine aw_icmp_le 21 10 dX4_checkRange_7 rfl rfl (fun c2 => ?_) (fun c2 => ?_)
    · replace h := h.1 c2
      exact aw_return dX4_checkRange_21 rfl (leb rfl) (leb rfl) (Or.inl ⟨rfl, h⟩)
    · replace h := h.2 c2
      exact aw_throw xcA 242 432 246 rfl th_xcA (by decide) (Or.inr ⟨dX4_checkRange_10, dX4_checkRange_13, dX4_checkRange_14, dX4_checkRange_17, dX4_checkRange_20⟩) rfl (ltb rfl) (leb rfl) (leb rfl) (leb rfl) (Or.inr ⟨_, rfl, h⟩))
set_option maxRecDepth 20000 in
theorem am_X4_treatyAt {G : GG} (hG : G.1.stackTraces = false) {l0 : Nat} {l1 : Int32} {X : XH} {K : Nat → XH → Prop} (h : w_X4_treatyAt l0 l1 X K) : AM G M_X4_treatyAt X [.ref l0, .int l1] (KrR K) := AM_of (by decide +kernel) rfl (leb rfl) hG (by
  show AW G M_X4_treatyAt 0 [(0, .ref l0), (1, .int l1)] [] X 0 0 _
  unfold w_X4_treatyAt at h
  refine aw_iload_n 1 dX4_treatyAt_0 rfl 1 rfl rfl ?_
  refine aw_if_lt 16 4 dX4_treatyAt_1 rfl rfl (fun c1 => ?_) (fun c1 => ?_)
  · replace h := h.1 c1
    exact h.elim
  · replace h := h.2 c1
    refine aw_iload_n 5 dX4_treatyAt_4 rfl 1 rfl rfl ?_
    refine aw_aload_n 6 dX4_treatyAt_5 rfl 0 rfl rfl ?_
    obtain ⟨g2, h⟩ := h
    refine aw_alen 7 dX4_treatyAt_6 g2 rfl ?_
    refine aw_icmp_ge 16 10 dX4_treatyAt_7 rfl rfl (fun c3 => ?_) (fun c3 => ?_)
    · replace h := h.1 c3
      exact h.elim
    · replace h := h.2 c3
      refine aw_aload_n 11 dX4_treatyAt_10 rfl 0 rfl rfl ?_
      refine aw_iload_n 12 dX4_treatyAt_11 rfl 1 rfl rfl ?_
      obtain ⟨g4, h⟩ := h
      obtain ⟨g5, h⟩ := h
      obtain ⟨g6, h⟩ := h
      refine aw_aaload 13 3 dX4_treatyAt_12 g4 g5 g6 rfl ?_
      refine aw_goto 17 dX4_treatyAt_13 rfl ?_
      exact aw_areturn dX4_treatyAt_17 rfl (leb rfl) (leb rfl) ⟨_, rfl, h⟩)
set_option maxRecDepth 20000 in
theorem aw_X1_dropOldest_11 {G : GG} (hG : G.1.stackTraces = false)  {l0 : Nat} {l1 : Nat} {l2 : Int32} {X : XH} {K : XH → Prop}  (h : w_X1_dropOldest_11  l0 l1 l2 X K) : AW G M_X1_dropOldest 11 [(0, .ref l0), (1, .ref l1), (2, .int l2)] [] X 0 0 (KrV K) :=
  h (fun l0 l1 l2 X => AW G M_X1_dropOldest 11 [(0, .ref l0), (1, .ref l1), (2, .int l2)] [] X 0 0 (KrV K)) (fun l0 l1 l2 X h => by
    refine aw_iload_n 12 dX1_dropOldest_11 rfl 2 rfl rfl ?_
    refine aw_aload_n 13 dX1_dropOldest_12 rfl 0 rfl rfl ?_
    obtain ⟨g1, h⟩ := h
    obtain ⟨g2, h⟩ := h
    refine aw_getR 16 dX1_dropOldest_13 fl_RX1_11 rfl g1 g2 rfl ?_
    obtain ⟨g3, h⟩ := h
    refine aw_alen 17 dX1_dropOldest_16 g3 rfl ?_
    refine aw_icmp_ge 40 20 dX1_dropOldest_17 rfl rfl (fun c4 => ?_) (fun c4 => ?_)
    · replace h := h.1 c4
      refine aw_aload_n 41 dX1_dropOldest_40 rfl 0 rfl rfl ?_
      refine aw_getR 44 dX1_dropOldest_41 fl_RX1_11 rfl g1 g2 rfl ?_
      refine aw_alen 45 dX1_dropOldest_44 g3 rfl ?_
      refine aw_if_le 61 48 dX1_dropOldest_45 rfl rfl (fun c5 => ?_) (fun c5 => ?_)
      · replace h := h.1 c5
        refine aw_aload_n 62 dX1_dropOldest_61 rfl 0 rfl rfl ?_
        refine aw_dup 63 dX1_dropOldest_62 rfl rfl ?_
        refine aw_getI 66 dX1_dropOldest_63 fl_RX1_18 rfl g1 rfl ?_
        refine aw_iconst 67 (v := 1) dX1_dropOldest_66 kI_1 rfl ?_
        refine aw_isub 68 dX1_dropOldest_67 rfl ?_
        refine aw_putI 71 dX1_dropOldest_68 fl_RX1_18 rfl rfl rfl rfl g1 rfl ?_
        exact aw_return dX1_dropOldest_71 rfl (leb rfl) (leb rfl) ⟨rfl, h⟩
      · replace h := h.2 c5
        refine aw_aload_n 49 dX1_dropOldest_48 rfl 0 rfl rfl ?_
        refine aw_getR 52 dX1_dropOldest_49 fl_RX1_11 rfl g1 g2 rfl ?_
        refine aw_aload_n 53 dX1_dropOldest_52 rfl 0 rfl rfl ?_
        refine aw_getR 56 dX1_dropOldest_53 fl_RX1_11 rfl g1 g2 rfl ?_
        refine aw_alen 57 dX1_dropOldest_56 g3 rfl ?_
        refine aw_iconst 58 (v := 1) dX1_dropOldest_57 kI_1 rfl ?_
        refine aw_isub 59 dX1_dropOldest_58 rfl ?_
        refine aw_aload_n 60 dX1_dropOldest_59 rfl 1 rfl rfl ?_
        obtain ⟨g6, h⟩ := h
        obtain ⟨g7, h⟩ := h
        obtain ⟨g8, h⟩ := h
        refine aw_aastore 61 3 dX1_dropOldest_60 (ltb rfl) g6 g7 g8 rfl ?_
        refine aw_aload_n 62 dX1_dropOldest_61 rfl 0 rfl rfl ?_
        refine aw_dup 63 dX1_dropOldest_62 rfl rfl ?_
        refine aw_getI 66 dX1_dropOldest_63 fl_RX1_18 rfl g1 rfl ?_
        refine aw_iconst 67 (v := 1) dX1_dropOldest_66 kI_1 rfl ?_
        refine aw_isub 68 dX1_dropOldest_67 rfl ?_
        refine aw_putI 71 dX1_dropOldest_68 fl_RX1_18 rfl rfl rfl rfl g1 rfl ?_
        exact aw_return dX1_dropOldest_71 rfl (leb rfl) (leb rfl) ⟨rfl, h⟩
    · replace h := h.2 c4
      refine aw_aload_n 21 dX1_dropOldest_20 rfl 0 rfl rfl ?_
      refine aw_getR 24 dX1_dropOldest_21 fl_RX1_11 rfl g1 g2 rfl ?_
      refine aw_iload_n 25 dX1_dropOldest_24 rfl 2 rfl rfl ?_
      refine aw_iconst 26 (v := 1) dX1_dropOldest_25 kI_1 rfl ?_
      refine aw_isub 27 dX1_dropOldest_26 rfl ?_
      refine aw_aload_n 28 dX1_dropOldest_27 rfl 0 rfl rfl ?_
      refine aw_getR 31 dX1_dropOldest_28 fl_RX1_11 rfl g1 g2 rfl ?_
      refine aw_iload_n 32 dX1_dropOldest_31 rfl 2 rfl rfl ?_
      obtain ⟨g9, h⟩ := h
      obtain ⟨g10, h⟩ := h
      obtain ⟨g11, h⟩ := h
      refine aw_aaload 33 3 dX1_dropOldest_32 g9 g10 g11 rfl ?_
      obtain ⟨g12, h⟩ := h
      obtain ⟨g13, h⟩ := h
      refine aw_aastore 34 3 dX1_dropOldest_33 (ltb rfl) g9 g12 g13 rfl ?_
      refine aw_iinc 37 (v := 1) (lv' := [(2, _), (0, _), (1, _)]) dX1_dropOldest_34 2 rfl kI_1 (ltb rfl) rfl rfl ?_
      refine aw_goto 11 dX1_dropOldest_37 rfl ?_
      exact aw_pick [1, 2, 0] rfl h)
set_option maxRecDepth 20000 in
theorem am_X1_dropOldest {G : GG} (hG : G.1.stackTraces = false) {l0 : Nat} {X : XH} {K : XH → Prop} (h : w_X1_dropOldest l0 X K) : AM G M_X1_dropOldest X [.ref l0] (KrV K) := AM_of (by decide +kernel) rfl (leb rfl) hG (by
  show AW G M_X1_dropOldest 0 [(0, .ref l0)] [] X 0 0 _
  unfold w_X1_dropOldest at h
  refine aw_aload_n 1 dX1_dropOldest_0 rfl 0 rfl rfl ?_
  obtain ⟨g1, h⟩ := h
  obtain ⟨g2, h⟩ := h
  refine aw_getR 4 dX1_dropOldest_1 fl_RX1_11 rfl g1 g2 rfl ?_
  refine aw_iconst 5 (v := 0) dX1_dropOldest_4 kI_0 rfl ?_
  refine aw_callSN (M' := M_X4_treatyAt) 8 25 [.ref _, .int _] [] dX1_dropOldest_5 (by decide) ms_X4_treatyAt mp_X4_treatyAt rfl ⟨leb rfl, leb rfl⟩ rfl (leb rfl) (leb rfl) (leb rfl) rfl (am_X4_treatyAt hG h) (kkR fun v4 X3 h => ?_) KrR.no
  refine aw_widen (cc' := 0) (ss' := 0) (leb rfl) (leb rfl) ?_
  refine aw_astore_n 9 (lv' := [(1, _), (0, _)]) dX1_dropOldest_8 rfl (ltb rfl) rfl rfl ?_
  refine aw_iconst 10 (v := 1) dX1_dropOldest_9 kI_1 rfl ?_
  refine aw_istore_n 11 (lv' := [(2, _), (1, _), (0, _)]) dX1_dropOldest_10 rfl (ltb rfl) rfl rfl ?_
  exact aw_pick [2, 1, 0] rfl (aw_X1_dropOldest_11 hG  h))
set_option maxRecDepth 20000 in
theorem am_X4_copyRow {G : GG} (hG : G.1.stackTraces = false) {l0 : Nat} {l1 : Nat} {X : XH} {K : XH → Prop} (h : w_X4_copyRow l0 l1 X K) : AM G M_X4_copyRow X [.ref l0, .ref l1] (KrV K) := AM_of (by decide +kernel) rfl (leb rfl) hG (by
  show AW G M_X4_copyRow 0 [(0, .ref l0), (1, .ref l1)] [] X 0 0 _
  unfold w_X4_copyRow at h
  refine aw_aload_n 1 dX4_copyRow_0 rfl 0 rfl rfl ?_
  refine aw_iconst 2 (v := 0) dX4_copyRow_1 kI_0 rfl ?_
  refine aw_aload_n 3 dX4_copyRow_2 rfl 1 rfl rfl ?_
  refine aw_iconst 4 (v := 0) dX4_copyRow_3 kI_0 rfl ?_
  refine aw_aload_n 5 dX4_copyRow_4 rfl 0 rfl rfl ?_
  obtain ⟨g1, h⟩ := h
  refine aw_alen 6 dX4_copyRow_5 g1 rfl ?_
  refine aw_aload_n 7 dX4_copyRow_6 rfl 1 rfl rfl ?_
  obtain ⟨g2, h⟩ := h
  refine aw_alen 8 dX4_copyRow_7 g2 rfl ?_
  refine aw_mmin 11 dX4_copyRow_8 mx_RX4_440 (leb rfl) (leb rfl) (leb rfl) (leb rfl) rfl ?_
  obtain ⟨g3, h⟩ := h
  obtain ⟨g4, h⟩ := h
  obtain ⟨g5, h⟩ := h
  obtain ⟨g6, h⟩ := h
  obtain ⟨g7, h⟩ := h
  refine aw_copy 14 dX4_copyRow_11 (tk3 (i := 176) (by decide +kernel) rfl) (tk3 (i := 178) (by decide +kernel) rfl) (tk3 (i := 177) (by decide +kernel) rfl) (tk1 (i := 11) (by decide +kernel) rfl) g3 g4 (by decide) (by decide) g5 g6 g7 (leb rfl) (leb rfl) rfl ?_
  exact aw_return dX4_copyRow_14 rfl (leb rfl) (leb rfl) ⟨rfl, h⟩)
set_option maxRecDepth 20000 in
theorem am_X3_becomeLike {G : GG} (hG : G.1.stackTraces = false) {l0 : Nat} {l1 : Nat} {X : XH} {K : XH → Prop} (h : w_X3_becomeLike l0 l1 X K) : AM G M_X3_becomeLike X [.ref l0, .ref l1] (KrV K) := AM_of (by decide +kernel) rfl (leb rfl) hG (by
  show AW G M_X3_becomeLike 0 [(0, .ref l0), (1, .ref l1)] [] X 0 0 _
  unfold w_X3_becomeLike at h
  refine aw_aload_n 1 dX3_becomeLike_0 rfl 1 rfl rfl ?_
  refine aw_ifnonnull 5 dX3_becomeLike_1 rfl ?_
  refine aw_aload_n 6 dX3_becomeLike_5 rfl 0 rfl rfl ?_
  refine aw_aload_n 7 dX3_becomeLike_6 rfl 1 rfl rfl ?_
  obtain ⟨g1, h⟩ := h
  refine aw_getI 10 dX3_becomeLike_7 fl_RX3_45 rfl g1 rfl ?_
  obtain ⟨g2, h⟩ := h
  refine aw_putI 13 dX3_becomeLike_10 fl_RX3_45 rfl rfl rfl rfl g2 rfl ?_
  refine aw_aload_n 14 dX3_becomeLike_13 rfl 1 rfl rfl ?_
  obtain ⟨g3, h⟩ := h
  refine aw_getR 17 dX3_becomeLike_14 fl_RX3_9 rfl g1 g3 rfl ?_
  refine aw_aload_n 18 dX3_becomeLike_17 rfl 0 rfl rfl ?_
  obtain ⟨g4, h⟩ := h
  refine aw_getR 21 dX3_becomeLike_18 fl_RX3_9 rfl g2 g4 rfl ?_
  refine aw_callSN (M' := M_X4_copyRow) 24 49 [.ref _, .ref _] [] dX3_becomeLike_21 (by decide) ms_X4_copyRow mp_X4_copyRow rfl ⟨leb rfl, leb rfl⟩ rfl (leb rfl) (leb rfl) (leb rfl) rfl (am_X4_copyRow hG h) (kkV fun X5 h => ?_) KrV.no
  refine aw_widen (cc' := 0) (ss' := 0) (leb rfl) (leb rfl) ?_
  refine aw_aload_n 25 dX3_becomeLike_24 rfl 1 rfl rfl ?_
  obtain ⟨g6, h⟩ := h
  obtain ⟨g7, h⟩ := h
  refine aw_getR 28 dX3_becomeLike_25 fl_RX3_15 rfl g6 g7 rfl ?_
  refine aw_aload_n 29 dX3_becomeLike_28 rfl 0 rfl rfl ?_
  obtain ⟨g8, h⟩ := h
  obtain ⟨g9, h⟩ := h
  refine aw_getR 32 dX3_becomeLike_29 fl_RX3_15 rfl g8 g9 rfl ?_
  refine aw_callSN (M' := M_X4_copyRow) 35 49 [.ref _, .ref _] [] dX3_becomeLike_32 (by decide) ms_X4_copyRow mp_X4_copyRow rfl ⟨leb rfl, leb rfl⟩ rfl (leb rfl) (leb rfl) (leb rfl) rfl (am_X4_copyRow hG h) (kkV fun X10 h => ?_) KrV.no
  refine aw_widen (cc' := 0) (ss' := 0) (leb rfl) (leb rfl) ?_
  refine aw_aload_n 36 dX3_becomeLike_35 rfl 1 rfl rfl ?_
  obtain ⟨g11, h⟩ := h
  obtain ⟨g12, h⟩ := h
  refine aw_getR 39 dX3_becomeLike_36 fl_RX3_18 rfl g11 g12 rfl ?_
  refine aw_aload_n 40 dX3_becomeLike_39 rfl 0 rfl rfl ?_
  obtain ⟨g13, h⟩ := h
  obtain ⟨g14, h⟩ := h
  refine aw_getR 43 dX3_becomeLike_40 fl_RX3_18 rfl g13 g14 rfl ?_
  refine aw_callSN (M' := M_X4_copyRow) 46 49 [.ref _, .ref _] [] dX3_becomeLike_43 (by decide) ms_X4_copyRow mp_X4_copyRow rfl ⟨leb rfl, leb rfl⟩ rfl (leb rfl) (leb rfl) (leb rfl) rfl (am_X4_copyRow hG h) (kkV fun X15 h => ?_) KrV.no
  refine aw_widen (cc' := 0) (ss' := 0) (leb rfl) (leb rfl) ?_
  refine aw_aload_n 47 dX3_becomeLike_46 rfl 1 rfl rfl ?_
  obtain ⟨g16, h⟩ := h
  obtain ⟨g17, h⟩ := h
  refine aw_getR 50 dX3_becomeLike_47 fl_RX3_21 rfl g16 g17 rfl ?_
  refine aw_aload_n 51 dX3_becomeLike_50 rfl 0 rfl rfl ?_
  obtain ⟨g18, h⟩ := h
  obtain ⟨g19, h⟩ := h
  refine aw_getR 54 dX3_becomeLike_51 fl_RX3_21 rfl g18 g19 rfl ?_
  refine aw_callSN (M' := M_X4_copyRow) 57 49 [.ref _, .ref _] [] dX3_becomeLike_54 (by decide) ms_X4_copyRow mp_X4_copyRow rfl ⟨leb rfl, leb rfl⟩ rfl (leb rfl) (leb rfl) (leb rfl) rfl (am_X4_copyRow hG h) (kkV fun X20 h => ?_) KrV.no
  refine aw_widen (cc' := 0) (ss' := 0) (leb rfl) (leb rfl) ?_
  refine aw_aload_n 58 dX3_becomeLike_57 rfl 1 rfl rfl ?_
  obtain ⟨g21, h⟩ := h
  obtain ⟨g22, h⟩ := h
  refine aw_getR 61 dX3_becomeLike_58 fl_RX3_24 rfl g21 g22 rfl ?_
  refine aw_aload_n 62 dX3_becomeLike_61 rfl 0 rfl rfl ?_
  obtain ⟨g23, h⟩ := h
  obtain ⟨g24, h⟩ := h
  refine aw_getR 65 dX3_becomeLike_62 fl_RX3_24 rfl g23 g24 rfl ?_
  refine aw_callSN (M' := M_X4_copyRow) 68 49 [.ref _, .ref _] [] dX3_becomeLike_65 (by decide) ms_X4_copyRow mp_X4_copyRow rfl ⟨leb rfl, leb rfl⟩ rfl (leb rfl) (leb rfl) (leb rfl) rfl (am_X4_copyRow hG h) (kkV fun X25 h => ?_) KrV.no
  refine aw_widen (cc' := 0) (ss' := 0) (leb rfl) (leb rfl) ?_
  refine aw_aload_n 69 dX3_becomeLike_68 rfl 1 rfl rfl ?_
  obtain ⟨g26, h⟩ := h
  obtain ⟨g27, h⟩ := h
  refine aw_getR 72 dX3_becomeLike_69 fl_RX3_27 rfl g26 g27 rfl ?_
  refine aw_aload_n 73 dX3_becomeLike_72 rfl 0 rfl rfl ?_
  obtain ⟨g28, h⟩ := h
  obtain ⟨g29, h⟩ := h
  refine aw_getR 76 dX3_becomeLike_73 fl_RX3_27 rfl g28 g29 rfl ?_
  refine aw_callSN (M' := M_X4_copyRow) 79 49 [.ref _, .ref _] [] dX3_becomeLike_76 (by decide) ms_X4_copyRow mp_X4_copyRow rfl ⟨leb rfl, leb rfl⟩ rfl (leb rfl) (leb rfl) (leb rfl) rfl (am_X4_copyRow hG h) (kkV fun X30 h => ?_) KrV.no
  refine aw_widen (cc' := 0) (ss' := 0) (leb rfl) (leb rfl) ?_
  refine aw_aload_n 80 dX3_becomeLike_79 rfl 1 rfl rfl ?_
  obtain ⟨g31, h⟩ := h
  obtain ⟨g32, h⟩ := h
  refine aw_getR 83 dX3_becomeLike_80 fl_RX3_30 rfl g31 g32 rfl ?_
  refine aw_aload_n 84 dX3_becomeLike_83 rfl 0 rfl rfl ?_
  obtain ⟨g33, h⟩ := h
  obtain ⟨g34, h⟩ := h
  refine aw_getR 87 dX3_becomeLike_84 fl_RX3_30 rfl g33 g34 rfl ?_
  refine aw_callSN (M' := M_X4_copyRow) 90 49 [.ref _, .ref _] [] dX3_becomeLike_87 (by decide) ms_X4_copyRow mp_X4_copyRow rfl ⟨leb rfl, leb rfl⟩ rfl (leb rfl) (leb rfl) (leb rfl) rfl (am_X4_copyRow hG h) (kkV fun X35 h => ?_) KrV.no
  refine aw_widen (cc' := 0) (ss' := 0) (leb rfl) (leb rfl) ?_
  refine aw_aload_n 91 dX3_becomeLike_90 rfl 1 rfl rfl ?_
  obtain ⟨g36, h⟩ := h
  obtain ⟨g37, h⟩ := h
  refine aw_getR 94 dX3_becomeLike_91 fl_RX3_33 rfl g36 g37 rfl ?_
  refine aw_aload_n 95 dX3_becomeLike_94 rfl 0 rfl rfl ?_
  obtain ⟨g38, h⟩ := h
  obtain ⟨g39, h⟩ := h
  refine aw_getR 98 dX3_becomeLike_95 fl_RX3_33 rfl g38 g39 rfl ?_
  refine aw_callSN (M' := M_X4_copyRow) 101 49 [.ref _, .ref _] [] dX3_becomeLike_98 (by decide) ms_X4_copyRow mp_X4_copyRow rfl ⟨leb rfl, leb rfl⟩ rfl (leb rfl) (leb rfl) (leb rfl) rfl (am_X4_copyRow hG h) (kkV fun X40 h => ?_) KrV.no
  refine aw_widen (cc' := 0) (ss' := 0) (leb rfl) (leb rfl) ?_
  refine aw_aload_n 102 dX3_becomeLike_101 rfl 1 rfl rfl ?_
  obtain ⟨g41, h⟩ := h
  obtain ⟨g42, h⟩ := h
  refine aw_getR 105 dX3_becomeLike_102 fl_RX3_36 rfl g41 g42 rfl ?_
  refine aw_aload_n 106 dX3_becomeLike_105 rfl 0 rfl rfl ?_
  obtain ⟨g43, h⟩ := h
  obtain ⟨g44, h⟩ := h
  refine aw_getR 109 dX3_becomeLike_106 fl_RX3_36 rfl g43 g44 rfl ?_
  refine aw_callSN (M' := M_X4_copyRow) 112 49 [.ref _, .ref _] [] dX3_becomeLike_109 (by decide) ms_X4_copyRow mp_X4_copyRow rfl ⟨leb rfl, leb rfl⟩ rfl (leb rfl) (leb rfl) (leb rfl) rfl (am_X4_copyRow hG h) (kkV fun X45 h => ?_) KrV.no
  refine aw_widen (cc' := 0) (ss' := 0) (leb rfl) (leb rfl) ?_
  refine aw_aload_n 113 dX3_becomeLike_112 rfl 1 rfl rfl ?_
  obtain ⟨g46, h⟩ := h
  obtain ⟨g47, h⟩ := h
  refine aw_getR 116 dX3_becomeLike_113 fl_RX3_39 rfl g46 g47 rfl ?_
  refine aw_aload_n 117 dX3_becomeLike_116 rfl 0 rfl rfl ?_
  obtain ⟨g48, h⟩ := h
  obtain ⟨g49, h⟩ := h
  refine aw_getR 120 dX3_becomeLike_117 fl_RX3_39 rfl g48 g49 rfl ?_
  refine aw_callSN (M' := M_X4_copyRow) 123 49 [.ref _, .ref _] [] dX3_becomeLike_120 (by decide) ms_X4_copyRow mp_X4_copyRow rfl ⟨leb rfl, leb rfl⟩ rfl (leb rfl) (leb rfl) (leb rfl) rfl (am_X4_copyRow hG h) (kkV fun X50 h => ?_) KrV.no
  refine aw_widen (cc' := 0) (ss' := 0) (leb rfl) (leb rfl) ?_
  refine aw_aload_n 124 dX3_becomeLike_123 rfl 1 rfl rfl ?_
  obtain ⟨g51, h⟩ := h
  obtain ⟨g52, h⟩ := h
  refine aw_getR 127 dX3_becomeLike_124 fl_RX3_42 rfl g51 g52 rfl ?_
  refine aw_aload_n 128 dX3_becomeLike_127 rfl 0 rfl rfl ?_
  obtain ⟨g53, h⟩ := h
  obtain ⟨g54, h⟩ := h
  refine aw_getR 131 dX3_becomeLike_128 fl_RX3_42 rfl g53 g54 rfl ?_
  refine aw_callSN (M' := M_X4_copyRow) 134 49 [.ref _, .ref _] [] dX3_becomeLike_131 (by decide) ms_X4_copyRow mp_X4_copyRow rfl ⟨leb rfl, leb rfl⟩ rfl (leb rfl) (leb rfl) (leb rfl) rfl (am_X4_copyRow hG h) (kkV fun X55 h => ?_) KrV.no
  refine aw_widen (cc' := 0) (ss' := 0) (leb rfl) (leb rfl) ?_
  refine aw_aload_n 135 dX3_becomeLike_134 rfl 0 rfl rfl ?_
  refine aw_aload_n 136 dX3_becomeLike_135 rfl 1 rfl rfl ?_
  obtain ⟨g56, h⟩ := h
  refine aw_getI 139 dX3_becomeLike_136 fl_RX3_53 rfl g56 rfl ?_
  obtain ⟨g57, h⟩ := h
  refine aw_putI 142 dX3_becomeLike_139 fl_RX3_53 rfl rfl rfl rfl g57 rfl ?_
  refine aw_aload_n 143 dX3_becomeLike_142 rfl 0 rfl rfl ?_
  refine aw_aload_n 144 dX3_becomeLike_143 rfl 1 rfl rfl ?_
  refine aw_getI 147 dX3_becomeLike_144 fl_RX3_56 rfl g56 rfl ?_
  refine aw_putI 150 dX3_becomeLike_147 fl_RX3_56 rfl rfl rfl rfl g57 rfl ?_
  refine aw_aload_n 151 dX3_becomeLike_150 rfl 0 rfl rfl ?_
  refine aw_aload_n 152 dX3_becomeLike_151 rfl 1 rfl rfl ?_
  refine aw_getI 155 dX3_becomeLike_152 fl_RX3_59 rfl g56 rfl ?_
  refine aw_putI 158 dX3_becomeLike_155 fl_RX3_59 rfl rfl rfl rfl g57 rfl ?_
  refine aw_aload_n 159 dX3_becomeLike_158 rfl 0 rfl rfl ?_
  refine aw_aload_n 160 dX3_becomeLike_159 rfl 1 rfl rfl ?_
  refine aw_getI 163 dX3_becomeLike_160 fl_RX3_62 rfl g56 rfl ?_
  refine aw_putI 166 dX3_becomeLike_163 fl_RX3_62 rfl rfl rfl rfl g57 rfl ?_
  exact aw_return dX3_becomeLike_166 rfl (leb rfl) (leb rfl) ⟨rfl, h⟩)
set_option maxRecDepth 20000 in
theorem aw_X1_push_16 {G : GG} (hG : G.1.stackTraces = false)  {l0 : Nat} {l1 : Nat} {X : XH} {K : XH → Prop}  (h : w_X1_push_16  l0 l1 X K) : AW G M_X1_push 16 [(0, .ref l0), (1, .ref l1)] [] X 0 0 (KrV K) := by
  unfold w_X1_push_16 at h
  refine aw_aload_n 17 dX1_push_16 rfl 0 rfl rfl ?_
  obtain ⟨g1, h⟩ := h
  obtain ⟨g2, h⟩ := h
  refine aw_getR 20 dX1_push_17 fl_RX1_11 rfl g1 g2 rfl ?_
  refine aw_aload_n 21 dX1_push_20 rfl 0 rfl rfl ?_
  refine aw_getI 24 dX1_push_21 fl_RX1_18 rfl g1 rfl ?_
  refine aw_callSN (M' := M_X4_treatyAt) 27 25 [.ref _, .int _] [] dX1_push_24 (by decide) ms_X4_treatyAt mp_X4_treatyAt rfl ⟨leb rfl, leb rfl⟩ rfl (leb rfl) (leb rfl) (leb rfl) rfl (am_X4_treatyAt hG h) (kkR fun v4 X3 h => ?_) KrR.no
  refine aw_widen (cc' := 0) (ss' := 0) (leb rfl) (leb rfl) ?_
  refine aw_astore_n 28 (lv' := [(2, _), (0, _), (1, _)]) dX1_push_27 rfl (ltb rfl) rfl rfl ?_
  refine aw_aload_n 29 dX1_push_28 rfl 0 rfl rfl ?_
  refine aw_ifnull 32 dX1_push_29 rfl ?_
  refine aw_aload_n 33 dX1_push_32 rfl 0 rfl rfl ?_
  refine aw_aload_n 34 dX1_push_33 rfl 2 rfl rfl ?_
  obtain ⟨g6, h⟩ := h
  refine aw_callV (M' := M_X3_becomeLike) 37 29 3 v4 [.ref _] [] dX1_push_34 lk_RX1_29 mv_X3_becomeLike mp_X3_becomeLike rfl ⟨leb rfl, leb rfl⟩ rfl (ltb rfl) g6 rfl (leb rfl) (leb rfl) (leb rfl) rfl (am_X3_becomeLike hG h) (kkV fun X5 h => ?_) (kxN KrV.no)
  refine aw_widen (cc' := 0) (ss' := 0) (leb rfl) (leb rfl) ?_
  refine aw_aload_n 38 dX1_push_37 rfl 1 rfl rfl ?_
  refine aw_dup 39 dX1_push_38 rfl rfl ?_
  obtain ⟨g7, h⟩ := h
  refine aw_getI 42 dX1_push_39 fl_RX1_18 rfl g7 rfl ?_
  refine aw_iconst 43 (v := 1) dX1_push_42 kI_1 rfl ?_
  refine aw_iadd 44 dX1_push_43 rfl ?_
  refine aw_putI 47 dX1_push_44 fl_RX1_18 rfl rfl rfl rfl g7 rfl ?_
  exact aw_return dX1_push_47 rfl (leb rfl) (leb rfl) ⟨rfl, h⟩
set_option maxRecDepth 20000 in
theorem am_X1_push {G : GG} (hG : G.1.stackTraces = false) {l0 : Nat} {l1 : Nat} {X : XH} {K : XH → Prop} (h : w_X1_push l0 l1 X K) : AM G M_X1_push X [.ref l0, .ref l1] (KrV K) := AM_of (by decide +kernel) rfl (leb rfl) hG (by
  show AW G M_X1_push 0 [(0, .ref l0), (1, .ref l1)] [] X 0 0 _
  unfold w_X1_push at h
  refine aw_aload_n 1 dX1_push_0 rfl 0 rfl rfl ?_
  obtain ⟨g1, h⟩ := h
  refine aw_getI 4 dX1_push_1 fl_RX1_18 rfl g1 rfl ?_
  refine aw_aload_n 5 dX1_push_4 rfl 0 rfl rfl ?_
  obtain ⟨g2, h⟩ := h
  refine aw_getR 8 dX1_push_5 fl_RX1_11 rfl g1 g2 rfl ?_
  obtain ⟨g3, h⟩ := h
  refine aw_alen 9 dX1_push_8 g3 rfl ?_
  refine aw_icmp_lt 16 12 dX1_push_9 rfl rfl (fun c4 => ?_) (fun c4 => ?_)
  · replace h := h.1 c4
    exact aw_pick [0, 1] rfl (aw_X1_push_16 hG  h)
  · replace h := h.2 c4
    refine aw_aload_n 13 dX1_push_12 rfl 0 rfl rfl ?_
    refine aw_callV (M' := M_X1_dropOldest) 16 22 1 l0 [] [] dX1_push_13 lk_RX1_22 mv_X1_dropOldest mp_X1_dropOldest rfl ⟨leb rfl, leb rfl⟩ rfl (ltb rfl) g1 rfl (leb rfl) (leb rfl) (leb rfl) rfl (am_X1_dropOldest hG h) (kkV fun X5 h => ?_) (kxN KrV.no)
    refine aw_widen (cc' := 0) (ss' := 0) (leb rfl) (leb rfl) ?_
    exact aw_pick [0, 1] rfl (aw_X1_push_16 hG  h))
set_option maxRecDepth 20000 in
theorem am_X4_put {G : GG} (hG : G.1.stackTraces = false) {l0 : Nat} {l1 : Int32} {l2 : Int32} {X : XH} {K : XH → Prop} (h : w_X4_put l0 l1 l2 X K) : AM G M_X4_put X [.ref l0, .int l1, .int l2] (KrV K) := AM_of (by decide +kernel) rfl (leb rfl) hG (by
  show AW G M_X4_put 0 [(0, .ref l0), (1, .int l1), (2, .int l2)] [] X 0 0 _
  unfold w_X4_put at h
  refine aw_iload_n 1 dX4_put_0 rfl 1 rfl rfl ?_
  refine aw_if_lt 14 4 dX4_put_1 rfl rfl (fun c1 => ?_) (fun c1 => ?_)
  · replace h := h.1 c1
    exact aw_return dX4_put_14 rfl (leb rfl) (leb rfl) ⟨rfl, h⟩
  · replace h := h.2 c1
    refine aw_iload_n 5 dX4_put_4 rfl 1 rfl rfl ?_
    refine aw_aload_n 6 dX4_put_5 rfl 0 rfl rfl ?_
    obtain ⟨g2, h⟩ := h
    refine aw_alen 7 dX4_put_6 g2 rfl ?_
    refine aw_icmp_ge 14 10 dX4_put_7 rfl rfl (fun c3 => ?_) (fun c3 => ?_)
    · replace h := h.1 c3
      exact aw_return dX4_put_14 rfl (leb rfl) (leb rfl) ⟨rfl, h⟩
    · replace h := h.2 c3
      refine aw_aload_n 11 dX4_put_10 rfl 0 rfl rfl ?_
      refine aw_iload_n 12 dX4_put_11 rfl 1 rfl rfl ?_
      refine aw_iload_n 13 dX4_put_12 rfl 2 rfl rfl ?_
      obtain ⟨g4, h⟩ := h
      obtain ⟨g5, h⟩ := h
      refine aw_iastore 14 dX4_put_13 g4 g5 rfl ?_
      exact aw_return dX4_put_14 rfl (leb rfl) (leb rfl) ⟨rfl, h⟩)
set_option maxRecDepth 20000 in
theorem am_X3_place {G : GG} (hG : G.1.stackTraces = false) {l0 : Int32} {l1 : Int32} {X : XH} {K : Int32 → XH → Prop} (h : w_X3_place l0 l1 X K) : AM G M_X3_place X [.int l0, .int l1] (KrI K) := AM_of (by decide +kernel) rfl (leb rfl) hG (by
  show AW G M_X3_place 0 [(0, .int l0), (1, .int l1)] [] X 0 0 _
  unfold w_X3_place at h
  refine aw_iload_n 1 dX3_place_0 rfl 0 rfl rfl ?_
  refine aw_iconst 2 (v := 3) dX3_place_1 kI_3 rfl ?_
  refine aw_imul 3 dX3_place_2 rfl ?_
  refine aw_iload_n 4 dX3_place_3 rfl 1 rfl rfl ?_
  refine aw_iadd 5 dX3_place_4 rfl ?_
  exact aw_ireturn (ty := .int) dX3_place_5 rfl rfl (leb rfl) (leb rfl) ⟨_, rfl, h⟩)
set_option maxRecDepth 20000 in
theorem am_X3_unmix {G : GG} (hG : G.1.stackTraces = false) {l0 : Nat} {l1 : Int32} {l2 : Int32} {X : XH} {K : XH → Prop} (h : w_X3_unmix l0 l1 l2 X K) : AM G M_X3_unmix X [.ref l0, .int l1, .int l2] (KrV K) := AM_of (by decide +kernel) rfl (leb rfl) hG (by
  show AW G M_X3_unmix 0 [(0, .ref l0), (1, .int l1), (2, .int l2)] [] X 0 0 _
  unfold w_X3_unmix at h
  refine aw_aload_n 1 dX3_unmix_0 rfl 0 rfl rfl ?_
  obtain ⟨g1, h⟩ := h
  obtain ⟨g2, h⟩ := h
  refine aw_getR 4 dX3_unmix_1 fl_RX3_39 rfl g1 g2 rfl ?_
  refine aw_iload_n 5 dX3_unmix_4 rfl 1 rfl rfl ?_
  refine aw_iload_n 6 dX3_unmix_5 rfl 2 rfl rfl ?_
  refine aw_callS (M' := M_X3_place) 9 73 [.int _, .int _] [.ref _] dX3_unmix_6 lk_RX3_73 ms_X3_place mp_X3_place rfl ⟨leb rfl, leb rfl⟩ rfl (leb rfl) (leb rfl) (leb rfl) rfl (am_X3_place hG h) (kkI fun v4 X3 h => ?_) (kxN KrI.no)
  refine aw_widen (cc' := 0) (ss' := 0) (leb rfl) (leb rfl) ?_
  refine aw_iconst 10 (v := 0) dX3_unmix_9 kI_0 rfl ?_
  refine aw_callSN (M' := M_X4_put) 13 65 [.ref _, .int _, .int _] [] dX3_unmix_10 (by decide) ms_X4_put mp_X4_put rfl ⟨leb rfl, leb rfl⟩ rfl (leb rfl) (leb rfl) (leb rfl) rfl (am_X4_put hG h) (kkV fun X5 h => ?_) KrV.no
  refine aw_widen (cc' := 0) (ss' := 0) (leb rfl) (leb rfl) ?_
  refine aw_aload_n 14 dX3_unmix_13 rfl 0 rfl rfl ?_
  obtain ⟨g6, h⟩ := h
  obtain ⟨g7, h⟩ := h
  refine aw_getR 17 dX3_unmix_14 fl_RX3_42 rfl g6 g7 rfl ?_
  refine aw_iload_n 18 dX3_unmix_17 rfl 1 rfl rfl ?_
  refine aw_iload_n 19 dX3_unmix_18 rfl 2 rfl rfl ?_
  refine aw_callS (M' := M_X3_place) 22 73 [.int _, .int _] [.ref _] dX3_unmix_19 lk_RX3_73 ms_X3_place mp_X3_place rfl ⟨leb rfl, leb rfl⟩ rfl (leb rfl) (leb rfl) (leb rfl) rfl (am_X3_place hG h) (kkI fun v9 X8 h => ?_) (kxN KrI.no)
  refine aw_widen (cc' := 0) (ss' := 0) (leb rfl) (leb rfl) ?_
  refine aw_iconst 23 (v := 0) dX3_unmix_22 kI_0 rfl ?_
  refine aw_callSN (M' := M_X4_put) 26 65 [.ref _, .int _, .int _] [] dX3_unmix_23 (by decide) ms_X4_put mp_X4_put rfl ⟨leb rfl, leb rfl⟩ rfl (leb rfl) (leb rfl) (leb rfl) rfl (am_X4_put hG h) (kkV fun X10 h => ?_) KrV.no
  refine aw_widen (cc' := 0) (ss' := 0) (leb rfl) (leb rfl) ?_
  exact aw_return dX3_unmix_26 rfl (leb rfl) (leb rfl) ⟨rfl, h⟩)
set_option maxRecDepth 20000 in
theorem aw_X3_unmixEverywhere_2 {G : GG} (hG : G.1.stackTraces = false)  {l0 : Nat} {l1 : Int32} {l2 : Int32} {X : XH} {K : XH → Prop}  (h : w_X3_unmixEverywhere_2  l0 l1 l2 X K) : AW G M_X3_unmixEverywhere 2 [(0, .ref l0), (1, .int l1), (2, .int l2)] [] X 0 0 (KrV K) :=
  h (fun l0 l1 l2 X => AW G M_X3_unmixEverywhere 2 [(0, .ref l0), (1, .int l1), (2, .int l2)] [] X 0 0 (KrV K)) (fun l0 l1 l2 X h => by
    refine aw_iload_n 3 dX3_unmixEverywhere_2 rfl 2 rfl rfl ?_
    refine aw_iconst 4 (v := 3) dX3_unmixEverywhere_3 kI_3 rfl ?_
    refine aw_icmp_ge 19 7 dX3_unmixEverywhere_4 rfl rfl (fun c1 => ?_) (fun c1 => ?_)
    · replace h := h.1 c1
      exact aw_return dX3_unmixEverywhere_19 rfl (leb rfl) (leb rfl) ⟨rfl, h⟩
    · replace h := h.2 c1
      refine aw_aload_n 8 dX3_unmixEverywhere_7 rfl 0 rfl rfl ?_
      refine aw_iload_n 9 dX3_unmixEverywhere_8 rfl 1 rfl rfl ?_
      refine aw_iload_n 10 dX3_unmixEverywhere_9 rfl 2 rfl rfl ?_
      obtain ⟨g3, h⟩ := h
      refine aw_callV (M' := M_X3_unmix) 13 91 3 l0 [.int _, .int _] [] dX3_unmixEverywhere_10 lk_RX3_91 mv_X3_unmix mp_X3_unmix rfl ⟨leb rfl, leb rfl⟩ rfl (ltb rfl) g3 rfl (leb rfl) (leb rfl) (leb rfl) rfl (am_X3_unmix hG h) (kkV fun X2 h => ?_) (kxN KrV.no)
      refine aw_widen (cc' := 0) (ss' := 0) (leb rfl) (leb rfl) ?_
      refine aw_iinc 16 (v := 1) (lv' := [(2, _), (0, _), (1, _)]) dX3_unmixEverywhere_13 2 rfl kI_1 (ltb rfl) rfl rfl ?_
      refine aw_goto 2 dX3_unmixEverywhere_16 rfl ?_
      exact aw_pick [1, 2, 0] rfl h)
set_option maxRecDepth 20000 in
theorem am_X3_unmixEverywhere {G : GG} (hG : G.1.stackTraces = false) {l0 : Nat} {l1 : Int32} {X : XH} {K : XH → Prop} (h : w_X3_unmixEverywhere l0 l1 X K) : AM G M_X3_unmixEverywhere X [.ref l0, .int l1] (KrV K) := AM_of (by decide +kernel) rfl (leb rfl) hG (by
  show AW G M_X3_unmixEverywhere 0 [(0, .ref l0), (1, .int l1)] [] X 0 0 _
  unfold w_X3_unmixEverywhere at h
  refine aw_iconst 1 (v := 0) dX3_unmixEverywhere_0 kI_0 rfl ?_
  refine aw_istore_n 2 (lv' := [(2, _), (0, _), (1, _)]) dX3_unmixEverywhere_1 rfl (ltb rfl) rfl rfl ?_
  exact aw_pick [1, 2, 0] rfl (aw_X3_unmixEverywhere_2 hG  h))
set_option maxRecDepth 20000 in
theorem am_X3_add {G : GG} (hG : G.1.stackTraces = false) {l0 : Nat} {l1 : Int32} {l2 : Int32} {l3 : Int32} {l4 : Int32} {X : XH} {K : Int32 → XH → Prop} (h : w_X3_add l0 l1 l2 l3 l4 X K) : AM G M_X3_add X [.ref l0, .int l1, .int l2, .int l3, .int l4] (KrI K) := AM_of (by decide +kernel) rfl (leb rfl) hG (by
  show AW G M_X3_add 0 [(0, .ref l0), (1, .int l1), (2, .int l2), (3, .int l3), (4, .int l4)] [] X 0 0 _
  unfold w_X3_add at h
  refine aw_aload_n 1 dX3_add_0 rfl 0 rfl rfl ?_
  obtain ⟨g1, h⟩ := h
  refine aw_getI 4 dX3_add_1 fl_RX3_45 rfl g1 rfl ?_
  refine aw_istore 6 (lv' := [(5, _), (0, _), (1, _), (2, _), (3, _), (4, _)]) dX3_add_4 (ltb rfl) rfl rfl ?_
  refine aw_aload_n 7 dX3_add_6 rfl 1 rfl rfl ?_
  obtain ⟨g2, h⟩ := h
  refine aw_getR 10 dX3_add_7 fl_RX3_9 rfl g1 g2 rfl ?_
  refine aw_iload 12 dX3_add_10 0 rfl rfl ?_
  refine aw_iload_n 13 dX3_add_12 rfl 2 rfl rfl ?_
  refine aw_callSN (M' := M_X4_put) 16 65 [.ref _, .int _, .int _] [] dX3_add_13 (by decide) ms_X4_put mp_X4_put rfl ⟨leb rfl, leb rfl⟩ rfl (leb rfl) (leb rfl) (leb rfl) rfl (am_X4_put hG h) (kkV fun X3 h => ?_) KrV.no
  refine aw_widen (cc' := 0) (ss' := 0) (leb rfl) (leb rfl) ?_
  refine aw_aload_n 17 dX3_add_16 rfl 1 rfl rfl ?_
  obtain ⟨g4, h⟩ := h
  obtain ⟨g5, h⟩ := h
  refine aw_getR 20 dX3_add_17 fl_RX3_15 rfl g4 g5 rfl ?_
  refine aw_iload 22 dX3_add_20 0 rfl rfl ?_
  refine aw_iload_n 23 dX3_add_22 rfl 3 rfl rfl ?_
  refine aw_callSN (M' := M_X4_put) 26 65 [.ref _, .int _, .int _] [] dX3_add_23 (by decide) ms_X4_put mp_X4_put rfl ⟨leb rfl, leb rfl⟩ rfl (leb rfl) (leb rfl) (leb rfl) rfl (am_X4_put hG h) (kkV fun X6 h => ?_) KrV.no
  refine aw_widen (cc' := 0) (ss' := 0) (leb rfl) (leb rfl) ?_
  refine aw_aload_n 27 dX3_add_26 rfl 1 rfl rfl ?_
  obtain ⟨g7, h⟩ := h
  obtain ⟨g8, h⟩ := h
  refine aw_getR 30 dX3_add_27 fl_RX3_18 rfl g7 g8 rfl ?_
  refine aw_iload 32 dX3_add_30 0 rfl rfl ?_
  refine aw_iload_n 33 dX3_add_32 rfl 4 rfl rfl ?_
  refine aw_callSN (M' := M_X4_put) 36 65 [.ref _, .int _, .int _] [] dX3_add_33 (by decide) ms_X4_put mp_X4_put rfl ⟨leb rfl, leb rfl⟩ rfl (leb rfl) (leb rfl) (leb rfl) rfl (am_X4_put hG h) (kkV fun X9 h => ?_) KrV.no
  refine aw_widen (cc' := 0) (ss' := 0) (leb rfl) (leb rfl) ?_
  refine aw_aload_n 37 dX3_add_36 rfl 1 rfl rfl ?_
  obtain ⟨g10, h⟩ := h
  obtain ⟨g11, h⟩ := h
  refine aw_getR 40 dX3_add_37 fl_RX3_21 rfl g10 g11 rfl ?_
  refine aw_iload 42 dX3_add_40 0 rfl rfl ?_
  refine aw_iload 44 dX3_add_42 5 rfl rfl ?_
  refine aw_callSN (M' := M_X4_put) 47 65 [.ref _, .int _, .int _] [] dX3_add_44 (by decide) ms_X4_put mp_X4_put rfl ⟨leb rfl, leb rfl⟩ rfl (leb rfl) (leb rfl) (leb rfl) rfl (am_X4_put hG h) (kkV fun X12 h => ?_) KrV.no
  refine aw_widen (cc' := 0) (ss' := 0) (leb rfl) (leb rfl) ?_
  refine aw_aload_n 48 dX3_add_47 rfl 1 rfl rfl ?_
  refine aw_dup 49 dX3_add_48 rfl rfl ?_
  obtain ⟨g13, h⟩ := h
  refine aw_getI 52 dX3_add_49 fl_RX3_45 rfl g13 rfl ?_
  refine aw_iconst 53 (v := 1) dX3_add_52 kI_1 rfl ?_
  refine aw_iadd 54 dX3_add_53 rfl ?_
  refine aw_putI 57 dX3_add_54 fl_RX3_45 rfl rfl rfl rfl g13 rfl ?_
  refine aw_aload_n 58 dX3_add_57 rfl 1 rfl rfl ?_
  refine aw_iload_n 59 dX3_add_58 rfl 2 rfl rfl ?_
  refine aw_callV (M' := M_X3_unmixEverywhere) 62 69 3 l0 [.int _] [] dX3_add_59 lk_RX3_69 mv_X3_unmixEverywhere mp_X3_unmixEverywhere rfl ⟨leb rfl, leb rfl⟩ rfl (ltb rfl) g13 rfl (leb rfl) (leb rfl) (leb rfl) rfl (am_X3_unmixEverywhere hG h) (kkV fun X14 h => ?_) (kxN KrV.no)
  refine aw_widen (cc' := 0) (ss' := 0) (leb rfl) (leb rfl) ?_
  refine aw_iload 64 dX3_add_62 0 rfl rfl ?_
  exact aw_ireturn (ty := .int) dX3_add_64 rfl rfl (leb rfl) (leb rfl) ⟨_, rfl, h⟩)
set_option maxRecDepth 20000 in
theorem am_X4_addClause {G : GG} (hG : G.1.stackTraces = false) {l0 : Nat} {l1 : Int32} {l2 : Int32} {l3 : Int32} {X : XH} {K : Int32 → XH → Prop} {KX : String → XH → Prop} (h : w_X4_addClause l0 l1 l2 l3 X K KX) : AM G M_X4_addClause X [.ref l0, .int l1, .int l2, .int l3] (KxT (KrI K) KX) := AM_of (by decide +kernel) rfl (leb rfl) hG (by
  show AW G M_X4_addClause 0 [(0, .ref l0), (1, .int l1), (2, .int l2), (3, .int l3)] [] X 0 0 _
  unfold w_X4_addClause at h
  refine aw_iload_n 1 dX4_addClause_0 rfl 1 rfl rfl ?_
  refine aw_callS (M' := M_X4_checkReel) 4 45 [.int _] [] dX4_addClause_1 lk_RX4_45 ms_X4_checkReel mp_X4_checkReel rfl ⟨leb rfl, leb rfl⟩ rfl (leb rfl) (leb rfl) (leb rfl) rfl (am_X4_checkReel hG h) (kkT (kkV fun X1 h => ?_)) (kxT KrV.no fun E X h => at_out rfl (leb rfl) (leb rfl) (Or.inr ⟨_, rfl, h⟩))
  refine aw_widen (cc' := 1) (ss' := 6) (leb rfl) (leb rfl) ?_
  refine aw_iload_n 5 dX4_addClause_4 rfl 2 rfl rfl ?_
  refine aw_callS (M' := M_X4_checkState) 8 49 [.int _] [] dX4_addClause_5 lk_RX4_49 ms_X4_checkState mp_X4_checkState rfl ⟨leb rfl, leb rfl⟩ rfl (leb rfl) (leb rfl) (leb rfl) rfl (am_X4_checkState hG h) (kkT (kkV fun X2 h => ?_)) (kxT KrV.no fun E X h => at_out rfl (leb rfl) (leb rfl) (Or.inr ⟨_, rfl, h⟩))
  refine aw_widen (cc' := 2) (ss' := 12) (leb rfl) (leb rfl) ?_
  refine aw_iload_n 9 dX4_addClause_8 rfl 3 rfl rfl ?_
  refine aw_iconst 10 (v := 4) dX4_addClause_9 kI_4 rfl ?_
  refine aw_bipush 12 (v := 60) dX4_addClause_10 kB_60 rfl ?_
  refine aw_callS (M' := M_X4_checkRange) 15 52 [.int _, .int _, .int _] [] dX4_addClause_12 lk_RX4_52 ms_X4_checkRange mp_X4_checkRange rfl ⟨leb rfl, leb rfl⟩ rfl (leb rfl) (leb rfl) (leb rfl) rfl (am_X4_checkRange hG h) (kkT (kkV fun X3 h => ?_)) (kxT KrV.no fun E X h => at_out rfl (leb rfl) (leb rfl) (Or.inr ⟨_, rfl, h⟩))
  refine aw_widen (cc' := 3) (ss' := 18) (leb rfl) (leb rfl) ?_
  refine aw_aload_n 16 dX4_addClause_15 rfl 0 rfl rfl ?_
  obtain ⟨g4, h⟩ := h
  obtain ⟨g5, h⟩ := h
  refine aw_getR 19 dX4_addClause_16 fl_RX4_10 rfl g4 g5 rfl ?_
  obtain ⟨g6, h⟩ := h
  refine aw_getI 22 dX4_addClause_19 fl_RX4_56 rfl g6 rfl ?_
  refine aw_bipush 24 (v := 24) dX4_addClause_22 kB_24 rfl ?_
  refine aw_icmp_lt 37 27 dX4_addClause_24 rfl rfl (fun c7 => ?_) (fun c7 => ?_)
  · replace h := h.1 c7
    refine aw_aload_n 38 dX4_addClause_37 rfl 0 rfl rfl ?_
    obtain ⟨g8, h⟩ := h
    refine aw_getR 41 dX4_addClause_38 fl_RX4_19 rfl g4 g8 rfl ?_
    refine aw_aload_n 42 dX4_addClause_41 rfl 0 rfl rfl ?_
    refine aw_getR 45 dX4_addClause_42 fl_RX4_10 rfl g4 g5 rfl ?_
    obtain ⟨g10, h⟩ := h
    refine aw_callV (M' := M_X1_push) 48 67 1 (hR X3 l0 1) [.ref _] [] dX4_addClause_45 lk_RX4_67 mv_X1_push mp_X1_push rfl ⟨leb rfl, leb rfl⟩ rfl (ltb rfl) g10 rfl (leb rfl) (leb rfl) (leb rfl) rfl (am_X1_push hG h) (kkV fun X9 h => ?_) (kxN KrV.no)
    refine aw_widen (cc' := 3) (ss' := 18) (leb rfl) (leb rfl) ?_
    refine aw_aload_n 49 dX4_addClause_48 rfl 0 rfl rfl ?_
    obtain ⟨g11, h⟩ := h
    obtain ⟨g12, h⟩ := h
    refine aw_getR 52 dX4_addClause_49 fl_RX4_10 rfl g11 g12 rfl ?_
    refine aw_iload_n 53 dX4_addClause_52 rfl 1 rfl rfl ?_
    refine aw_iload_n 54 dX4_addClause_53 rfl 2 rfl rfl ?_
    refine aw_iload_n 55 dX4_addClause_54 rfl 3 rfl rfl ?_
    refine aw_iconst 56 (v := 0) dX4_addClause_55 kI_0 rfl ?_
    obtain ⟨g15, h⟩ := h
    refine aw_callV (M' := M_X3_add) 59 71 3 (hR X9 l0 0) [.int _, .int _, .int _, .int _] [] dX4_addClause_56 lk_RX4_71 mv_X3_add mp_X3_add rfl ⟨leb rfl, leb rfl⟩ rfl (ltb rfl) g15 rfl (leb rfl) (leb rfl) (leb rfl) rfl (am_X3_add hG h) (kkI fun v14 X13 h => ?_) (kxN KrI.no)
    refine aw_widen (cc' := 3) (ss' := 18) (leb rfl) (leb rfl) ?_
    exact aw_ireturn (ty := .int) dX4_addClause_59 rfl rfl (leb rfl) (leb rfl) (Or.inl ⟨_, rfl, h⟩)
  · replace h := h.2 c7
    exact aw_throw xcS 60 62 64 rfl th_xcS (by decide) (Or.inl ⟨dX4_addClause_27, dX4_addClause_30, dX4_addClause_31, dX4_addClause_33, dX4_addClause_36⟩) rfl (ltb rfl) (leb rfl) (leb rfl) (leb rfl) (Or.inr ⟨_, rfl, h⟩))
set_option maxRecDepth 20000 in
theorem am_L_addClause {G : GG} (hG : G.1.stackTraces = false) {l0 : Nat} {l1 : Int32} {l2 : Int32} {l3 : Int32} {X : XH} {K : Int32 → XH → Prop} (h : w_L_addClause l0 l1 l2 l3 X K) : AM G M_L_addClause X [.ref l0, .int l1, .int l2, .int l3] (KrI K) := AM_ofH (by decide +kernel) (0, 7, 8, 15) [(0, 7, 13, 17), (0, 7, 18, 19)] rfl (leb rfl) hG (by
  show AW G M_L_addClause 0 [(0, .ref l0), (1, .int l1), (2, .int l2), (3, .int l3)] [] X 0 0 _
  unfold w_L_addClause at h
  refine aw_aload_n 1 dL_addClause_0 rfl 0 rfl rfl ?_
  refine aw_iload_n 2 dL_addClause_1 rfl 1 rfl rfl ?_
  refine aw_iload_n 3 dL_addClause_2 rfl 2 rfl rfl ?_
  refine aw_iload_n 4 dL_addClause_3 rfl 3 rfl rfl ?_
  obtain ⟨g3, h⟩ := h
  refine aw_callV (M' := M_X4_addClause) 7 9 4 l0 [.int _, .int _, .int _] [] dL_addClause_4 lk_RL_9 mv_X4_addClause mp_X4_addClause rfl ⟨leb rfl, leb rfl⟩ rfl (ltb rfl) g3 rfl (leb rfl) (leb rfl) (leb rfl) rfl (am_X4_addClause hG h) (kkT (kkI fun v2 X1 h => ?_)) (kxT KrI.no fun E X1 h => ?_)
  · refine aw_widen (cc' := 4) (ss' := 24) (leb rfl) (leb rfl) ?_
    exact aw_ireturn (ty := .int) dL_addClause_7 rfl rfl (leb rfl) (leb rfl) ⟨_, rfl, h⟩
  · obtain ⟨hE, h⟩ := h
    rcases hE with rfl | rfl | rfl
    · refine aw_atc (lv' := [(0, .ref _), (1, .int _), (2, .int _), (3, .int _)]) [] (0, 7, 8, 15) [(0, 7, 13, 17), (0, 7, 18, 19)] rfl (fun z hz => nomatch hz) (by decide) (by decide) (tk3 (i := 40) (by decide +kernel) rfl) (by decide) 4 2 10 (Or.inr ⟨dL_addClause_8, rfl⟩) (ltb rfl) rfl ?_
      refine aw_widen (cc' := 4) (ss' := 24) (leb rfl) (leb rfl) ?_
      replace h := h.1 rfl
      refine aw_bipush 12 (v := -2) dL_addClause_10 kB_m2 rfl ?_
      exact aw_ireturn (ty := .int) dL_addClause_12 rfl rfl (leb rfl) (leb rfl) ⟨_, rfl, h⟩
    · refine aw_atc (lv' := [(0, .ref _), (1, .int _), (2, .int _), (3, .int _)]) [(0, 7, 8, 15)] (0, 7, 13, 17) [(0, 7, 18, 19)] rfl (by intro z hz; simp only [List.mem_cons, List.not_mem_nil, or_false] at hz; rcases hz with rfl <;> first | exact ⟨by decide, xcI, tk3 (i := 40) (by decide +kernel) rfl, by decide⟩) (by decide) (by decide) (tk3 (i := 41) (by decide +kernel) rfl) (by decide) 4 2 15 (Or.inr ⟨dL_addClause_13, rfl⟩) (ltb rfl) rfl ?_
      refine aw_widen (cc' := 4) (ss' := 24) (leb rfl) (leb rfl) ?_
      replace h := h.2.1 rfl
      refine aw_bipush 17 (v := -3) dL_addClause_15 kB_m3 rfl ?_
      exact aw_ireturn (ty := .int) dL_addClause_17 rfl rfl (leb rfl) (leb rfl) ⟨_, rfl, h⟩
    · refine aw_atc (lv' := [(0, .ref _), (1, .int _), (2, .int _), (3, .int _)]) [(0, 7, 8, 15), (0, 7, 13, 17)] (0, 7, 18, 19) [] rfl (by intro z hz; simp only [List.mem_cons, List.not_mem_nil, or_false] at hz; rcases hz with rfl | rfl <;> first | exact ⟨by decide, xcI, tk3 (i := 40) (by decide +kernel) rfl, by decide⟩ | exact ⟨by decide, xcA, tk3 (i := 41) (by decide +kernel) rfl, by decide⟩) (by decide) (by decide) (tk3 (i := 42) (by decide +kernel) rfl) (by decide) 4 2 20 (Or.inr ⟨dL_addClause_18, rfl⟩) (ltb rfl) rfl ?_
      refine aw_widen (cc' := 4) (ss' := 24) (leb rfl) (leb rfl) ?_
      replace h := h.2.2 rfl
      refine aw_bipush 22 (v := -4) dL_addClause_20 kB_m4 rfl ?_
      exact aw_ireturn (ty := .int) dL_addClause_22 rfl rfl (leb rfl) (leb rfl) ⟨_, rfl, h⟩)
set_option maxRecDepth 20000 in
theorem am_X4_checkClause {G : GG} (hG : G.1.stackTraces = false) {l0 : Nat} {l1 : Int32} {X : XH} {K : XH → Prop} {KX : String → XH → Prop} (h : w_X4_checkClause l0 l1 X K KX) : AM G M_X4_checkClause X [.ref l0, .int l1] (KxT (KrV K) KX) := AM_of (by decide +kernel) rfl (leb rfl) hG (by
  show AW G M_X4_checkClause 0 [(0, .ref l0), (1, .int l1)] [] X 0 0 _
  unfold w_X4_checkClause at h
  refine aw_iload_n 1 dX4_checkClause_0 rfl 1 rfl rfl ?_
  refine aw_if_lt 15 4 dX4_checkClause_1 rfl rfl (fun c1 => ?_) (fun c1 => ?_)
  · replace h := h.1 c1
    exact aw_throw xcI 421 423 425 rfl th_xcI (by decide) (Or.inr ⟨dX4_checkClause_15, dX4_checkClause_18, dX4_checkClause_19, dX4_checkClause_22, dX4_checkClause_25⟩) rfl (ltb rfl) (leb rfl) (leb rfl) (leb rfl) (Or.inr ⟨_, rfl, h⟩)
  · replace h := h.2 c1
    refine aw_iload_n 5 dX4_checkClause_4 rfl 1 rfl rfl ?_
    refine aw_aload_n 6 dX4_checkClause_5 rfl 0 rfl rfl ?_
    obtain ⟨g2, h⟩ := h
    obtain ⟨g3, h⟩ := h
    refine aw_getR 9 dX4_checkClause_6 fl_RX4_10 rfl g2 g3 rfl ?_
    obtain ⟨g4, h⟩ := h
    refine aw_getI 12 dX4_checkClause_9 fl_RX4_56 rfl g4 rfl ?_
    refine aw_icmp_lt 26 15 dX4_checkClause_12 rfl rfl (fun c5 => ?_) (fun c5 => ?_)
    · replace h := h.1 c5
      exact aw_return dX4_checkClause_26 rfl (leb rfl) (leb rfl) (Or.inl ⟨rfl, h⟩)
    · replace h := h.2 c5
      exact aw_throw xcI 421 423 425 rfl th_xcI (by decide) (Or.inr ⟨dX4_checkClause_15, dX4_checkClause_18, dX4_checkClause_19, dX4_checkClause_22, dX4_checkClause_25⟩) rfl (ltb rfl) (leb rfl) (leb rfl) (leb rfl) (Or.inr ⟨_, rfl, h⟩))
set_option maxRecDepth 20000 in
theorem am_X4_at {G : GG} (hG : G.1.stackTraces = false) {l0 : Nat} {l1 : Int32} {X : XH} {K : Int32 → XH → Prop} (h : w_X4_at l0 l1 X K) : AM G M_X4_at X [.ref l0, .int l1] (KrI K) := AM_of (by decide +kernel) rfl (leb rfl) hG (by
  show AW G M_X4_at 0 [(0, .ref l0), (1, .int l1)] [] X 0 0 _
  unfold w_X4_at at h
  refine aw_iload_n 1 dX4_at_0 rfl 1 rfl rfl ?_
  refine aw_if_lt 16 4 dX4_at_1 rfl rfl (fun c1 => ?_) (fun c1 => ?_)
  · replace h := h.1 c1
    refine aw_iconst 17 (v := 0) dX4_at_16 kI_0 rfl ?_
    exact aw_ireturn (ty := .int) dX4_at_17 rfl rfl (leb rfl) (leb rfl) ⟨_, rfl, h⟩
  · replace h := h.2 c1
    refine aw_iload_n 5 dX4_at_4 rfl 1 rfl rfl ?_
    refine aw_aload_n 6 dX4_at_5 rfl 0 rfl rfl ?_
    obtain ⟨g2, h⟩ := h
    refine aw_alen 7 dX4_at_6 g2 rfl ?_
    refine aw_icmp_ge 16 10 dX4_at_7 rfl rfl (fun c3 => ?_) (fun c3 => ?_)
    · replace h := h.1 c3
      refine aw_iconst 17 (v := 0) dX4_at_16 kI_0 rfl ?_
      exact aw_ireturn (ty := .int) dX4_at_17 rfl rfl (leb rfl) (leb rfl) ⟨_, rfl, h⟩
    · replace h := h.2 c3
      refine aw_aload_n 11 dX4_at_10 rfl 0 rfl rfl ?_
      refine aw_iload_n 12 dX4_at_11 rfl 1 rfl rfl ?_
      obtain ⟨g4, h⟩ := h
      obtain ⟨g5, h⟩ := h
      refine aw_iaload 13 dX4_at_12 g4 g5 rfl ?_
      refine aw_goto 17 dX4_at_13 rfl ?_
      exact aw_ireturn (ty := .int) dX4_at_17 rfl rfl (leb rfl) (leb rfl) ⟨_, rfl, h⟩)
set_option maxRecDepth 20000 in
theorem am_X3_isTaken {G : GG} (hG : G.1.stackTraces = false) {l0 : Nat} {l1 : Int32} {l2 : Int32} {X : XH} {K : Int32 → XH → Prop} (h : w_X3_isTaken l0 l1 l2 X K) : AM G M_X3_isTaken X [.ref l0, .int l1, .int l2] (KrI K) := AM_of (by decide +kernel) rfl (leb rfl) hG (by
  show AW G M_X3_isTaken 0 [(0, .ref l0), (1, .int l1), (2, .int l2)] [] X 0 0 _
  unfold w_X3_isTaken at h
  refine aw_aload_n 1 dX3_isTaken_0 rfl 0 rfl rfl ?_
  obtain ⟨g1, h⟩ := h
  obtain ⟨g2, h⟩ := h
  refine aw_getR 4 dX3_isTaken_1 fl_RX3_30 rfl g1 g2 rfl ?_
  refine aw_iload_n 5 dX3_isTaken_4 rfl 1 rfl rfl ?_
  refine aw_iload_n 6 dX3_isTaken_5 rfl 2 rfl rfl ?_
  refine aw_callS (M' := M_X3_place) 9 73 [.int _, .int _] [.ref _] dX3_isTaken_6 lk_RX3_73 ms_X3_place mp_X3_place rfl ⟨leb rfl, leb rfl⟩ rfl (leb rfl) (leb rfl) (leb rfl) rfl (am_X3_place hG h) (kkI fun v4 X3 h => ?_) (kxN KrI.no)
  refine aw_widen (cc' := 0) (ss' := 0) (leb rfl) (leb rfl) ?_
  refine aw_callSN (M' := M_X4_at) 12 81 [.ref _, .int _] [] dX3_isTaken_9 (by decide) ms_X4_at mp_X4_at rfl ⟨leb rfl, leb rfl⟩ rfl (leb rfl) (leb rfl) (leb rfl) rfl (am_X4_at hG h) (kkI fun v6 X5 h => ?_) KrI.no
  refine aw_widen (cc' := 0) (ss' := 0) (leb rfl) (leb rfl) ?_
  refine aw_if_le 19 15 dX3_isTaken_12 rfl rfl (fun c7 => ?_) (fun c7 => ?_)
  · replace h := h.1 c7
    refine aw_iconst 20 (v := 0) dX3_isTaken_19 kI_0 rfl ?_
    exact aw_ireturn (ty := .boolean) dX3_isTaken_20 rfl rfl (leb rfl) (leb rfl) ⟨_, rfl, h⟩
  · replace h := h.2 c7
    refine aw_iconst 16 (v := 1) dX3_isTaken_15 kI_1 rfl ?_
    refine aw_goto 20 dX3_isTaken_16 rfl ?_
    exact aw_ireturn (ty := .boolean) dX3_isTaken_20 rfl rfl (leb rfl) (leb rfl) ⟨_, rfl, h⟩)
set_option maxRecDepth 20000 in
theorem aw_X3_isRecordedAnywhere_2 {G : GG} (hG : G.1.stackTraces = false)  {l0 : Nat} {l1 : Int32} {l2 : Int32} {X : XH} {K : Int32 → XH → Prop}  (h : w_X3_isRecordedAnywhere_2  l0 l1 l2 X K) : AW G M_X3_isRecordedAnywhere 2 [(0, .ref l0), (1, .int l1), (2, .int l2)] [] X 0 0 (KrI K) :=
  h (fun l0 l1 l2 X => AW G M_X3_isRecordedAnywhere 2 [(0, .ref l0), (1, .int l1), (2, .int l2)] [] X 0 0 (KrI K)) (fun l0 l1 l2 X h => by
    refine aw_iload_n 3 dX3_isRecordedAnywhere_2 rfl 2 rfl rfl ?_
    refine aw_iconst 4 (v := 3) dX3_isRecordedAnywhere_3 kI_3 rfl ?_
    refine aw_icmp_ge 24 7 dX3_isRecordedAnywhere_4 rfl rfl (fun c1 => ?_) (fun c1 => ?_)
    · replace h := h.1 c1
      refine aw_iconst 25 (v := 0) dX3_isRecordedAnywhere_24 kI_0 rfl ?_
      exact aw_ireturn (ty := .boolean) dX3_isRecordedAnywhere_25 rfl rfl (leb rfl) (leb rfl) ⟨_, rfl, h⟩
    · replace h := h.2 c1
      refine aw_aload_n 8 dX3_isRecordedAnywhere_7 rfl 0 rfl rfl ?_
      refine aw_iload_n 9 dX3_isRecordedAnywhere_8 rfl 1 rfl rfl ?_
      refine aw_iload_n 10 dX3_isRecordedAnywhere_9 rfl 2 rfl rfl ?_
      obtain ⟨g4, h⟩ := h
      refine aw_callV (M' := M_X3_isTaken) 13 98 3 l0 [.int _, .int _] [] dX3_isRecordedAnywhere_10 lk_RX3_98 mv_X3_isTaken mp_X3_isTaken rfl ⟨leb rfl, leb rfl⟩ rfl (ltb rfl) g4 rfl (leb rfl) (leb rfl) (leb rfl) rfl (am_X3_isTaken hG h) (kkI fun v3 X2 h => ?_) (kxN KrI.no)
      refine aw_widen (cc' := 0) (ss' := 0) (leb rfl) (leb rfl) ?_
      refine aw_if_eq 18 16 dX3_isRecordedAnywhere_13 rfl rfl (fun c5 => ?_) (fun c5 => ?_)
      · replace h := h.1 c5
        refine aw_iinc 21 (v := 1) (lv' := [(2, _), (0, _), (1, _)]) dX3_isRecordedAnywhere_18 2 rfl kI_1 (ltb rfl) rfl rfl ?_
        refine aw_goto 2 dX3_isRecordedAnywhere_21 rfl ?_
        exact aw_pick [1, 2, 0] rfl h
      · replace h := h.2 c5
        refine aw_iconst 17 (v := 1) dX3_isRecordedAnywhere_16 kI_1 rfl ?_
        exact aw_ireturn (ty := .boolean) dX3_isRecordedAnywhere_17 rfl rfl (leb rfl) (leb rfl) ⟨_, rfl, h⟩)
set_option maxRecDepth 20000 in
theorem am_X3_isRecordedAnywhere {G : GG} (hG : G.1.stackTraces = false) {l0 : Nat} {l1 : Int32} {X : XH} {K : Int32 → XH → Prop} (h : w_X3_isRecordedAnywhere l0 l1 X K) : AM G M_X3_isRecordedAnywhere X [.ref l0, .int l1] (KrI K) := AM_of (by decide +kernel) rfl (leb rfl) hG (by
  show AW G M_X3_isRecordedAnywhere 0 [(0, .ref l0), (1, .int l1)] [] X 0 0 _
  unfold w_X3_isRecordedAnywhere at h
  refine aw_iconst 1 (v := 0) dX3_isRecordedAnywhere_0 kI_0 rfl ?_
  refine aw_istore_n 2 (lv' := [(2, _), (0, _), (1, _)]) dX3_isRecordedAnywhere_1 rfl (ltb rfl) rfl rfl ?_
  exact aw_pick [1, 2, 0] rfl (aw_X3_isRecordedAnywhere_2 hG  h))
set_option maxRecDepth 20000 in
theorem am_X3_sighAt {G : GG} (hG : G.1.stackTraces = false) {l0 : Nat} {l1 : Int32} {X : XH} {K : Int32 → XH → Prop} (h : w_X3_sighAt l0 l1 X K) : AM G M_X3_sighAt X [.ref l0, .int l1] (KrI K) := AM_of (by decide +kernel) rfl (leb rfl) hG (by
  show AW G M_X3_sighAt 0 [(0, .ref l0), (1, .int l1)] [] X 0 0 _
  unfold w_X3_sighAt at h
  refine aw_aload_n 1 dX3_sighAt_0 rfl 0 rfl rfl ?_
  obtain ⟨g1, h⟩ := h
  obtain ⟨g2, h⟩ := h
  refine aw_getR 4 dX3_sighAt_1 fl_RX3_21 rfl g1 g2 rfl ?_
  refine aw_iload_n 5 dX3_sighAt_4 rfl 1 rfl rfl ?_
  refine aw_callSN (M' := M_X4_at) 8 81 [.ref _, .int _] [] dX3_sighAt_5 (by decide) ms_X4_at mp_X4_at rfl ⟨leb rfl, leb rfl⟩ rfl (leb rfl) (leb rfl) (leb rfl) rfl (am_X4_at hG h) (kkI fun v4 X3 h => ?_) KrI.no
  refine aw_widen (cc' := 0) (ss' := 0) (leb rfl) (leb rfl) ?_
  exact aw_ireturn (ty := .int) dX3_sighAt_8 rfl rfl (leb rfl) (leb rfl) ⟨_, rfl, h⟩)
set_option maxRecDepth 20000 in
theorem am_X3_lipsAt {G : GG} (hG : G.1.stackTraces = false) {l0 : Nat} {l1 : Int32} {X : XH} {K : Int32 → XH → Prop} (h : w_X3_lipsAt l0 l1 X K) : AM G M_X3_lipsAt X [.ref l0, .int l1] (KrI K) := AM_of (by decide +kernel) rfl (leb rfl) hG (by
  show AW G M_X3_lipsAt 0 [(0, .ref l0), (1, .int l1)] [] X 0 0 _
  unfold w_X3_lipsAt at h
  refine aw_aload_n 1 dX3_lipsAt_0 rfl 0 rfl rfl ?_
  obtain ⟨g1, h⟩ := h
  obtain ⟨g2, h⟩ := h
  refine aw_getR 4 dX3_lipsAt_1 fl_RX3_18 rfl g1 g2 rfl ?_
  refine aw_iload_n 5 dX3_lipsAt_4 rfl 1 rfl rfl ?_
  refine aw_callSN (M' := M_X4_at) 8 81 [.ref _, .int _] [] dX3_lipsAt_5 (by decide) ms_X4_at mp_X4_at rfl ⟨leb rfl, leb rfl⟩ rfl (leb rfl) (leb rfl) (leb rfl) rfl (am_X4_at hG h) (kkI fun v4 X3 h => ?_) KrI.no
  refine aw_widen (cc' := 0) (ss' := 0) (leb rfl) (leb rfl) ?_
  exact aw_ireturn (ty := .int) dX3_lipsAt_8 rfl rfl (leb rfl) (leb rfl) ⟨_, rfl, h⟩)
set_option maxRecDepth 20000 in
theorem am_X4_changeLips {G : GG} (hG : G.1.stackTraces = false) {l0 : Nat} {l1 : Int32} {l2 : Int32} {X : XH} {K : Int32 → XH → Prop} {KX : String → XH → Prop} (h : w_X4_changeLips l0 l1 l2 X K KX) : AM G M_X4_changeLips X [.ref l0, .int l1, .int l2] (KxT (KrI K) KX) := AM_of (by decide +kernel) rfl (leb rfl) hG (by
  show AW G M_X4_changeLips 0 [(0, .ref l0), (1, .int l1), (2, .int l2)] [] X 0 0 _
  unfold w_X4_changeLips at h
  refine aw_aload_n 1 dX4_changeLips_0 rfl 0 rfl rfl ?_
  refine aw_iload_n 2 dX4_changeLips_1 rfl 1 rfl rfl ?_
  obtain ⟨g2, h⟩ := h
  refine aw_callV (M' := M_X4_checkClause) 5 75 4 l0 [.int _] [] dX4_changeLips_2 lk_RX4_75 mv_X4_checkClause mp_X4_checkClause rfl ⟨leb rfl, leb rfl⟩ rfl (ltb rfl) g2 rfl (leb rfl) (leb rfl) (leb rfl) rfl (am_X4_checkClause hG h) (kkT (kkV fun X1 h => ?_)) (kxT KrV.no fun E X h => at_out rfl (leb rfl) (leb rfl) (Or.inr ⟨_, rfl, h⟩))
  refine aw_widen (cc' := 1) (ss' := 6) (leb rfl) (leb rfl) ?_
  refine aw_iload_n 6 dX4_changeLips_5 rfl 2 rfl rfl ?_
  refine aw_iconst 7 (v := 4) dX4_changeLips_6 kI_4 rfl ?_
  refine aw_bipush 9 (v := 60) dX4_changeLips_7 kB_60 rfl ?_
  refine aw_callS (M' := M_X4_checkRange) 12 52 [.int _, .int _, .int _] [] dX4_changeLips_9 lk_RX4_52 ms_X4_checkRange mp_X4_checkRange rfl ⟨leb rfl, leb rfl⟩ rfl (leb rfl) (leb rfl) (leb rfl) rfl (am_X4_checkRange hG h) (kkT (kkV fun X3 h => ?_)) (kxT KrV.no fun E X h => at_out rfl (leb rfl) (leb rfl) (Or.inr ⟨_, rfl, h⟩))
  refine aw_widen (cc' := 2) (ss' := 12) (leb rfl) (leb rfl) ?_
  refine aw_aload_n 13 dX4_changeLips_12 rfl 0 rfl rfl ?_
  obtain ⟨g4, h⟩ := h
  obtain ⟨g5, h⟩ := h
  refine aw_getR 16 dX4_changeLips_13 fl_RX4_10 rfl g4 g5 rfl ?_
  refine aw_iload_n 17 dX4_changeLips_16 rfl 1 rfl rfl ?_
  obtain ⟨g8, h⟩ := h
  refine aw_callV (M' := M_X3_isRecordedAnywhere) 20 78 3 (hR X3 l0 0) [.int _] [] dX4_changeLips_17 lk_RX4_78 mv_X3_isRecordedAnywhere mp_X3_isRecordedAnywhere rfl ⟨leb rfl, leb rfl⟩ rfl (ltb rfl) g8 rfl (leb rfl) (leb rfl) (leb rfl) rfl (am_X3_isRecordedAnywhere hG h) (kkI fun v7 X6 h => ?_) (kxN KrI.no)
  refine aw_widen (cc' := 2) (ss' := 12) (leb rfl) (leb rfl) ?_
  refine aw_if_ne 35 23 dX4_changeLips_20 rfl rfl (fun c9 => ?_) (fun c9 => ?_)
  · replace h := h.1 c9
    exact aw_throw xcS 60 86 64 rfl th_xcS (by decide) (Or.inl ⟨dX4_changeLips_35, dX4_changeLips_38, dX4_changeLips_39, dX4_changeLips_41, dX4_changeLips_44⟩) rfl (ltb rfl) (leb rfl) (leb rfl) (leb rfl) (Or.inr ⟨_, rfl, h⟩)
  · replace h := h.2 c9
    refine aw_aload_n 24 dX4_changeLips_23 rfl 0 rfl rfl ?_
    obtain ⟨g10, h⟩ := h
    obtain ⟨g11, h⟩ := h
    refine aw_getR 27 dX4_changeLips_24 fl_RX4_10 rfl g10 g11 rfl ?_
    refine aw_iload_n 28 dX4_changeLips_27 rfl 1 rfl rfl ?_
    obtain ⟨g14, h⟩ := h
    refine aw_callV (M' := M_X3_sighAt) 31 82 3 (hR X6 l0 0) [.int _] [] dX4_changeLips_28 lk_RX4_82 mv_X3_sighAt mp_X3_sighAt rfl ⟨leb rfl, leb rfl⟩ rfl (ltb rfl) g14 rfl (leb rfl) (leb rfl) (leb rfl) rfl (am_X3_sighAt hG h) (kkI fun v13 X12 h => ?_) (kxN KrI.no)
    refine aw_widen (cc' := 2) (ss' := 12) (leb rfl) (leb rfl) ?_
    refine aw_iload_n 32 dX4_changeLips_31 rfl 2 rfl rfl ?_
    refine aw_icmp_le 45 35 dX4_changeLips_32 rfl rfl (fun c15 => ?_) (fun c15 => ?_)
    · replace h := h.1 c15
      refine aw_aload_n 46 dX4_changeLips_45 rfl 0 rfl rfl ?_
      obtain ⟨g16, h⟩ := h
      obtain ⟨g17, h⟩ := h
      refine aw_getR 49 dX4_changeLips_46 fl_RX4_19 rfl g16 g17 rfl ?_
      refine aw_aload_n 50 dX4_changeLips_49 rfl 0 rfl rfl ?_
      obtain ⟨g18, h⟩ := h
      refine aw_getR 53 dX4_changeLips_50 fl_RX4_10 rfl g16 g18 rfl ?_
      obtain ⟨g20, h⟩ := h
      refine aw_callV (M' := M_X1_push) 56 67 1 (hR X12 l0 1) [.ref _] [] dX4_changeLips_53 lk_RX4_67 mv_X1_push mp_X1_push rfl ⟨leb rfl, leb rfl⟩ rfl (ltb rfl) g20 rfl (leb rfl) (leb rfl) (leb rfl) rfl (am_X1_push hG h) (kkV fun X19 h => ?_) (kxN KrV.no)
      refine aw_widen (cc' := 2) (ss' := 12) (leb rfl) (leb rfl) ?_
      refine aw_aload_n 57 dX4_changeLips_56 rfl 0 rfl rfl ?_
      obtain ⟨g21, h⟩ := h
      obtain ⟨g22, h⟩ := h
      refine aw_getR 60 dX4_changeLips_57 fl_RX4_10 rfl g21 g22 rfl ?_
      refine aw_iload_n 61 dX4_changeLips_60 rfl 1 rfl rfl ?_
      obtain ⟨g25, h⟩ := h
      refine aw_callV (M' := M_X3_lipsAt) 64 88 3 (hR X19 l0 0) [.int _] [] dX4_changeLips_61 lk_RX4_88 mv_X3_lipsAt mp_X3_lipsAt rfl ⟨leb rfl, leb rfl⟩ rfl (ltb rfl) g25 rfl (leb rfl) (leb rfl) (leb rfl) rfl (am_X3_lipsAt hG h) (kkI fun v24 X23 h => ?_) (kxN KrI.no)
      refine aw_widen (cc' := 2) (ss' := 12) (leb rfl) (leb rfl) ?_
      refine aw_istore_n 65 (lv' := [(3, _), (0, _), (1, _), (2, _)]) dX4_changeLips_64 rfl (ltb rfl) rfl rfl ?_
      refine aw_aload_n 66 dX4_changeLips_65 rfl 1 rfl rfl ?_
      obtain ⟨g26, h⟩ := h
      obtain ⟨g27, h⟩ := h
      refine aw_getR 69 dX4_changeLips_66 fl_RX4_10 rfl g26 g27 rfl ?_
      obtain ⟨g28, h⟩ := h
      obtain ⟨g29, h⟩ := h
      refine aw_getR 72 dX4_changeLips_69 fl_RX4_91 rfl g28 g29 rfl ?_
      refine aw_iload_n 73 dX4_changeLips_72 rfl 2 rfl rfl ?_
      refine aw_iload_n 74 dX4_changeLips_73 rfl 3 rfl rfl ?_
      refine aw_callS (M' := M_X4_put) 77 95 [.ref _, .int _, .int _] [] dX4_changeLips_74 lk_RX4_95 ms_X4_put mp_X4_put rfl ⟨leb rfl, leb rfl⟩ rfl (leb rfl) (leb rfl) (leb rfl) rfl (am_X4_put hG h) (kkV fun X30 h => ?_) (kxN KrV.no)
      refine aw_widen (cc' := 2) (ss' := 12) (leb rfl) (leb rfl) ?_
      refine aw_iload_n 78 dX4_changeLips_77 rfl 0 rfl rfl ?_
      exact aw_ireturn (ty := .int) dX4_changeLips_78 rfl rfl (leb rfl) (leb rfl) (Or.inl ⟨_, rfl, h⟩)
    · replace h := h.2 c15
      exact aw_throw xcS 60 86 64 rfl th_xcS (by decide) (Or.inl ⟨dX4_changeLips_35, dX4_changeLips_38, dX4_changeLips_39, dX4_changeLips_41, dX4_changeLips_44⟩) rfl (ltb rfl) (leb rfl) (leb rfl) (leb rfl) (Or.inr ⟨_, rfl, h⟩))
set_option maxRecDepth 20000 in
theorem am_L_changeLips {G : GG} (hG : G.1.stackTraces = false) {l0 : Nat} {l1 : Int32} {l2 : Int32} {X : XH} {K : Int32 → XH → Prop} (h : w_L_changeLips l0 l1 l2 X K) : AM G M_L_changeLips X [.ref l0, .int l1, .int l2] (KrI K) := AM_ofH (by decide +kernel) (0, 6, 7, 15) [(0, 6, 11, 17), (0, 6, 15, 19)] rfl (leb rfl) hG (by
  show AW G M_L_changeLips 0 [(0, .ref l0), (1, .int l1), (2, .int l2)] [] X 0 0 _
  unfold w_L_changeLips at h
  refine aw_aload_n 1 dL_changeLips_0 rfl 0 rfl rfl ?_
  refine aw_iload_n 2 dL_changeLips_1 rfl 1 rfl rfl ?_
  refine aw_iload_n 3 dL_changeLips_2 rfl 2 rfl rfl ?_
  obtain ⟨g3, h⟩ := h
  refine aw_callV (M' := M_X4_changeLips) 6 21 4 l0 [.int _, .int _] [] dL_changeLips_3 lk_RL_21 mv_X4_changeLips mp_X4_changeLips rfl ⟨leb rfl, leb rfl⟩ rfl (ltb rfl) g3 rfl (leb rfl) (leb rfl) (leb rfl) rfl (am_X4_changeLips hG h) (kkT (kkI fun v2 X1 h => ?_)) (kxT KrI.no fun E X1 h => ?_)
  · refine aw_widen (cc' := 3) (ss' := 18) (leb rfl) (leb rfl) ?_
    exact aw_ireturn (ty := .int) dL_changeLips_6 rfl rfl (leb rfl) (leb rfl) ⟨_, rfl, h⟩
  · obtain ⟨hE, h⟩ := h
    rcases hE with rfl | rfl | rfl
    · refine aw_atc (lv' := [(0, .ref _), (1, .int _), (2, .int _)]) [] (0, 6, 7, 15) [(0, 6, 11, 17), (0, 6, 15, 19)] rfl (fun z hz => nomatch hz) (by decide) (by decide) (tk3 (i := 40) (by decide +kernel) rfl) (by decide) 3 1 8 (Or.inl ⟨3, rfl, dL_changeLips_7, rfl⟩) (ltb rfl) rfl ?_
      refine aw_widen (cc' := 3) (ss' := 18) (leb rfl) (leb rfl) ?_
      replace h := h.1 rfl
      refine aw_bipush 10 (v := -2) dL_changeLips_8 kB_m2 rfl ?_
      exact aw_ireturn (ty := .int) dL_changeLips_10 rfl rfl (leb rfl) (leb rfl) ⟨_, rfl, h⟩
    · refine aw_atc (lv' := [(0, .ref _), (1, .int _), (2, .int _)]) [(0, 6, 7, 15)] (0, 6, 11, 17) [(0, 6, 15, 19)] rfl (by intro z hz; simp only [List.mem_cons, List.not_mem_nil, or_false] at hz; rcases hz with rfl <;> first | exact ⟨by decide, xcI, tk3 (i := 40) (by decide +kernel) rfl, by decide⟩) (by decide) (by decide) (tk3 (i := 41) (by decide +kernel) rfl) (by decide) 3 1 12 (Or.inl ⟨3, rfl, dL_changeLips_11, rfl⟩) (ltb rfl) rfl ?_
      refine aw_widen (cc' := 3) (ss' := 18) (leb rfl) (leb rfl) ?_
      replace h := h.2.1 rfl
      refine aw_bipush 14 (v := -3) dL_changeLips_12 kB_m3 rfl ?_
      exact aw_ireturn (ty := .int) dL_changeLips_14 rfl rfl (leb rfl) (leb rfl) ⟨_, rfl, h⟩
    · refine aw_atc (lv' := [(0, .ref _), (1, .int _), (2, .int _)]) [(0, 6, 7, 15), (0, 6, 11, 17)] (0, 6, 15, 19) [] rfl (by intro z hz; simp only [List.mem_cons, List.not_mem_nil, or_false] at hz; rcases hz with rfl | rfl <;> first | exact ⟨by decide, xcI, tk3 (i := 40) (by decide +kernel) rfl, by decide⟩ | exact ⟨by decide, xcA, tk3 (i := 41) (by decide +kernel) rfl, by decide⟩) (by decide) (by decide) (tk3 (i := 42) (by decide +kernel) rfl) (by decide) 3 1 16 (Or.inl ⟨3, rfl, dL_changeLips_15, rfl⟩) (ltb rfl) rfl ?_
      refine aw_widen (cc' := 3) (ss' := 18) (leb rfl) (leb rfl) ?_
      replace h := h.2.2 rfl
      refine aw_bipush 18 (v := -4) dL_changeLips_16 kB_m4 rfl ?_
      exact aw_ireturn (ty := .int) dL_changeLips_18 rfl rfl (leb rfl) (leb rfl) ⟨_, rfl, h⟩)
set_option maxRecDepth 20000 in
theorem am_X4_changeSigh {G : GG} (hG : G.1.stackTraces = false) {l0 : Nat} {l1 : Int32} {l2 : Int32} {X : XH} {K : Int32 → XH → Prop} {KX : String → XH → Prop} (h : w_X4_changeSigh l0 l1 l2 X K KX) : AM G M_X4_changeSigh X [.ref l0, .int l1, .int l2] (KxT (KrI K) KX) := AM_of (by decide +kernel) rfl (leb rfl) hG (by
  show AW G M_X4_changeSigh 0 [(0, .ref l0), (1, .int l1), (2, .int l2)] [] X 0 0 _
  unfold w_X4_changeSigh at h
  refine aw_aload_n 1 dX4_changeSigh_0 rfl 0 rfl rfl ?_
  refine aw_iload_n 2 dX4_changeSigh_1 rfl 1 rfl rfl ?_
  obtain ⟨g2, h⟩ := h
  refine aw_callV (M' := M_X4_checkClause) 5 75 4 l0 [.int _] [] dX4_changeSigh_2 lk_RX4_75 mv_X4_checkClause mp_X4_checkClause rfl ⟨leb rfl, leb rfl⟩ rfl (ltb rfl) g2 rfl (leb rfl) (leb rfl) (leb rfl) rfl (am_X4_checkClause hG h) (kkT (kkV fun X1 h => ?_)) (kxT KrV.no fun E X h => at_out rfl (leb rfl) (leb rfl) (Or.inr ⟨_, rfl, h⟩))
  refine aw_widen (cc' := 1) (ss' := 6) (leb rfl) (leb rfl) ?_
  refine aw_iload_n 6 dX4_changeSigh_5 rfl 2 rfl rfl ?_
  refine aw_iconst 7 (v := 0) dX4_changeSigh_6 kI_0 rfl ?_
  refine aw_bipush 9 (v := 20) dX4_changeSigh_7 kB_20 rfl ?_
  refine aw_callS (M' := M_X4_checkRange) 12 52 [.int _, .int _, .int _] [] dX4_changeSigh_9 lk_RX4_52 ms_X4_checkRange mp_X4_checkRange rfl ⟨leb rfl, leb rfl⟩ rfl (leb rfl) (leb rfl) (leb rfl) rfl (am_X4_checkRange hG h) (kkT (kkV fun X3 h => ?_)) (kxT KrV.no fun E X h => at_out rfl (leb rfl) (leb rfl) (Or.inr ⟨_, rfl, h⟩))
  refine aw_widen (cc' := 2) (ss' := 12) (leb rfl) (leb rfl) ?_
  refine aw_aload_n 13 dX4_changeSigh_12 rfl 0 rfl rfl ?_
  obtain ⟨g4, h⟩ := h
  obtain ⟨g5, h⟩ := h
  refine aw_getR 16 dX4_changeSigh_13 fl_RX4_10 rfl g4 g5 rfl ?_
  refine aw_iload_n 17 dX4_changeSigh_16 rfl 1 rfl rfl ?_
  obtain ⟨g8, h⟩ := h
  refine aw_callV (M' := M_X3_isRecordedAnywhere) 20 78 3 (hR X3 l0 0) [.int _] [] dX4_changeSigh_17 lk_RX4_78 mv_X3_isRecordedAnywhere mp_X3_isRecordedAnywhere rfl ⟨leb rfl, leb rfl⟩ rfl (ltb rfl) g8 rfl (leb rfl) (leb rfl) (leb rfl) rfl (am_X3_isRecordedAnywhere hG h) (kkI fun v7 X6 h => ?_) (kxN KrI.no)
  refine aw_widen (cc' := 2) (ss' := 12) (leb rfl) (leb rfl) ?_
  refine aw_if_ne 35 23 dX4_changeSigh_20 rfl rfl (fun c9 => ?_) (fun c9 => ?_)
  · replace h := h.1 c9
    exact aw_throw xcS 60 99 64 rfl th_xcS (by decide) (Or.inl ⟨dX4_changeSigh_35, dX4_changeSigh_38, dX4_changeSigh_39, dX4_changeSigh_41, dX4_changeSigh_44⟩) rfl (ltb rfl) (leb rfl) (leb rfl) (leb rfl) (Or.inr ⟨_, rfl, h⟩)
  · replace h := h.2 c9
    refine aw_iload_n 24 dX4_changeSigh_23 rfl 2 rfl rfl ?_
    refine aw_aload_n 25 dX4_changeSigh_24 rfl 0 rfl rfl ?_
    obtain ⟨g10, h⟩ := h
    obtain ⟨g11, h⟩ := h
    refine aw_getR 28 dX4_changeSigh_25 fl_RX4_10 rfl g10 g11 rfl ?_
    refine aw_iload_n 29 dX4_changeSigh_28 rfl 1 rfl rfl ?_
    obtain ⟨g14, h⟩ := h
    refine aw_callV (M' := M_X3_lipsAt) 32 88 3 (hR X6 l0 0) [.int _] [.int _] dX4_changeSigh_29 lk_RX4_88 mv_X3_lipsAt mp_X3_lipsAt rfl ⟨leb rfl, leb rfl⟩ rfl (ltb rfl) g14 rfl (leb rfl) (leb rfl) (leb rfl) rfl (am_X3_lipsAt hG h) (kkI fun v13 X12 h => ?_) (kxN KrI.no)
    refine aw_widen (cc' := 2) (ss' := 12) (leb rfl) (leb rfl) ?_
    refine aw_icmp_le 45 35 dX4_changeSigh_32 rfl rfl (fun c15 => ?_) (fun c15 => ?_)
    · replace h := h.1 c15
      refine aw_aload_n 46 dX4_changeSigh_45 rfl 0 rfl rfl ?_
      obtain ⟨g16, h⟩ := h
      obtain ⟨g17, h⟩ := h
      refine aw_getR 49 dX4_changeSigh_46 fl_RX4_19 rfl g16 g17 rfl ?_
      refine aw_aload_n 50 dX4_changeSigh_49 rfl 0 rfl rfl ?_
      obtain ⟨g18, h⟩ := h
      refine aw_getR 53 dX4_changeSigh_50 fl_RX4_10 rfl g16 g18 rfl ?_
      obtain ⟨g20, h⟩ := h
      refine aw_callV (M' := M_X1_push) 56 67 1 (hR X12 l0 1) [.ref _] [] dX4_changeSigh_53 lk_RX4_67 mv_X1_push mp_X1_push rfl ⟨leb rfl, leb rfl⟩ rfl (ltb rfl) g20 rfl (leb rfl) (leb rfl) (leb rfl) rfl (am_X1_push hG h) (kkV fun X19 h => ?_) (kxN KrV.no)
      refine aw_widen (cc' := 2) (ss' := 12) (leb rfl) (leb rfl) ?_
      refine aw_aload_n 57 dX4_changeSigh_56 rfl 0 rfl rfl ?_
      obtain ⟨g21, h⟩ := h
      obtain ⟨g22, h⟩ := h
      refine aw_getR 60 dX4_changeSigh_57 fl_RX4_10 rfl g21 g22 rfl ?_
      refine aw_iload_n 61 dX4_changeSigh_60 rfl 1 rfl rfl ?_
      obtain ⟨g25, h⟩ := h
      refine aw_callV (M' := M_X3_sighAt) 64 82 3 (hR X19 l0 0) [.int _] [] dX4_changeSigh_61 lk_RX4_82 mv_X3_sighAt mp_X3_sighAt rfl ⟨leb rfl, leb rfl⟩ rfl (ltb rfl) g25 rfl (leb rfl) (leb rfl) (leb rfl) rfl (am_X3_sighAt hG h) (kkI fun v24 X23 h => ?_) (kxN KrI.no)
      refine aw_widen (cc' := 2) (ss' := 12) (leb rfl) (leb rfl) ?_
      refine aw_istore_n 65 (lv' := [(3, _), (0, _), (1, _), (2, _)]) dX4_changeSigh_64 rfl (ltb rfl) rfl rfl ?_
      refine aw_aload_n 66 dX4_changeSigh_65 rfl 1 rfl rfl ?_
      obtain ⟨g26, h⟩ := h
      obtain ⟨g27, h⟩ := h
      refine aw_getR 69 dX4_changeSigh_66 fl_RX4_10 rfl g26 g27 rfl ?_
      obtain ⟨g28, h⟩ := h
      obtain ⟨g29, h⟩ := h
      refine aw_getR 72 dX4_changeSigh_69 fl_RX4_101 rfl g28 g29 rfl ?_
      refine aw_iload_n 73 dX4_changeSigh_72 rfl 2 rfl rfl ?_
      refine aw_iload_n 74 dX4_changeSigh_73 rfl 3 rfl rfl ?_
      refine aw_callS (M' := M_X4_put) 77 95 [.ref _, .int _, .int _] [] dX4_changeSigh_74 lk_RX4_95 ms_X4_put mp_X4_put rfl ⟨leb rfl, leb rfl⟩ rfl (leb rfl) (leb rfl) (leb rfl) rfl (am_X4_put hG h) (kkV fun X30 h => ?_) (kxN KrV.no)
      refine aw_widen (cc' := 2) (ss' := 12) (leb rfl) (leb rfl) ?_
      refine aw_iload_n 78 dX4_changeSigh_77 rfl 0 rfl rfl ?_
      exact aw_ireturn (ty := .int) dX4_changeSigh_78 rfl rfl (leb rfl) (leb rfl) (Or.inl ⟨_, rfl, h⟩)
    · replace h := h.2 c15
      exact aw_throw xcS 60 99 64 rfl th_xcS (by decide) (Or.inl ⟨dX4_changeSigh_35, dX4_changeSigh_38, dX4_changeSigh_39, dX4_changeSigh_41, dX4_changeSigh_44⟩) rfl (ltb rfl) (leb rfl) (leb rfl) (leb rfl) (Or.inr ⟨_, rfl, h⟩))
set_option maxRecDepth 20000 in
theorem am_L_changeSigh {G : GG} (hG : G.1.stackTraces = false) {l0 : Nat} {l1 : Int32} {l2 : Int32} {X : XH} {K : Int32 → XH → Prop} (h : w_L_changeSigh l0 l1 l2 X K) : AM G M_L_changeSigh X [.ref l0, .int l1, .int l2] (KrI K) := AM_ofH (by decide +kernel) (0, 6, 7, 15) [(0, 6, 11, 17), (0, 6, 15, 19)] rfl (leb rfl) hG (by
  show AW G M_L_changeSigh 0 [(0, .ref l0), (1, .int l1), (2, .int l2)] [] X 0 0 _
  unfold w_L_changeSigh at h
  refine aw_aload_n 1 dL_changeSigh_0 rfl 0 rfl rfl ?_
  refine aw_iload_n 2 dL_changeSigh_1 rfl 1 rfl rfl ?_
  refine aw_iload_n 3 dL_changeSigh_2 rfl 2 rfl rfl ?_
  obtain ⟨g3, h⟩ := h
  refine aw_callV (M' := M_X4_changeSigh) 6 25 4 l0 [.int _, .int _] [] dL_changeSigh_3 lk_RL_25 mv_X4_changeSigh mp_X4_changeSigh rfl ⟨leb rfl, leb rfl⟩ rfl (ltb rfl) g3 rfl (leb rfl) (leb rfl) (leb rfl) rfl (am_X4_changeSigh hG h) (kkT (kkI fun v2 X1 h => ?_)) (kxT KrI.no fun E X1 h => ?_)
  · refine aw_widen (cc' := 3) (ss' := 18) (leb rfl) (leb rfl) ?_
    exact aw_ireturn (ty := .int) dL_changeSigh_6 rfl rfl (leb rfl) (leb rfl) ⟨_, rfl, h⟩
  · obtain ⟨hE, h⟩ := h
    rcases hE with rfl | rfl | rfl
    · refine aw_atc (lv' := [(0, .ref _), (1, .int _), (2, .int _)]) [] (0, 6, 7, 15) [(0, 6, 11, 17), (0, 6, 15, 19)] rfl (fun z hz => nomatch hz) (by decide) (by decide) (tk3 (i := 40) (by decide +kernel) rfl) (by decide) 3 1 8 (Or.inl ⟨3, rfl, dL_changeSigh_7, rfl⟩) (ltb rfl) rfl ?_
      refine aw_widen (cc' := 3) (ss' := 18) (leb rfl) (leb rfl) ?_
      replace h := h.1 rfl
      refine aw_bipush 10 (v := -2) dL_changeSigh_8 kB_m2 rfl ?_
      exact aw_ireturn (ty := .int) dL_changeSigh_10 rfl rfl (leb rfl) (leb rfl) ⟨_, rfl, h⟩
    · refine aw_atc (lv' := [(0, .ref _), (1, .int _), (2, .int _)]) [(0, 6, 7, 15)] (0, 6, 11, 17) [(0, 6, 15, 19)] rfl (by intro z hz; simp only [List.mem_cons, List.not_mem_nil, or_false] at hz; rcases hz with rfl <;> first | exact ⟨by decide, xcI, tk3 (i := 40) (by decide +kernel) rfl, by decide⟩) (by decide) (by decide) (tk3 (i := 41) (by decide +kernel) rfl) (by decide) 3 1 12 (Or.inl ⟨3, rfl, dL_changeSigh_11, rfl⟩) (ltb rfl) rfl ?_
      refine aw_widen (cc' := 3) (ss' := 18) (leb rfl) (leb rfl) ?_
      replace h := h.2.1 rfl
      refine aw_bipush 14 (v := -3) dL_changeSigh_12 kB_m3 rfl ?_
      exact aw_ireturn (ty := .int) dL_changeSigh_14 rfl rfl (leb rfl) (leb rfl) ⟨_, rfl, h⟩
    · refine aw_atc (lv' := [(0, .ref _), (1, .int _), (2, .int _)]) [(0, 6, 7, 15), (0, 6, 11, 17)] (0, 6, 15, 19) [] rfl (by intro z hz; simp only [List.mem_cons, List.not_mem_nil, or_false] at hz; rcases hz with rfl | rfl <;> first | exact ⟨by decide, xcI, tk3 (i := 40) (by decide +kernel) rfl, by decide⟩ | exact ⟨by decide, xcA, tk3 (i := 41) (by decide +kernel) rfl, by decide⟩) (by decide) (by decide) (tk3 (i := 42) (by decide +kernel) rfl) (by decide) 3 1 16 (Or.inl ⟨3, rfl, dL_changeSigh_15, rfl⟩) (ltb rfl) rfl ?_
      refine aw_widen (cc' := 3) (ss' := 18) (leb rfl) (leb rfl) ?_
      replace h := h.2.2 rfl
      refine aw_bipush 18 (v := -4) dL_changeSigh_16 kB_m4 rfl ?_
      exact aw_ireturn (ty := .int) dL_changeSigh_18 rfl rfl (leb rfl) (leb rfl) ⟨_, rfl, h⟩)
set_option maxRecDepth 20000 in
theorem am_X3_reelAt {G : GG} (hG : G.1.stackTraces = false) {l0 : Nat} {l1 : Int32} {X : XH} {K : Int32 → XH → Prop} (h : w_X3_reelAt l0 l1 X K) : AM G M_X3_reelAt X [.ref l0, .int l1] (KrI K) := AM_of (by decide +kernel) rfl (leb rfl) hG (by
  show AW G M_X3_reelAt 0 [(0, .ref l0), (1, .int l1)] [] X 0 0 _
  unfold w_X3_reelAt at h
  refine aw_aload_n 1 dX3_reelAt_0 rfl 0 rfl rfl ?_
  obtain ⟨g1, h⟩ := h
  obtain ⟨g2, h⟩ := h
  refine aw_getR 4 dX3_reelAt_1 fl_RX3_9 rfl g1 g2 rfl ?_
  refine aw_iload_n 5 dX3_reelAt_4 rfl 1 rfl rfl ?_
  refine aw_callSN (M' := M_X4_at) 8 81 [.ref _, .int _] [] dX3_reelAt_5 (by decide) ms_X4_at mp_X4_at rfl ⟨leb rfl, leb rfl⟩ rfl (leb rfl) (leb rfl) (leb rfl) rfl (am_X4_at hG h) (kkI fun v4 X3 h => ?_) KrI.no
  refine aw_widen (cc' := 0) (ss' := 0) (leb rfl) (leb rfl) ?_
  exact aw_ireturn (ty := .int) dX3_reelAt_8 rfl rfl (leb rfl) (leb rfl) ⟨_, rfl, h⟩)
set_option maxRecDepth 20000 in
theorem am_X4_moveClause {G : GG} (hG : G.1.stackTraces = false) {l0 : Nat} {l1 : Int32} {l2 : Int32} {X : XH} {K : Int32 → XH → Prop} {KX : String → XH → Prop} (h : w_X4_moveClause l0 l1 l2 X K KX) : AM G M_X4_moveClause X [.ref l0, .int l1, .int l2] (KxT (KrI K) KX) := AM_of (by decide +kernel) rfl (leb rfl) hG (by
  show AW G M_X4_moveClause 0 [(0, .ref l0), (1, .int l1), (2, .int l2)] [] X 0 0 _
  unfold w_X4_moveClause at h
  refine aw_aload_n 1 dX4_moveClause_0 rfl 0 rfl rfl ?_
  refine aw_iload_n 2 dX4_moveClause_1 rfl 1 rfl rfl ?_
  obtain ⟨g2, h⟩ := h
  refine aw_callV (M' := M_X4_checkClause) 5 75 4 l0 [.int _] [] dX4_moveClause_2 lk_RX4_75 mv_X4_checkClause mp_X4_checkClause rfl ⟨leb rfl, leb rfl⟩ rfl (ltb rfl) g2 rfl (leb rfl) (leb rfl) (leb rfl) rfl (am_X4_checkClause hG h) (kkT (kkV fun X1 h => ?_)) (kxT KrV.no fun E X h => at_out rfl (leb rfl) (leb rfl) (Or.inr ⟨_, rfl, h⟩))
  refine aw_widen (cc' := 1) (ss' := 6) (leb rfl) (leb rfl) ?_
  refine aw_iload_n 6 dX4_moveClause_5 rfl 2 rfl rfl ?_
  refine aw_callS (M' := M_X4_checkReel) 9 45 [.int _] [] dX4_moveClause_6 lk_RX4_45 ms_X4_checkReel mp_X4_checkReel rfl ⟨leb rfl, leb rfl⟩ rfl (leb rfl) (leb rfl) (leb rfl) rfl (am_X4_checkReel hG h) (kkT (kkV fun X3 h => ?_)) (kxT KrV.no fun E X h => at_out rfl (leb rfl) (leb rfl) (Or.inr ⟨_, rfl, h⟩))
  refine aw_widen (cc' := 2) (ss' := 12) (leb rfl) (leb rfl) ?_
  refine aw_aload_n 10 dX4_moveClause_9 rfl 0 rfl rfl ?_
  obtain ⟨g4, h⟩ := h
  obtain ⟨g5, h⟩ := h
  refine aw_getR 13 dX4_moveClause_10 fl_RX4_10 rfl g4 g5 rfl ?_
  refine aw_iload_n 14 dX4_moveClause_13 rfl 1 rfl rfl ?_
  obtain ⟨g8, h⟩ := h
  refine aw_callV (M' := M_X3_isRecordedAnywhere) 17 78 3 (hR X3 l0 0) [.int _] [] dX4_moveClause_14 lk_RX4_78 mv_X3_isRecordedAnywhere mp_X3_isRecordedAnywhere rfl ⟨leb rfl, leb rfl⟩ rfl (ltb rfl) g8 rfl (leb rfl) (leb rfl) (leb rfl) rfl (am_X3_isRecordedAnywhere hG h) (kkI fun v7 X6 h => ?_) (kxN KrI.no)
  refine aw_widen (cc' := 2) (ss' := 12) (leb rfl) (leb rfl) ?_
  refine aw_if_ne 32 20 dX4_moveClause_17 rfl rfl (fun c9 => ?_) (fun c9 => ?_)
  · replace h := h.1 c9
    exact aw_throw xcS 60 107 64 rfl th_xcS (by decide) (Or.inl ⟨dX4_moveClause_32, dX4_moveClause_35, dX4_moveClause_36, dX4_moveClause_38, dX4_moveClause_41⟩) rfl (ltb rfl) (leb rfl) (leb rfl) (leb rfl) (Or.inr ⟨_, rfl, h⟩)
  · replace h := h.2 c9
    refine aw_aload_n 21 dX4_moveClause_20 rfl 0 rfl rfl ?_
    obtain ⟨g10, h⟩ := h
    obtain ⟨g11, h⟩ := h
    refine aw_getR 24 dX4_moveClause_21 fl_RX4_10 rfl g10 g11 rfl ?_
    refine aw_iload_n 25 dX4_moveClause_24 rfl 1 rfl rfl ?_
    obtain ⟨g14, h⟩ := h
    refine aw_callV (M' := M_X3_reelAt) 28 104 3 (hR X6 l0 0) [.int _] [] dX4_moveClause_25 lk_RX4_104 mv_X3_reelAt mp_X3_reelAt rfl ⟨leb rfl, leb rfl⟩ rfl (ltb rfl) g14 rfl (leb rfl) (leb rfl) (leb rfl) rfl (am_X3_reelAt hG h) (kkI fun v13 X12 h => ?_) (kxN KrI.no)
    refine aw_widen (cc' := 2) (ss' := 12) (leb rfl) (leb rfl) ?_
    refine aw_iload_n 29 dX4_moveClause_28 rfl 2 rfl rfl ?_
    refine aw_icmp_ne 42 32 dX4_moveClause_29 rfl rfl (fun c15 => ?_) (fun c15 => ?_)
    · replace h := h.1 c15
      refine aw_aload_n 43 dX4_moveClause_42 rfl 0 rfl rfl ?_
      obtain ⟨g16, h⟩ := h
      obtain ⟨g17, h⟩ := h
      refine aw_getR 46 dX4_moveClause_43 fl_RX4_19 rfl g16 g17 rfl ?_
      refine aw_aload_n 47 dX4_moveClause_46 rfl 0 rfl rfl ?_
      obtain ⟨g18, h⟩ := h
      refine aw_getR 50 dX4_moveClause_47 fl_RX4_10 rfl g16 g18 rfl ?_
      obtain ⟨g20, h⟩ := h
      refine aw_callV (M' := M_X1_push) 53 67 1 (hR X12 l0 1) [.ref _] [] dX4_moveClause_50 lk_RX4_67 mv_X1_push mp_X1_push rfl ⟨leb rfl, leb rfl⟩ rfl (ltb rfl) g20 rfl (leb rfl) (leb rfl) (leb rfl) rfl (am_X1_push hG h) (kkV fun X19 h => ?_) (kxN KrV.no)
      refine aw_widen (cc' := 2) (ss' := 12) (leb rfl) (leb rfl) ?_
      refine aw_aload_n 54 dX4_moveClause_53 rfl 0 rfl rfl ?_
      obtain ⟨g21, h⟩ := h
      obtain ⟨g22, h⟩ := h
      refine aw_getR 57 dX4_moveClause_54 fl_RX4_10 rfl g21 g22 rfl ?_
      refine aw_iload_n 58 dX4_moveClause_57 rfl 1 rfl rfl ?_
      obtain ⟨g25, h⟩ := h
      refine aw_callV (M' := M_X3_reelAt) 61 104 3 (hR X19 l0 0) [.int _] [] dX4_moveClause_58 lk_RX4_104 mv_X3_reelAt mp_X3_reelAt rfl ⟨leb rfl, leb rfl⟩ rfl (ltb rfl) g25 rfl (leb rfl) (leb rfl) (leb rfl) rfl (am_X3_reelAt hG h) (kkI fun v24 X23 h => ?_) (kxN KrI.no)
      refine aw_widen (cc' := 2) (ss' := 12) (leb rfl) (leb rfl) ?_
      refine aw_istore_n 62 (lv' := [(3, _), (0, _), (1, _), (2, _)]) dX4_moveClause_61 rfl (ltb rfl) rfl rfl ?_
      refine aw_aload_n 63 dX4_moveClause_62 rfl 1 rfl rfl ?_
      obtain ⟨g26, h⟩ := h
      obtain ⟨g27, h⟩ := h
      refine aw_getR 66 dX4_moveClause_63 fl_RX4_10 rfl g26 g27 rfl ?_
      obtain ⟨g28, h⟩ := h
      obtain ⟨g29, h⟩ := h
      refine aw_getR 69 dX4_moveClause_66 fl_RX4_109 rfl g28 g29 rfl ?_
      refine aw_iload_n 70 dX4_moveClause_69 rfl 2 rfl rfl ?_
      refine aw_iload_n 71 dX4_moveClause_70 rfl 3 rfl rfl ?_
      refine aw_callS (M' := M_X4_put) 74 95 [.ref _, .int _, .int _] [] dX4_moveClause_71 lk_RX4_95 ms_X4_put mp_X4_put rfl ⟨leb rfl, leb rfl⟩ rfl (leb rfl) (leb rfl) (leb rfl) rfl (am_X4_put hG h) (kkV fun X30 h => ?_) (kxN KrV.no)
      refine aw_widen (cc' := 2) (ss' := 12) (leb rfl) (leb rfl) ?_
      refine aw_aload_n 75 dX4_moveClause_74 rfl 1 rfl rfl ?_
      obtain ⟨g31, h⟩ := h
      obtain ⟨g32, h⟩ := h
      refine aw_getR 78 dX4_moveClause_75 fl_RX4_10 rfl g31 g32 rfl ?_
      refine aw_iload_n 79 dX4_moveClause_78 rfl 3 rfl rfl ?_
      obtain ⟨g34, h⟩ := h
      refine aw_callV (M' := M_X3_unmixEverywhere) 82 112 3 (hR X30 l0 0) [.int _] [] dX4_moveClause_79 lk_RX4_112 mv_X3_unmixEverywhere mp_X3_unmixEverywhere rfl ⟨leb rfl, leb rfl⟩ rfl (ltb rfl) g34 rfl (leb rfl) (leb rfl) (leb rfl) rfl (am_X3_unmixEverywhere hG h) (kkV fun X33 h => ?_) (kxN KrV.no)
      refine aw_widen (cc' := 2) (ss' := 12) (leb rfl) (leb rfl) ?_
      refine aw_iload_n 83 dX4_moveClause_82 rfl 0 rfl rfl ?_
      exact aw_ireturn (ty := .int) dX4_moveClause_83 rfl rfl (leb rfl) (leb rfl) (Or.inl ⟨_, rfl, h⟩)
    · replace h := h.2 c15
      exact aw_throw xcS 60 107 64 rfl th_xcS (by decide) (Or.inl ⟨dX4_moveClause_32, dX4_moveClause_35, dX4_moveClause_36, dX4_moveClause_38, dX4_moveClause_41⟩) rfl (ltb rfl) (leb rfl) (leb rfl) (leb rfl) (Or.inr ⟨_, rfl, h⟩))
set_option maxRecDepth 20000 in
theorem am_L_moveClause {G : GG} (hG : G.1.stackTraces = false) {l0 : Nat} {l1 : Int32} {l2 : Int32} {X : XH} {K : Int32 → XH → Prop} (h : w_L_moveClause l0 l1 l2 X K) : AM G M_L_moveClause X [.ref l0, .int l1, .int l2] (KrI K) := AM_ofH (by decide +kernel) (0, 6, 7, 15) [(0, 6, 11, 19)] rfl (leb rfl) hG (by
  show AW G M_L_moveClause 0 [(0, .ref l0), (1, .int l1), (2, .int l2)] [] X 0 0 _
  unfold w_L_moveClause at h
  refine aw_aload_n 1 dL_moveClause_0 rfl 0 rfl rfl ?_
  refine aw_iload_n 2 dL_moveClause_1 rfl 1 rfl rfl ?_
  refine aw_iload_n 3 dL_moveClause_2 rfl 2 rfl rfl ?_
  obtain ⟨g3, h⟩ := h
  refine aw_callV (M' := M_X4_moveClause) 6 28 4 l0 [.int _, .int _] [] dL_moveClause_3 lk_RL_28 mv_X4_moveClause mp_X4_moveClause rfl ⟨leb rfl, leb rfl⟩ rfl (ltb rfl) g3 rfl (leb rfl) (leb rfl) (leb rfl) rfl (am_X4_moveClause hG h) (kkT (kkI fun v2 X1 h => ?_)) (kxT KrI.no fun E X1 h => ?_)
  · refine aw_widen (cc' := 3) (ss' := 18) (leb rfl) (leb rfl) ?_
    exact aw_ireturn (ty := .int) dL_moveClause_6 rfl rfl (leb rfl) (leb rfl) ⟨_, rfl, h⟩
  · obtain ⟨hE, h⟩ := h
    rcases hE with rfl | rfl
    · refine aw_atc (lv' := [(0, .ref _), (1, .int _), (2, .int _)]) [] (0, 6, 7, 15) [(0, 6, 11, 19)] rfl (fun z hz => nomatch hz) (by decide) (by decide) (tk3 (i := 40) (by decide +kernel) rfl) (by decide) 3 1 8 (Or.inl ⟨3, rfl, dL_moveClause_7, rfl⟩) (ltb rfl) rfl ?_
      refine aw_widen (cc' := 3) (ss' := 18) (leb rfl) (leb rfl) ?_
      replace h := h.1 rfl
      refine aw_bipush 10 (v := -2) dL_moveClause_8 kB_m2 rfl ?_
      exact aw_ireturn (ty := .int) dL_moveClause_10 rfl rfl (leb rfl) (leb rfl) ⟨_, rfl, h⟩
    · refine aw_atc (lv' := [(0, .ref _), (1, .int _), (2, .int _)]) [(0, 6, 7, 15)] (0, 6, 11, 19) [] rfl (by intro z hz; simp only [List.mem_cons, List.not_mem_nil, or_false] at hz; rcases hz with rfl <;> first | exact ⟨by decide, xcI, tk3 (i := 40) (by decide +kernel) rfl, by decide⟩) (by decide) (by decide) (tk3 (i := 42) (by decide +kernel) rfl) (by decide) 3 1 12 (Or.inl ⟨3, rfl, dL_moveClause_11, rfl⟩) (ltb rfl) rfl ?_
      refine aw_widen (cc' := 3) (ss' := 18) (leb rfl) (leb rfl) ?_
      replace h := h.2 rfl
      refine aw_bipush 14 (v := -4) dL_moveClause_12 kB_m4 rfl ?_
      exact aw_ireturn (ty := .int) dL_moveClause_14 rfl rfl (leb rfl) (leb rfl) ⟨_, rfl, h⟩)
set_option maxRecDepth 20000 in
theorem am_X4_checkTongue {G : GG} (hG : G.1.stackTraces = false) {l0 : Int32} {X : XH} {K : XH → Prop} {KX : String → XH → Prop} (h : w_X4_checkTongue l0 X K KX) : AM G M_X4_checkTongue X [.int l0] (KxT (KrV K) KX) := AM_of (by decide +kernel) rfl (leb rfl) hG (by
  show AW G M_X4_checkTongue 0 [(0, .int l0)] [] X 0 0 _
  unfold w_X4_checkTongue at h
  refine aw_iload_n 1 dX4_checkTongue_0 rfl 0 rfl rfl ?_
  refine aw_if_lt 9 4 dX4_checkTongue_1 rfl rfl (fun c1 => ?_) (fun c1 => ?_)
  · replace h := h.1 c1
    exact aw_throw xcI 421 430 425 rfl th_xcI (by decide) (Or.inr ⟨dX4_checkTongue_9, dX4_checkTongue_12, dX4_checkTongue_13, dX4_checkTongue_16, dX4_checkTongue_19⟩) rfl (ltb rfl) (leb rfl) (leb rfl) (leb rfl) (Or.inr ⟨_, rfl, h⟩)
  · replace h := h.2 c1
    refine aw_iload_n 5 dX4_checkTongue_4 rfl 0 rfl rfl ?_
    refine aw_iconst 6 (v := 3) dX4_checkTongue_5 kI_3 rfl ?_
    refine aw_icmp_lt 20 9 dX4_checkTongue_6 rfl rfl (fun c2 => ?_) (fun c2 => ?_)
    · replace h := h.1 c2
      exact aw_return dX4_checkTongue_20 rfl (leb rfl) (leb rfl) (Or.inl ⟨rfl, h⟩)
    · replace h := h.2 c2
      exact aw_throw xcI 421 430 425 rfl th_xcI (by decide) (Or.inr ⟨dX4_checkTongue_9, dX4_checkTongue_12, dX4_checkTongue_13, dX4_checkTongue_16, dX4_checkTongue_19⟩) rfl (ltb rfl) (leb rfl) (leb rfl) (leb rfl) (Or.inr ⟨_, rfl, h⟩))
set_option maxRecDepth 20000 in
theorem am_X4_checkTranslation {G : GG} (hG : G.1.stackTraces = false) {l0 : Nat} {l1 : Int32} {l2 : Int32} {X : XH} {K : XH → Prop} {KX : String → XH → Prop} (h : w_X4_checkTranslation l0 l1 l2 X K KX) : AM G M_X4_checkTranslation X [.ref l0, .int l1, .int l2] (KxT (KrV K) KX) := AM_of (by decide +kernel) rfl (leb rfl) hG (by
  show AW G M_X4_checkTranslation 0 [(0, .ref l0), (1, .int l1), (2, .int l2)] [] X 0 0 _
  unfold w_X4_checkTranslation at h
  refine aw_aload_n 1 dX4_checkTranslation_0 rfl 0 rfl rfl ?_
  refine aw_iload_n 2 dX4_checkTranslation_1 rfl 1 rfl rfl ?_
  obtain ⟨g2, h⟩ := h
  refine aw_callV (M' := M_X4_checkClause) 5 75 4 l0 [.int _] [] dX4_checkTranslation_2 lk_RX4_75 mv_X4_checkClause mp_X4_checkClause rfl ⟨leb rfl, leb rfl⟩ rfl (ltb rfl) g2 rfl (leb rfl) (leb rfl) (leb rfl) rfl (am_X4_checkClause hG h) (kkT (kkV fun X1 h => ?_)) (kxT KrV.no fun E X h => at_out rfl (leb rfl) (leb rfl) (Or.inr ⟨_, rfl, h⟩))
  refine aw_widen (cc' := 1) (ss' := 6) (leb rfl) (leb rfl) ?_
  refine aw_iload_n 6 dX4_checkTranslation_5 rfl 2 rfl rfl ?_
  refine aw_callS (M' := M_X4_checkTongue) 9 195 [.int _] [] dX4_checkTranslation_6 lk_RX4_195 ms_X4_checkTongue mp_X4_checkTongue rfl ⟨leb rfl, leb rfl⟩ rfl (leb rfl) (leb rfl) (leb rfl) rfl (am_X4_checkTongue hG h) (kkT (kkV fun X3 h => ?_)) (kxT KrV.no fun E X h => at_out rfl (leb rfl) (leb rfl) (Or.inr ⟨_, rfl, h⟩))
  refine aw_widen (cc' := 2) (ss' := 12) (leb rfl) (leb rfl) ?_
  exact aw_return dX4_checkTranslation_9 rfl (leb rfl) (leb rfl) (Or.inl ⟨rfl, h⟩))
set_option maxRecDepth 20000 in
theorem am_X3_putTranslation {G : GG} (hG : G.1.stackTraces = false) {l0 : Nat} {l1 : Int32} {l2 : Int32} {l3 : Int32} {l4 : Int32} {X : XH} {K : XH → Prop} (h : w_X3_putTranslation l0 l1 l2 l3 l4 X K) : AM G M_X3_putTranslation X [.ref l0, .int l1, .int l2, .int l3, .int l4] (KrV K) := AM_of (by decide +kernel) rfl (leb rfl) hG (by
  show AW G M_X3_putTranslation 0 [(0, .ref l0), (1, .int l1), (2, .int l2), (3, .int l3), (4, .int l4)] [] X 0 0 _
  unfold w_X3_putTranslation at h
  refine aw_aload_n 1 dX3_putTranslation_0 rfl 0 rfl rfl ?_
  obtain ⟨g1, h⟩ := h
  obtain ⟨g2, h⟩ := h
  refine aw_getR 4 dX3_putTranslation_1 fl_RX3_24 rfl g1 g2 rfl ?_
  refine aw_iload_n 5 dX3_putTranslation_4 rfl 1 rfl rfl ?_
  refine aw_iload_n 6 dX3_putTranslation_5 rfl 2 rfl rfl ?_
  refine aw_callS (M' := M_X3_place) 9 73 [.int _, .int _] [.ref _] dX3_putTranslation_6 lk_RX3_73 ms_X3_place mp_X3_place rfl ⟨leb rfl, leb rfl⟩ rfl (leb rfl) (leb rfl) (leb rfl) rfl (am_X3_place hG h) (kkI fun v4 X3 h => ?_) (kxN KrI.no)
  refine aw_widen (cc' := 0) (ss' := 0) (leb rfl) (leb rfl) ?_
  refine aw_iload_n 10 dX3_putTranslation_9 rfl 3 rfl rfl ?_
  refine aw_callSN (M' := M_X4_put) 13 65 [.ref _, .int _, .int _] [] dX3_putTranslation_10 (by decide) ms_X4_put mp_X4_put rfl ⟨leb rfl, leb rfl⟩ rfl (leb rfl) (leb rfl) (leb rfl) rfl (am_X4_put hG h) (kkV fun X5 h => ?_) KrV.no
  refine aw_widen (cc' := 0) (ss' := 0) (leb rfl) (leb rfl) ?_
  refine aw_aload_n 14 dX3_putTranslation_13 rfl 0 rfl rfl ?_
  obtain ⟨g6, h⟩ := h
  obtain ⟨g7, h⟩ := h
  refine aw_getR 17 dX3_putTranslation_14 fl_RX3_27 rfl g6 g7 rfl ?_
  refine aw_iload_n 18 dX3_putTranslation_17 rfl 1 rfl rfl ?_
  refine aw_iload_n 19 dX3_putTranslation_18 rfl 2 rfl rfl ?_
  refine aw_callS (M' := M_X3_place) 22 73 [.int _, .int _] [.ref _] dX3_putTranslation_19 lk_RX3_73 ms_X3_place mp_X3_place rfl ⟨leb rfl, leb rfl⟩ rfl (leb rfl) (leb rfl) (leb rfl) rfl (am_X3_place hG h) (kkI fun v9 X8 h => ?_) (kxN KrI.no)
  refine aw_widen (cc' := 0) (ss' := 0) (leb rfl) (leb rfl) ?_
  refine aw_iload 24 dX3_putTranslation_22 4 rfl rfl ?_
  refine aw_callSN (M' := M_X4_put) 27 65 [.ref _, .int _, .int _] [] dX3_putTranslation_24 (by decide) ms_X4_put mp_X4_put rfl ⟨leb rfl, leb rfl⟩ rfl (leb rfl) (leb rfl) (leb rfl) rfl (am_X4_put hG h) (kkV fun X10 h => ?_) KrV.no
  refine aw_widen (cc' := 0) (ss' := 0) (leb rfl) (leb rfl) ?_
  exact aw_return dX3_putTranslation_27 rfl (leb rfl) (leb rfl) ⟨rfl, h⟩)
set_option maxRecDepth 20000 in
theorem am_X3_spokenAt {G : GG} (hG : G.1.stackTraces = false) {l0 : Nat} {l1 : Int32} {l2 : Int32} {X : XH} {K : Int32 → XH → Prop} (h : w_X3_spokenAt l0 l1 l2 X K) : AM G M_X3_spokenAt X [.ref l0, .int l1, .int l2] (KrI K) := AM_of (by decide +kernel) rfl (leb rfl) hG (by
  show AW G M_X3_spokenAt 0 [(0, .ref l0), (1, .int l1), (2, .int l2)] [] X 0 0 _
  unfold w_X3_spokenAt at h
  refine aw_aload_n 1 dX3_spokenAt_0 rfl 0 rfl rfl ?_
  obtain ⟨g1, h⟩ := h
  obtain ⟨g2, h⟩ := h
  refine aw_getR 4 dX3_spokenAt_1 fl_RX3_24 rfl g1 g2 rfl ?_
  refine aw_iload_n 5 dX3_spokenAt_4 rfl 1 rfl rfl ?_
  refine aw_iload_n 6 dX3_spokenAt_5 rfl 2 rfl rfl ?_
  refine aw_callS (M' := M_X3_place) 9 73 [.int _, .int _] [.ref _] dX3_spokenAt_6 lk_RX3_73 ms_X3_place mp_X3_place rfl ⟨leb rfl, leb rfl⟩ rfl (leb rfl) (leb rfl) (leb rfl) rfl (am_X3_place hG h) (kkI fun v4 X3 h => ?_) (kxN KrI.no)
  refine aw_widen (cc' := 0) (ss' := 0) (leb rfl) (leb rfl) ?_
  refine aw_callSN (M' := M_X4_at) 12 81 [.ref _, .int _] [] dX3_spokenAt_9 (by decide) ms_X4_at mp_X4_at rfl ⟨leb rfl, leb rfl⟩ rfl (leb rfl) (leb rfl) (leb rfl) rfl (am_X4_at hG h) (kkI fun v6 X5 h => ?_) KrI.no
  refine aw_widen (cc' := 0) (ss' := 0) (leb rfl) (leb rfl) ?_
  refine aw_aload_n 13 dX3_spokenAt_12 rfl 0 rfl rfl ?_
  obtain ⟨g7, h⟩ := h
  obtain ⟨g8, h⟩ := h
  refine aw_getR 16 dX3_spokenAt_13 fl_RX3_21 rfl g7 g8 rfl ?_
  refine aw_iload_n 17 dX3_spokenAt_16 rfl 1 rfl rfl ?_
  refine aw_callSN (M' := M_X4_at) 20 81 [.ref _, .int _] [.int _] dX3_spokenAt_17 (by decide) ms_X4_at mp_X4_at rfl ⟨leb rfl, leb rfl⟩ rfl (leb rfl) (leb rfl) (leb rfl) rfl (am_X4_at hG h) (kkI fun v10 X9 h => ?_) KrI.no
  refine aw_widen (cc' := 0) (ss' := 0) (leb rfl) (leb rfl) ?_
  refine aw_iadd 21 dX3_spokenAt_20 rfl ?_
  exact aw_ireturn (ty := .int) dX3_spokenAt_21 rfl rfl (leb rfl) (leb rfl) ⟨_, rfl, h⟩)
set_option maxRecDepth 20000 in
theorem am_X3_roomAt {G : GG} (hG : G.1.stackTraces = false) {l0 : Nat} {l1 : Int32} {l2 : Int32} {X : XH} {K : Int32 → XH → Prop} (h : w_X3_roomAt l0 l1 l2 X K) : AM G M_X3_roomAt X [.ref l0, .int l1, .int l2] (KrI K) := AM_of (by decide +kernel) rfl (leb rfl) hG (by
  show AW G M_X3_roomAt 0 [(0, .ref l0), (1, .int l1), (2, .int l2)] [] X 0 0 _
  unfold w_X3_roomAt at h
  refine aw_aload_n 1 dX3_roomAt_0 rfl 0 rfl rfl ?_
  obtain ⟨g1, h⟩ := h
  obtain ⟨g2, h⟩ := h
  refine aw_getR 4 dX3_roomAt_1 fl_RX3_18 rfl g1 g2 rfl ?_
  refine aw_iload_n 5 dX3_roomAt_4 rfl 1 rfl rfl ?_
  refine aw_callSN (M' := M_X4_at) 8 81 [.ref _, .int _] [] dX3_roomAt_5 (by decide) ms_X4_at mp_X4_at rfl ⟨leb rfl, leb rfl⟩ rfl (leb rfl) (leb rfl) (leb rfl) rfl (am_X4_at hG h) (kkI fun v4 X3 h => ?_) KrI.no
  refine aw_widen (cc' := 0) (ss' := 0) (leb rfl) (leb rfl) ?_
  refine aw_aload_n 9 dX3_roomAt_8 rfl 0 rfl rfl ?_
  refine aw_iload_n 10 dX3_roomAt_9 rfl 1 rfl rfl ?_
  refine aw_iload_n 11 dX3_roomAt_10 rfl 2 rfl rfl ?_
  obtain ⟨g7, h⟩ := h
  refine aw_callV (M' := M_X3_spokenAt) 14 85 3 l0 [.int _, .int _] [.int _] dX3_roomAt_11 lk_RX3_85 mv_X3_spokenAt mp_X3_spokenAt rfl ⟨leb rfl, leb rfl⟩ rfl (ltb rfl) g7 rfl (leb rfl) (leb rfl) (leb rfl) rfl (am_X3_spokenAt hG h) (kkI fun v6 X5 h => ?_) (kxN KrI.no)
  refine aw_widen (cc' := 0) (ss' := 0) (leb rfl) (leb rfl) ?_
  refine aw_isub 15 dX3_roomAt_14 rfl ?_
  exact aw_ireturn (ty := .int) dX3_roomAt_15 rfl rfl (leb rfl) (leb rfl) ⟨_, rfl, h⟩)
set_option maxRecDepth 20000 in
theorem am_X4_translate {G : GG} (hG : G.1.stackTraces = false) {l0 : Nat} {l1 : Int32} {l2 : Int32} {l3 : Int32} {X : XH} {K : Int32 → XH → Prop} {KX : String → XH → Prop} (h : w_X4_translate l0 l1 l2 l3 X K KX) : AM G M_X4_translate X [.ref l0, .int l1, .int l2, .int l3] (KxT (KrI K) KX) := AM_of (by decide +kernel) rfl (leb rfl) hG (by
  show AW G M_X4_translate 0 [(0, .ref l0), (1, .int l1), (2, .int l2), (3, .int l3)] [] X 0 0 _
  unfold w_X4_translate at h
  refine aw_aload_n 1 dX4_translate_0 rfl 0 rfl rfl ?_
  refine aw_iload_n 2 dX4_translate_1 rfl 1 rfl rfl ?_
  refine aw_iload_n 3 dX4_translate_2 rfl 2 rfl rfl ?_
  obtain ⟨g2, h⟩ := h
  refine aw_callV (M' := M_X4_checkTranslation) 6 115 4 l0 [.int _, .int _] [] dX4_translate_3 lk_RX4_115 mv_X4_checkTranslation mp_X4_checkTranslation rfl ⟨leb rfl, leb rfl⟩ rfl (ltb rfl) g2 rfl (leb rfl) (leb rfl) (leb rfl) rfl (am_X4_checkTranslation hG h) (kkT (kkV fun X1 h => ?_)) (kxT KrV.no fun E X h => at_out rfl (leb rfl) (leb rfl) (Or.inr ⟨_, rfl, h⟩))
  refine aw_widen (cc' := 2) (ss' := 12) (leb rfl) (leb rfl) ?_
  refine aw_iload_n 7 dX4_translate_6 rfl 3 rfl rfl ?_
  refine aw_iconst 8 (v := 1) dX4_translate_7 kI_1 rfl ?_
  refine aw_bipush 10 (v := 60) dX4_translate_8 kB_60 rfl ?_
  refine aw_callS (M' := M_X4_checkRange) 13 52 [.int _, .int _, .int _] [] dX4_translate_10 lk_RX4_52 ms_X4_checkRange mp_X4_checkRange rfl ⟨leb rfl, leb rfl⟩ rfl (leb rfl) (leb rfl) (leb rfl) rfl (am_X4_checkRange hG h) (kkT (kkV fun X3 h => ?_)) (kxT KrV.no fun E X h => at_out rfl (leb rfl) (leb rfl) (Or.inr ⟨_, rfl, h⟩))
  refine aw_widen (cc' := 3) (ss' := 18) (leb rfl) (leb rfl) ?_
  refine aw_aload_n 14 dX4_translate_13 rfl 0 rfl rfl ?_
  obtain ⟨g4, h⟩ := h
  obtain ⟨g5, h⟩ := h
  refine aw_getR 17 dX4_translate_14 fl_RX4_10 rfl g4 g5 rfl ?_
  refine aw_iload_n 18 dX4_translate_17 rfl 1 rfl rfl ?_
  refine aw_iload_n 19 dX4_translate_18 rfl 2 rfl rfl ?_
  obtain ⟨g8, h⟩ := h
  refine aw_callV (M' := M_X3_isTaken) 22 119 3 (hR X3 l0 0) [.int _, .int _] [] dX4_translate_19 lk_RX4_119 mv_X3_isTaken mp_X3_isTaken rfl ⟨leb rfl, leb rfl⟩ rfl (ltb rfl) g8 rfl (leb rfl) (leb rfl) (leb rfl) rfl (am_X3_isTaken hG h) (kkI fun v7 X6 h => ?_) (kxN KrI.no)
  refine aw_widen (cc' := 3) (ss' := 18) (leb rfl) (leb rfl) ?_
  refine aw_if_eq 35 25 dX4_translate_22 rfl rfl (fun c9 => ?_) (fun c9 => ?_)
  · replace h := h.1 c9
    refine aw_aload_n 36 dX4_translate_35 rfl 0 rfl rfl ?_
    obtain ⟨g10, h⟩ := h
    obtain ⟨g11, h⟩ := h
    refine aw_getR 39 dX4_translate_36 fl_RX4_19 rfl g10 g11 rfl ?_
    refine aw_aload_n 40 dX4_translate_39 rfl 0 rfl rfl ?_
    obtain ⟨g12, h⟩ := h
    refine aw_getR 43 dX4_translate_40 fl_RX4_10 rfl g10 g12 rfl ?_
    obtain ⟨g14, h⟩ := h
    refine aw_callV (M' := M_X1_push) 46 67 1 (hR X6 l0 1) [.ref _] [] dX4_translate_43 lk_RX4_67 mv_X1_push mp_X1_push rfl ⟨leb rfl, leb rfl⟩ rfl (ltb rfl) g14 rfl (leb rfl) (leb rfl) (leb rfl) rfl (am_X1_push hG h) (kkV fun X13 h => ?_) (kxN KrV.no)
    refine aw_widen (cc' := 3) (ss' := 18) (leb rfl) (leb rfl) ?_
    refine aw_aload_n 47 dX4_translate_46 rfl 0 rfl rfl ?_
    obtain ⟨g15, h⟩ := h
    obtain ⟨g16, h⟩ := h
    refine aw_getR 50 dX4_translate_47 fl_RX4_10 rfl g15 g16 rfl ?_
    refine aw_iload_n 51 dX4_translate_50 rfl 1 rfl rfl ?_
    refine aw_iload_n 52 dX4_translate_51 rfl 2 rfl rfl ?_
    refine aw_iload_n 53 dX4_translate_52 rfl 3 rfl rfl ?_
    refine aw_iconst 54 (v := 0) dX4_translate_53 kI_0 rfl ?_
    obtain ⟨g18, h⟩ := h
    refine aw_callV (M' := M_X3_putTranslation) 57 125 3 (hR X13 l0 0) [.int _, .int _, .int _, .int _] [] dX4_translate_54 lk_RX4_125 mv_X3_putTranslation mp_X3_putTranslation rfl ⟨leb rfl, leb rfl⟩ rfl (ltb rfl) g18 rfl (leb rfl) (leb rfl) (leb rfl) rfl (am_X3_putTranslation hG h) (kkV fun X17 h => ?_) (kxN KrV.no)
    refine aw_widen (cc' := 3) (ss' := 18) (leb rfl) (leb rfl) ?_
    refine aw_aload_n 58 dX4_translate_57 rfl 0 rfl rfl ?_
    obtain ⟨g19, h⟩ := h
    obtain ⟨g20, h⟩ := h
    refine aw_getR 61 dX4_translate_58 fl_RX4_10 rfl g19 g20 rfl ?_
    refine aw_iload_n 62 dX4_translate_61 rfl 1 rfl rfl ?_
    refine aw_iload_n 63 dX4_translate_62 rfl 2 rfl rfl ?_
    obtain ⟨g23, h⟩ := h
    refine aw_callV (M' := M_X3_roomAt) 66 129 3 (hR X17 l0 0) [.int _, .int _] [] dX4_translate_63 lk_RX4_129 mv_X3_roomAt mp_X3_roomAt rfl ⟨leb rfl, leb rfl⟩ rfl (ltb rfl) g23 rfl (leb rfl) (leb rfl) (leb rfl) rfl (am_X3_roomAt hG h) (kkI fun v22 X21 h => ?_) (kxN KrI.no)
    refine aw_widen (cc' := 3) (ss' := 18) (leb rfl) (leb rfl) ?_
    exact aw_ireturn (ty := .int) dX4_translate_66 rfl rfl (leb rfl) (leb rfl) (Or.inl ⟨_, rfl, h⟩)
  · replace h := h.2 c9
    exact aw_throw xcS 60 123 64 rfl th_xcS (by decide) (Or.inl ⟨dX4_translate_25, dX4_translate_28, dX4_translate_29, dX4_translate_31, dX4_translate_34⟩) rfl (ltb rfl) (leb rfl) (leb rfl) (leb rfl) (Or.inr ⟨_, rfl, h⟩))
end XWK0
