/-! the walks of methods, as predicates -/
section XWK7
set_option maxRecDepth 20000 in
theorem am_X0_init {G : GG} (hG : G.1.stackTraces = false) {l0 : Nat} {X : XH} {K : XH → Prop} (h : w_X0_init l0 X K) : AM G M_X0_init X [.ref l0] (KrV K) := AM_of (by decide +kernel) rfl (leb rfl) hG (by
  show AW G M_X0_init 0 [(0, .ref l0)] [] X 0 0 _
  unfold w_X0_init at h
  refine aw_aload_n 1 dX0_init_0 rfl 0 rfl rfl ?_
  refine aw_objinit 4 dX0_init_1 (tk1 (i := 109) (by decide +kernel) rfl) (tk1 (i := 21) (by decide +kernel) rfl) (tk1 (i := 22) (by decide +kernel) rfl) (leb rfl) (leb rfl) rfl ?_
  refine aw_aload_n 5 dX0_init_4 rfl 0 rfl rfl ?_
  refine aw_bipush 7 (v := 60) dX0_init_5 kB_60 rfl ?_
  refine aw_newa 9 100 60 dX0_init_7 (tk1 (i := 86) (by decide +kernel) rfl) rfl (leb rfl) (leb rfl) rfl (by decide) (by decide) (by decide) (leb rfl) (leb rfl) rfl ?_
  obtain ⟨g1, h⟩ := h
  refine aw_putRF 12 dX0_init_9 fl_RX0_9 rfl rfl rfl rfl g1 (Nat.succ_ne_zero _) rfl ?_
  refine aw_aload_n 13 dX0_init_12 rfl 0 rfl rfl ?_
  refine aw_bipush 15 (v := 60) dX0_init_13 kB_60 rfl ?_
  refine aw_newa 17 100 60 dX0_init_15 (tk1 (i := 86) (by decide +kernel) rfl) rfl (leb rfl) (leb rfl) rfl (by decide) (by decide) (by decide) (leb rfl) (leb rfl) rfl ?_
  obtain ⟨g2, h⟩ := h
  refine aw_putRF 20 dX0_init_17 fl_RX0_15 rfl rfl rfl rfl g2 (Nat.succ_ne_zero _) rfl ?_
  refine aw_aload_n 21 dX0_init_20 rfl 0 rfl rfl ?_
  refine aw_bipush 23 (v := 60) dX0_init_21 kB_60 rfl ?_
  refine aw_newa 25 100 60 dX0_init_23 (tk1 (i := 86) (by decide +kernel) rfl) rfl (leb rfl) (leb rfl) rfl (by decide) (by decide) (by decide) (leb rfl) (leb rfl) rfl ?_
  obtain ⟨g3, h⟩ := h
  refine aw_putRF 28 dX0_init_25 fl_RX0_18 rfl rfl rfl rfl g3 (Nat.succ_ne_zero _) rfl ?_
  refine aw_aload_n 29 dX0_init_28 rfl 0 rfl rfl ?_
  refine aw_bipush 31 (v := 60) dX0_init_29 kB_60 rfl ?_
  refine aw_newa 33 100 60 dX0_init_31 (tk1 (i := 86) (by decide +kernel) rfl) rfl (leb rfl) (leb rfl) rfl (by decide) (by decide) (by decide) (leb rfl) (leb rfl) rfl ?_
  obtain ⟨g4, h⟩ := h
  refine aw_putRF 36 dX0_init_33 fl_RX0_21 rfl rfl rfl rfl g4 (Nat.succ_ne_zero _) rfl ?_
  refine aw_aload_n 37 dX0_init_36 rfl 0 rfl rfl ?_
  refine aw_bipush 39 (v := 60) dX0_init_37 kB_60 rfl ?_
  refine aw_newa 41 100 60 dX0_init_39 (tk1 (i := 86) (by decide +kernel) rfl) rfl (leb rfl) (leb rfl) rfl (by decide) (by decide) (by decide) (leb rfl) (leb rfl) rfl ?_
  obtain ⟨g5, h⟩ := h
  refine aw_putRF 44 dX0_init_41 fl_RX0_24 rfl rfl rfl rfl g5 (Nat.succ_ne_zero _) rfl ?_
  exact aw_return dX0_init_44 rfl (leb rfl) (leb rfl) ⟨rfl, h⟩)
set_option maxRecDepth 20000 in
theorem am_X2_init {G : GG} (hG : G.1.stackTraces = false) {l0 : Nat} {X : XH} {K : XH → Prop} (h : w_X2_init l0 X K) : AM G M_X2_init X [.ref l0] (KrV K) := AM_of (by decide +kernel) rfl (leb rfl) hG (by
  show AW G M_X2_init 0 [(0, .ref l0)] [] X 0 0 _
  unfold w_X2_init at h
  refine aw_aload_n 1 dX2_init_0 rfl 0 rfl rfl ?_
  refine aw_objinit 4 dX2_init_1 (tk1 (i := 148) (by decide +kernel) rfl) (tk1 (i := 21) (by decide +kernel) rfl) (tk1 (i := 22) (by decide +kernel) rfl) (leb rfl) (leb rfl) rfl ?_
  refine aw_aload_n 5 dX2_init_4 rfl 0 rfl rfl ?_
  refine aw_bipush 7 (v := 24) dX2_init_5 kB_24 rfl ?_
  refine aw_newa 9 100 24 dX2_init_7 (tk1 (i := 86) (by decide +kernel) rfl) rfl (leb rfl) (leb rfl) rfl (by decide) (by decide) (by decide) (leb rfl) (leb rfl) rfl ?_
  obtain ⟨g1, h⟩ := h
  refine aw_putRF 12 dX2_init_9 fl_RX2_9 rfl rfl rfl rfl g1 (Nat.succ_ne_zero _) rfl ?_
  refine aw_aload_n 13 dX2_init_12 rfl 0 rfl rfl ?_
  refine aw_bipush 15 (v := 25) dX2_init_13 kB_25 rfl ?_
  refine aw_newa 17 100 25 dX2_init_15 (tk1 (i := 86) (by decide +kernel) rfl) rfl (leb rfl) (leb rfl) rfl (by decide) (by decide) (by decide) (leb rfl) (leb rfl) rfl ?_
  obtain ⟨g2, h⟩ := h
  refine aw_putRF 20 dX2_init_17 fl_RX2_15 rfl rfl rfl rfl g2 (Nat.succ_ne_zero _) rfl ?_
  exact aw_return dX2_init_20 rfl (leb rfl) (leb rfl) ⟨rfl, h⟩)
set_option maxRecDepth 20000 in
theorem aw_X4_init_36 {G : GG} (hG : G.1.stackTraces = false)  {l0 : Nat} {l1 : Int32} {cc : Nat} {ss : Nat} {X : XH} {K : XH → Prop}  (h : w_X4_init_36  l0 l1 cc ss X K) : AW G M_X4_init 36 [(0, .ref l0), (1, .int l1)] [] X cc ss (KrV K) :=
  h (fun l0 l1 cc ss X => AW G M_X4_init 36 [(0, .ref l0), (1, .int l1)] [] X cc ss (KrV K)) (fun l0 l1 cc ss X h => by
    refine aw_iload_n 37 dX4_init_36 rfl 1 rfl rfl ?_
    refine aw_aload_n 38 dX4_init_37 rfl 0 rfl rfl ?_
    obtain ⟨g1, h⟩ := h
    obtain ⟨g2, h⟩ := h
    refine aw_getR 41 dX4_init_38 fl_RX4_23 rfl g1 g2 rfl ?_
    obtain ⟨g3, h⟩ := h
    refine aw_alen 42 dX4_init_41 g3 rfl ?_
    refine aw_icmp_ge 64 45 dX4_init_42 rfl rfl (fun c4 => ?_) (fun c4 => ?_)
    · replace h := h.1 c4
      refine aw_aload_n 65 dX4_init_64 rfl 0 rfl rfl ?_
      refine aw_iconst 66 (v := 2) dX4_init_65 kI_2 rfl ?_
      obtain ⟨g5, h⟩ := h
      obtain ⟨g6, h⟩ := h
      refine aw_newa 68 101 2 dX4_init_66 (tk1 (i := 142) (by decide +kernel) rfl) rfl (leb rfl) (leb rfl) rfl (by decide) (by decide) (by decide) g5 g6 rfl ?_
      obtain ⟨g7, h⟩ := h
      refine aw_putRF 71 dX4_init_68 fl_RX4_27 rfl rfl rfl rfl g7 (Nat.succ_ne_zero _) rfl ?_
      refine aw_aload_n 72 dX4_init_71 rfl 0 rfl rfl ?_
      obtain ⟨g8, h⟩ := h
      obtain ⟨g9, h⟩ := h
      refine aw_new 75 31 0 dX4_init_72 (ltb rfl) (tk1 (i := 104) (by decide +kernel) rfl) (tk1 (i := 105) (by decide +kernel) rfl) (tk1 (i := 4) (by decide +kernel) rfl) g8 g9 rfl ?_
      refine aw_dup 76 dX4_init_75 rfl rfl ?_
      obtain ⟨g10, h⟩ := h
      obtain ⟨g11, h⟩ := h
      refine aw_callIN (M' := M_X0_init) 79 33 (hz (sR (sN X 101 2) l0 3 (hz X + 1)) + 1) [] [.ref _, .ref _] dX4_init_76 (by decide) mi_X0_init mp_X0_init rfl rfl ⟨leb rfl, leb rfl⟩ rfl (leb rfl) g10 g11 rfl (am_X0_init hG h) (kkV fun X12 h => ?_) KrV.no
      refine aw_widen (cc' := cc + 7) (ss' := ss + 310) (Nat.le_refl _) (Nat.le_refl _) ?_
      obtain ⟨g13, h⟩ := h
      refine aw_putRF 82 dX4_init_79 fl_RX4_34 rfl rfl rfl rfl g13 (Nat.succ_ne_zero _) rfl ?_
      refine aw_aload_n 83 dX4_init_82 rfl 0 rfl rfl ?_
      obtain ⟨g14, h⟩ := h
      obtain ⟨g15, h⟩ := h
      refine aw_new 86 38 2 dX4_init_83 (ltb rfl) (tk1 (i := 143) (by decide +kernel) rfl) (tk1 (i := 144) (by decide +kernel) rfl) (tk1 (i := 5) (by decide +kernel) rfl) g14 g15 rfl ?_
      refine aw_dup 87 dX4_init_86 rfl rfl ?_
      obtain ⟨g16, h⟩ := h
      obtain ⟨g17, h⟩ := h
      refine aw_callIN (M' := M_X2_init) 90 40 (hz (sR X12 l0 4 (hz (sR (sN X 101 2) l0 3 (hz X + 1)) + 1)) + 1) [] [.ref _, .ref _] dX4_init_87 (by decide) mi_X2_init mp_X2_init rfl rfl ⟨leb rfl, leb rfl⟩ rfl (leb rfl) g16 g17 rfl (am_X2_init hG h) (kkV fun X18 h => ?_) KrV.no
      refine aw_widen (cc' := cc + 10) (ss' := ss + 364) (Nat.le_refl _) (Nat.le_refl _) ?_
      obtain ⟨g19, h⟩ := h
      refine aw_putRF 93 dX4_init_90 fl_RX4_41 rfl rfl rfl rfl g19 (Nat.succ_ne_zero _) rfl ?_
      obtain ⟨g20, h⟩ := h
      obtain ⟨g21, h⟩ := h
      exact aw_return dX4_init_93 rfl g20 g21 ⟨rfl, h⟩
    · replace h := h.2 c4
      refine aw_aload_n 46 dX4_init_45 rfl 0 rfl rfl ?_
      refine aw_getR 49 dX4_init_46 fl_RX4_23 rfl g1 g2 rfl ?_
      refine aw_iload_n 50 dX4_init_49 rfl 1 rfl rfl ?_
      obtain ⟨g22, h⟩ := h
      obtain ⟨g23, h⟩ := h
      refine aw_new 53 7 3 dX4_init_50 (ltb rfl) (tk1 (i := 23) (by decide +kernel) rfl) (tk1 (i := 24) (by decide +kernel) rfl) (tk1 (i := 2) (by decide +kernel) rfl) g22 g23 rfl ?_
      refine aw_dup 54 dX4_init_53 rfl rfl ?_
      obtain ⟨g24, h⟩ := h
      obtain ⟨g25, h⟩ := h
      refine aw_callI (M' := M_X3_init) 57 9 (hz X + 1) [] [.ref _, .int _, .ref _] dX4_init_54 lk_RX4_9 mi_X3_init mp_X3_init rfl rfl ⟨leb rfl, leb rfl⟩ rfl (leb rfl) g24 g25 rfl (am_X3_init hG h) (kkV fun X26 h => ?_) KrV.no
      refine aw_widen (cc' := cc + 12) (ss' := ss + 382) (Nat.le_refl _) (Nat.le_refl _) ?_
      obtain ⟨g27, h⟩ := h
      obtain ⟨g28, h⟩ := h
      obtain ⟨g29, h⟩ := h
      refine aw_aastore 58 3 dX4_init_57 (ltb rfl) g27 g28 g29 rfl ?_
      refine aw_iinc 61 (v := 1) (lv' := [(1, _), (0, _)]) dX4_init_58 1 rfl kI_1 (ltb rfl) rfl rfl ?_
      refine aw_goto 36 dX4_init_61 rfl ?_
      exact aw_pick [1, 0] rfl h)
set_option maxRecDepth 20000 in
theorem am_X4_init {G : GG} (hG : G.1.stackTraces = false) {l0 : Nat} {X : XH} {K : XH → Prop} (h : w_X4_init l0 X K) : AM G M_X4_init X [.ref l0] (KrV K) := AM_of (by decide +kernel) rfl (leb rfl) hG (by
  show AW G M_X4_init 0 [(0, .ref l0)] [] X 0 0 _
  unfold w_X4_init at h
  refine aw_aload_n 1 dX4_init_0 rfl 0 rfl rfl ?_
  refine aw_objinit 4 dX4_init_1 (tk1 (i := 20) (by decide +kernel) rfl) (tk1 (i := 21) (by decide +kernel) rfl) (tk1 (i := 22) (by decide +kernel) rfl) (leb rfl) (leb rfl) rfl ?_
  refine aw_aload_n 5 dX4_init_4 rfl 0 rfl rfl ?_
  refine aw_new 8 7 3 dX4_init_5 (ltb rfl) (tk1 (i := 23) (by decide +kernel) rfl) (tk1 (i := 24) (by decide +kernel) rfl) (tk1 (i := 2) (by decide +kernel) rfl) (leb rfl) (leb rfl) rfl ?_
  refine aw_dup 9 dX4_init_8 rfl rfl ?_
  refine aw_callI (M' := M_X3_init) 12 9 (hz X + 1) [] [.ref _, .ref _] dX4_init_9 lk_RX4_9 mi_X3_init mp_X3_init rfl rfl ⟨leb rfl, leb rfl⟩ rfl (leb rfl) (leb rfl) (leb rfl) rfl (am_X3_init hG h) (kkV fun X1 h => ?_) KrV.no
  refine aw_widen (cc' := 12) (ss' := 382) (leb rfl) (leb rfl) ?_
  obtain ⟨g2, h⟩ := h
  refine aw_putRF 15 dX4_init_12 fl_RX4_10 rfl rfl rfl rfl g2 (Nat.succ_ne_zero _) rfl ?_
  refine aw_aload_n 16 dX4_init_15 rfl 0 rfl rfl ?_
  refine aw_new 19 16 1 dX4_init_16 (ltb rfl) (tk1 (i := 87) (by decide +kernel) rfl) (tk1 (i := 88) (by decide +kernel) rfl) (tk1 (i := 3) (by decide +kernel) rfl) (leb rfl) (leb rfl) rfl ?_
  refine aw_dup 20 dX4_init_19 rfl rfl ?_
  refine aw_callI (M' := M_X1_init) 23 18 (hz (sR X1 l0 0 (hz X + 1)) + 1) [] [.ref _, .ref _] dX4_init_20 lk_RX4_18 mi_X1_init mp_X1_init rfl rfl ⟨leb rfl, leb rfl⟩ rfl (leb rfl) (leb rfl) (leb rfl) rfl (am_X1_init hG h) (kkV fun X3 h => ?_) KrV.no
  refine aw_widen (cc' := 86) (ss' := 2682) (leb rfl) (leb rfl) ?_
  obtain ⟨g4, h⟩ := h
  refine aw_putRF 26 dX4_init_23 fl_RX4_19 rfl rfl rfl rfl g4 (Nat.succ_ne_zero _) rfl ?_
  refine aw_aload_n 27 dX4_init_26 rfl 0 rfl rfl ?_
  refine aw_iconst 28 (v := 2) dX4_init_27 kI_2 rfl ?_
  refine aw_newq 31 7 3 2 dX4_init_28 (tk1 (i := 23) (by decide +kernel) rfl) rfl (by decide) (by decide) (leb rfl) (leb rfl) (leb rfl) rfl ?_
  obtain ⟨g5, h⟩ := h
  refine aw_putRF 34 dX4_init_31 fl_RX4_23 rfl rfl rfl rfl g5 (Nat.succ_ne_zero _) rfl ?_
  refine aw_iconst 35 (v := 0) dX4_init_34 kI_0 rfl ?_
  refine aw_istore_n 36 (lv' := [(1, _), (0, _)]) dX4_init_35 rfl (ltb rfl) rfl rfl ?_
  exact aw_pick [1, 0] rfl (aw_X4_init_36 hG  h))
set_option maxRecDepth 20000 in
theorem aw_X3_longestSighAt_13 {G : GG} (hG : G.1.stackTraces = false)  {l0 : Nat} {l1 : Int32} {l2 : Int32} {l3 : Int32} {X : XH} {K : Int32 → XH → Prop}  (h : w_X3_longestSighAt_13  l0 l1 l2 l3 X K) : AW G M_X3_longestSighAt 13 [(0, .ref l0), (1, .int l1), (2, .int l2), (3, .int l3)] [] X 0 0 (KrI K) :=
  h (fun l0 l1 l2 l3 X => AW G M_X3_longestSighAt 13 [(0, .ref l0), (1, .int l1), (2, .int l2), (3, .int l3)] [] X 0 0 (KrI K)) (fun l0 l1 l2 l3 X h => by
    refine aw_iload_n 14 dX3_longestSighAt_13 rfl 3 rfl rfl ?_
    refine aw_iconst 15 (v := 3) dX3_longestSighAt_14 kI_3 rfl ?_
    refine aw_icmp_ge 41 18 dX3_longestSighAt_15 rfl rfl (fun c1 => ?_) (fun c1 => ?_)
    · replace h := h.1 c1
      refine aw_iload_n 42 dX3_longestSighAt_41 rfl 2 rfl rfl ?_
      refine aw_if_lt 49 45 dX3_longestSighAt_42 rfl rfl (fun c2 => ?_) (fun c2 => ?_)
      · replace h := h.1 c2
        refine aw_iconst 50 (v := -1) dX3_longestSighAt_49 kI_m1 rfl ?_
        exact aw_ireturn (ty := .int) dX3_longestSighAt_50 rfl rfl (leb rfl) (leb rfl) ⟨_, rfl, h⟩
      · replace h := h.2 c2
        refine aw_iload_n 46 dX3_longestSighAt_45 rfl 2 rfl rfl ?_
        refine aw_goto 50 dX3_longestSighAt_46 rfl ?_
        exact aw_ireturn (ty := .int) dX3_longestSighAt_50 rfl rfl (leb rfl) (leb rfl) ⟨_, rfl, h⟩
    · replace h := h.2 c1
      refine aw_iload_n 19 dX3_longestSighAt_18 rfl 2 rfl rfl ?_
      refine aw_aload_n 20 dX3_longestSighAt_19 rfl 0 rfl rfl ?_
      refine aw_iload_n 21 dX3_longestSighAt_20 rfl 1 rfl rfl ?_
      obtain ⟨g5, h⟩ := h
      refine aw_callV (M' := M_X3_lipsAt) 24 102 3 l0 [.int _] [.int _] dX3_longestSighAt_21 lk_RX3_102 mv_X3_lipsAt mp_X3_lipsAt rfl ⟨leb rfl, leb rfl⟩ rfl (ltb rfl) g5 rfl (leb rfl) (leb rfl) (leb rfl) rfl (am_X3_lipsAt hG h) (kkI fun v4 X3 h => ?_) (kxN KrI.no)
      refine aw_widen (cc' := 0) (ss' := 0) (leb rfl) (leb rfl) ?_
      refine aw_aload_n 25 dX3_longestSighAt_24 rfl 0 rfl rfl ?_
      refine aw_iload_n 26 dX3_longestSighAt_25 rfl 1 rfl rfl ?_
      refine aw_iload_n 27 dX3_longestSighAt_26 rfl 3 rfl rfl ?_
      obtain ⟨g8, h⟩ := h
      refine aw_callV (M' := M_X3_framesAt) 30 95 3 l0 [.int _, .int _] [.int _, .int _] dX3_longestSighAt_27 lk_RX3_95 mv_X3_framesAt mp_X3_framesAt rfl ⟨leb rfl, leb rfl⟩ rfl (ltb rfl) g8 rfl (leb rfl) (leb rfl) (leb rfl) rfl (am_X3_framesAt hG h) (kkI fun v7 X6 h => ?_) (kxN KrI.no)
      refine aw_widen (cc' := 0) (ss' := 0) (leb rfl) (leb rfl) ?_
      refine aw_isub 31 dX3_longestSighAt_30 rfl ?_
      refine aw_mmin 34 dX3_longestSighAt_31 mx_RX3_125 (leb rfl) (leb rfl) (leb rfl) (leb rfl) rfl ?_
      refine aw_istore_n 35 (lv' := [(2, _), (0, _), (1, _), (3, _)]) dX3_longestSighAt_34 rfl (ltb rfl) rfl rfl ?_
      refine aw_iinc 38 (v := 1) (lv' := [(3, _), (2, _), (0, _), (1, _)]) dX3_longestSighAt_35 3 rfl kI_1 (ltb rfl) rfl rfl ?_
      refine aw_goto 13 dX3_longestSighAt_38 rfl ?_
      exact aw_pick [2, 3, 1, 0] rfl h)
set_option maxRecDepth 20000 in
theorem am_X3_longestSighAt {G : GG} (hG : G.1.stackTraces = false) {l0 : Nat} {l1 : Int32} {X : XH} {K : Int32 → XH → Prop} (h : w_X3_longestSighAt l0 l1 X K) : AM G M_X3_longestSighAt X [.ref l0, .int l1] (KrI K) := AM_of (by decide +kernel) rfl (leb rfl) hG (by
  show AW G M_X3_longestSighAt 0 [(0, .ref l0), (1, .int l1)] [] X 0 0 _
  unfold w_X3_longestSighAt at h
  refine aw_bipush 2 (v := 20) dX3_longestSighAt_0 kB_20 rfl ?_
  refine aw_aload_n 3 dX3_longestSighAt_2 rfl 0 rfl rfl ?_
  refine aw_iload_n 4 dX3_longestSighAt_3 rfl 1 rfl rfl ?_
  obtain ⟨g3, h⟩ := h
  refine aw_callV (M' := M_X3_lipsAt) 7 102 3 l0 [.int _] [.int _] dX3_longestSighAt_4 lk_RX3_102 mv_X3_lipsAt mp_X3_lipsAt rfl ⟨leb rfl, leb rfl⟩ rfl (ltb rfl) g3 rfl (leb rfl) (leb rfl) (leb rfl) rfl (am_X3_lipsAt hG h) (kkI fun v2 X1 h => ?_) (kxN KrI.no)
  refine aw_widen (cc' := 0) (ss' := 0) (leb rfl) (leb rfl) ?_
  refine aw_mmin 10 dX3_longestSighAt_7 mx_RX3_125 (leb rfl) (leb rfl) (leb rfl) (leb rfl) rfl ?_
  refine aw_istore_n 11 (lv' := [(2, _), (0, _), (1, _)]) dX3_longestSighAt_10 rfl (ltb rfl) rfl rfl ?_
  refine aw_iconst 12 (v := 0) dX3_longestSighAt_11 kI_0 rfl ?_
  refine aw_istore_n 13 (lv' := [(3, _), (2, _), (0, _), (1, _)]) dX3_longestSighAt_12 rfl (ltb rfl) rfl rfl ?_
  exact aw_pick [2, 3, 1, 0] rfl (aw_X3_longestSighAt_13 hG  h))
set_option maxRecDepth 20000 in
theorem am_X4_longestSigh {G : GG} (hG : G.1.stackTraces = false) {l0 : Nat} {l1 : Int32} {X : XH} {K : Int32 → XH → Prop} {KX : String → XH → Prop} (h : w_X4_longestSigh l0 l1 X K KX) : AM G M_X4_longestSigh X [.ref l0, .int l1] (KxT (KrI K) KX) := AM_of (by decide +kernel) rfl (leb rfl) hG (by
  show AW G M_X4_longestSigh 0 [(0, .ref l0), (1, .int l1)] [] X 0 0 _
  unfold w_X4_longestSigh at h
  refine aw_aload_n 1 dX4_longestSigh_0 rfl 0 rfl rfl ?_
  refine aw_iload_n 2 dX4_longestSigh_1 rfl 1 rfl rfl ?_
  obtain ⟨g2, h⟩ := h
  refine aw_callV (M' := M_X4_checkClause) 5 75 4 l0 [.int _] [] dX4_longestSigh_2 lk_RX4_75 mv_X4_checkClause mp_X4_checkClause rfl ⟨leb rfl, leb rfl⟩ rfl (ltb rfl) g2 rfl (leb rfl) (leb rfl) (leb rfl) rfl (am_X4_checkClause hG h) (kkT (kkV fun X1 h => ?_)) (kxT KrV.no fun E X h => at_out rfl (leb rfl) (leb rfl) (Or.inr ⟨_, rfl, h⟩))
  refine aw_widen (cc' := 1) (ss' := 6) (leb rfl) (leb rfl) ?_
  refine aw_aload_n 6 dX4_longestSigh_5 rfl 0 rfl rfl ?_
  obtain ⟨g3, h⟩ := h
  obtain ⟨g4, h⟩ := h
  refine aw_getR 9 dX4_longestSigh_6 fl_RX4_10 rfl g3 g4 rfl ?_
  refine aw_iload_n 10 dX4_longestSigh_9 rfl 1 rfl rfl ?_
  obtain ⟨g7, h⟩ := h
  refine aw_callV (M' := M_X3_longestSighAt) 13 345 3 (hR X1 l0 0) [.int _] [] dX4_longestSigh_10 lk_RX4_345 mv_X3_longestSighAt mp_X3_longestSighAt rfl ⟨leb rfl, leb rfl⟩ rfl (ltb rfl) g7 rfl (leb rfl) (leb rfl) (leb rfl) rfl (am_X3_longestSighAt hG h) (kkI fun v6 X5 h => ?_) (kxN KrI.no)
  refine aw_widen (cc' := 1) (ss' := 6) (leb rfl) (leb rfl) ?_
  refine aw_istore_n 14 (lv' := [(2, _), (0, _), (1, _)]) dX4_longestSigh_13 rfl (ltb rfl) rfl rfl ?_
  refine aw_iload_n 15 dX4_longestSigh_14 rfl 0 rfl rfl ?_
  refine aw_iconst 16 (v := -1) dX4_longestSigh_15 kI_m1 rfl ?_
  refine aw_icmp_ne 30 19 dX4_longestSigh_16 rfl rfl (fun c8 => ?_) (fun c8 => ?_)
  · replace h := h.1 c8
    refine aw_iload_n 31 dX4_longestSigh_30 rfl 0 rfl rfl ?_
    exact aw_ireturn (ty := .int) dX4_longestSigh_31 rfl rfl (leb rfl) (leb rfl) (Or.inl ⟨_, rfl, h⟩)
  · replace h := h.2 c8
    exact aw_throw xcS 60 348 64 rfl th_xcS (by decide) (Or.inr ⟨dX4_longestSigh_19, dX4_longestSigh_22, dX4_longestSigh_23, dX4_longestSigh_26, dX4_longestSigh_29⟩) rfl (ltb rfl) (leb rfl) (leb rfl) (leb rfl) (Or.inr ⟨_, rfl, h⟩))
set_option maxRecDepth 20000 in
theorem am_L_longestSigh {G : GG} (hG : G.1.stackTraces = false) {l0 : Nat} {l1 : Int32} {X : XH} {K : Int32 → XH → Prop} (h : w_L_longestSigh l0 l1 X K) : AM G M_L_longestSigh X [.ref l0, .int l1] (KrI K) := AM_ofH (by decide +kernel) (0, 5, 6, 15) [(0, 5, 10, 19)] rfl (leb rfl) hG (by
  show AW G M_L_longestSigh 0 [(0, .ref l0), (1, .int l1)] [] X 0 0 _
  unfold w_L_longestSigh at h
  refine aw_aload_n 1 dL_longestSigh_0 rfl 0 rfl rfl ?_
  refine aw_iload_n 2 dL_longestSigh_1 rfl 1 rfl rfl ?_
  obtain ⟨g3, h⟩ := h
  refine aw_callV (M' := M_X4_longestSigh) 5 163 4 l0 [.int _] [] dL_longestSigh_2 lk_RL_163 mv_X4_longestSigh mp_X4_longestSigh rfl ⟨leb rfl, leb rfl⟩ rfl (ltb rfl) g3 rfl (leb rfl) (leb rfl) (leb rfl) rfl (am_X4_longestSigh hG h) (kkT (kkI fun v2 X1 h => ?_)) (kxT KrI.no fun E X1 h => ?_)
  · refine aw_widen (cc' := 2) (ss' := 12) (leb rfl) (leb rfl) ?_
    exact aw_ireturn (ty := .int) dL_longestSigh_5 rfl rfl (leb rfl) (leb rfl) ⟨_, rfl, h⟩
  · obtain ⟨hE, h⟩ := h
    rcases hE with rfl | rfl
    · refine aw_atc (lv' := [(0, .ref _), (1, .int _)]) [] (0, 5, 6, 15) [(0, 5, 10, 19)] rfl (fun z hz => nomatch hz) (by decide) (by decide) (tk3 (i := 40) (by decide +kernel) rfl) (by decide) 2 1 7 (Or.inl ⟨2, rfl, dL_longestSigh_6, rfl⟩) (ltb rfl) rfl ?_
      refine aw_widen (cc' := 2) (ss' := 12) (leb rfl) (leb rfl) ?_
      replace h := h.1 rfl
      refine aw_bipush 9 (v := -2) dL_longestSigh_7 kB_m2 rfl ?_
      exact aw_ireturn (ty := .int) dL_longestSigh_9 rfl rfl (leb rfl) (leb rfl) ⟨_, rfl, h⟩
    · refine aw_atc (lv' := [(0, .ref _), (1, .int _)]) [(0, 5, 6, 15)] (0, 5, 10, 19) [] rfl (by intro z hz; simp only [List.mem_cons, List.not_mem_nil, or_false] at hz; rcases hz with rfl <;> first | exact ⟨by decide, xcI, tk3 (i := 40) (by decide +kernel) rfl, by decide⟩) (by decide) (by decide) (tk3 (i := 42) (by decide +kernel) rfl) (by decide) 2 1 11 (Or.inl ⟨2, rfl, dL_longestSigh_10, rfl⟩) (ltb rfl) rfl ?_
      refine aw_widen (cc' := 2) (ss' := 12) (leb rfl) (leb rfl) ?_
      replace h := h.2 rfl
      refine aw_bipush 13 (v := -4) dL_longestSigh_11 kB_m4 rfl ?_
      exact aw_ireturn (ty := .int) dL_longestSigh_13 rfl rfl (leb rfl) (leb rfl) ⟨_, rfl, h⟩)
end XWK7
