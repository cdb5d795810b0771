/-! the walks of methods, as predicates -/
section XWK4
set_option maxRecDepth 20000 in
theorem am_X3_reasonAt {G : GG} (hG : G.1.stackTraces = false) {l0 : Nat} {l1 : Int32} {l2 : Int32} {X : XH} {K : Int32 → XH → Prop} (h : w_X3_reasonAt l0 l1 l2 X K) : AM G M_X3_reasonAt X [.ref l0, .int l1, .int l2] (KrI K) := AM_of (by decide +kernel) rfl (leb rfl) hG (by
  show AW G M_X3_reasonAt 0 [(0, .ref l0), (1, .int l1), (2, .int l2)] [] X 0 0 _
  unfold w_X3_reasonAt at h
  refine aw_aload_n 1 dX3_reasonAt_0 rfl 0 rfl rfl ?_
  refine aw_iload_n 2 dX3_reasonAt_1 rfl 1 rfl rfl ?_
  refine aw_iload_n 3 dX3_reasonAt_2 rfl 2 rfl rfl ?_
  obtain ⟨g3, h⟩ := h
  refine aw_callV (M' := M_X3_hasTranslation) 6 108 3 l0 [.int _, .int _] [] dX3_reasonAt_3 lk_RX3_108 mv_X3_hasTranslation mp_X3_hasTranslation rfl ⟨leb rfl, leb rfl⟩ rfl (ltb rfl) g3 rfl (leb rfl) (leb rfl) (leb rfl) rfl (am_X3_hasTranslation hG h) (kkI fun v2 X1 h => ?_) (kxN KrI.no)
  refine aw_widen (cc' := 0) (ss' := 0) (leb rfl) (leb rfl) ?_
  refine aw_if_ne 11 9 dX3_reasonAt_6 rfl rfl (fun c4 => ?_) (fun c4 => ?_)
  · replace h := h.1 c4
    refine aw_aload_n 12 dX3_reasonAt_11 rfl 0 rfl rfl ?_
    refine aw_iload_n 13 dX3_reasonAt_12 rfl 1 rfl rfl ?_
    refine aw_iload_n 14 dX3_reasonAt_13 rfl 2 rfl rfl ?_
    obtain ⟨g7, h⟩ := h
    refine aw_callV (M' := M_X3_isTaken) 17 98 3 l0 [.int _, .int _] [] dX3_reasonAt_14 lk_RX3_98 mv_X3_isTaken mp_X3_isTaken rfl ⟨leb rfl, leb rfl⟩ rfl (ltb rfl) g7 rfl (leb rfl) (leb rfl) (leb rfl) rfl (am_X3_isTaken hG h) (kkI fun v6 X5 h => ?_) (kxN KrI.no)
    refine aw_widen (cc' := 0) (ss' := 0) (leb rfl) (leb rfl) ?_
    refine aw_if_eq 22 20 dX3_reasonAt_17 rfl rfl (fun c8 => ?_) (fun c8 => ?_)
    · replace h := h.1 c8
      refine aw_aload_n 23 dX3_reasonAt_22 rfl 0 rfl rfl ?_
      refine aw_iload_n 24 dX3_reasonAt_23 rfl 1 rfl rfl ?_
      refine aw_iload_n 25 dX3_reasonAt_24 rfl 2 rfl rfl ?_
      obtain ⟨g11, h⟩ := h
      refine aw_callV (M' := M_X3_hasFit) 28 105 3 l0 [.int _, .int _] [] dX3_reasonAt_25 lk_RX3_105 mv_X3_hasFit mp_X3_hasFit rfl ⟨leb rfl, leb rfl⟩ rfl (ltb rfl) g11 rfl (leb rfl) (leb rfl) (leb rfl) rfl (am_X3_hasFit hG h) (kkI fun v10 X9 h => ?_) (kxN KrI.no)
      refine aw_widen (cc' := 0) (ss' := 0) (leb rfl) (leb rfl) ?_
      refine aw_if_ne 33 31 dX3_reasonAt_28 rfl rfl (fun c12 => ?_) (fun c12 => ?_)
      · replace h := h.1 c12
        refine aw_aload_n 34 dX3_reasonAt_33 rfl 0 rfl rfl ?_
        refine aw_aload_n 35 dX3_reasonAt_34 rfl 0 rfl rfl ?_
        refine aw_iload_n 36 dX3_reasonAt_35 rfl 1 rfl rfl ?_
        obtain ⟨g15, h⟩ := h
        refine aw_callV (M' := M_X3_speakerAt) 39 77 3 l0 [.int _] [.ref _] dX3_reasonAt_36 lk_RX3_77 mv_X3_speakerAt mp_X3_speakerAt rfl ⟨leb rfl, leb rfl⟩ rfl (ltb rfl) g15 rfl (leb rfl) (leb rfl) (leb rfl) rfl (am_X3_speakerAt hG h) (kkI fun v14 X13 h => ?_) (kxN KrI.no)
        refine aw_widen (cc' := 0) (ss' := 0) (leb rfl) (leb rfl) ?_
        refine aw_iload_n 40 dX3_reasonAt_39 rfl 2 rfl rfl ?_
        obtain ⟨g18, h⟩ := h
        refine aw_callV (M' := M_X3_strengthAt) 43 111 3 l0 [.int _, .int _] [] dX3_reasonAt_40 lk_RX3_111 mv_X3_strengthAt mp_X3_strengthAt rfl ⟨leb rfl, leb rfl⟩ rfl (ltb rfl) g18 rfl (leb rfl) (leb rfl) (leb rfl) rfl (am_X3_strengthAt hG h) (kkI fun v17 X16 h => ?_) (kxN KrI.no)
        refine aw_widen (cc' := 0) (ss' := 0) (leb rfl) (leb rfl) ?_
        refine aw_aload_n 44 dX3_reasonAt_43 rfl 0 rfl rfl ?_
        refine aw_iload_n 45 dX3_reasonAt_44 rfl 1 rfl rfl ?_
        refine aw_iload_n 46 dX3_reasonAt_45 rfl 2 rfl rfl ?_
        obtain ⟨g21, h⟩ := h
        refine aw_callV (M' := M_X3_spokenAt) 49 85 3 l0 [.int _, .int _] [.int _] dX3_reasonAt_46 lk_RX3_85 mv_X3_spokenAt mp_X3_spokenAt rfl ⟨leb rfl, leb rfl⟩ rfl (ltb rfl) g21 rfl (leb rfl) (leb rfl) (leb rfl) rfl (am_X3_spokenAt hG h) (kkI fun v20 X19 h => ?_) (kxN KrI.no)
        refine aw_widen (cc' := 0) (ss' := 0) (leb rfl) (leb rfl) ?_
        refine aw_icmp_ge 56 52 dX3_reasonAt_49 rfl rfl (fun c22 => ?_) (fun c22 => ?_)
        · replace h := h.1 c22
          refine aw_iconst 57 (v := 0) dX3_reasonAt_56 kI_0 rfl ?_
          refine aw_istore_n 58 (lv' := [(3, _), (0, _), (1, _), (2, _)]) dX3_reasonAt_57 rfl (ltb rfl) rfl rfl ?_
          refine aw_iload_n 59 dX3_reasonAt_58 rfl 0 rfl rfl ?_
          refine aw_if_eq 66 62 dX3_reasonAt_59 rfl rfl (fun c23 => ?_) (fun c23 => ?_)
          · replace h := h.1 c23
            refine aw_iconst 67 (v := 0) dX3_reasonAt_66 kI_0 rfl ?_
            exact aw_ireturn (ty := .int) dX3_reasonAt_67 rfl rfl (leb rfl) (leb rfl) ⟨_, rfl, h⟩
          · replace h := h.2 c23
            refine aw_iconst 63 (v := 4) dX3_reasonAt_62 kI_4 rfl ?_
            refine aw_goto 67 dX3_reasonAt_63 rfl ?_
            exact aw_ireturn (ty := .int) dX3_reasonAt_67 rfl rfl (leb rfl) (leb rfl) ⟨_, rfl, h⟩
        · replace h := h.2 c22
          refine aw_iconst 53 (v := 1) dX3_reasonAt_52 kI_1 rfl ?_
          refine aw_goto 57 dX3_reasonAt_53 rfl ?_
          refine aw_istore_n 58 (lv' := [(3, _), (0, _), (1, _), (2, _)]) dX3_reasonAt_57 rfl (ltb rfl) rfl rfl ?_
          refine aw_iload_n 59 dX3_reasonAt_58 rfl 0 rfl rfl ?_
          refine aw_if_eq 66 62 dX3_reasonAt_59 rfl rfl (fun c24 => ?_) (fun c24 => ?_)
          · replace h := h.1 c24
            refine aw_iconst 67 (v := 0) dX3_reasonAt_66 kI_0 rfl ?_
            exact aw_ireturn (ty := .int) dX3_reasonAt_67 rfl rfl (leb rfl) (leb rfl) ⟨_, rfl, h⟩
          · replace h := h.2 c24
            refine aw_iconst 63 (v := 4) dX3_reasonAt_62 kI_4 rfl ?_
            refine aw_goto 67 dX3_reasonAt_63 rfl ?_
            exact aw_ireturn (ty := .int) dX3_reasonAt_67 rfl rfl (leb rfl) (leb rfl) ⟨_, rfl, h⟩
      · replace h := h.2 c12
        refine aw_iconst 32 (v := 3) dX3_reasonAt_31 kI_3 rfl ?_
        exact aw_ireturn (ty := .int) dX3_reasonAt_32 rfl rfl (leb rfl) (leb rfl) ⟨_, rfl, h⟩
    · replace h := h.2 c8
      refine aw_iconst 21 (v := 2) dX3_reasonAt_20 kI_2 rfl ?_
      exact aw_ireturn (ty := .int) dX3_reasonAt_21 rfl rfl (leb rfl) (leb rfl) ⟨_, rfl, h⟩
  · replace h := h.2 c4
    refine aw_iconst 10 (v := 1) dX3_reasonAt_9 kI_1 rfl ?_
    exact aw_ireturn (ty := .int) dX3_reasonAt_10 rfl rfl (leb rfl) (leb rfl) ⟨_, rfl, h⟩)
set_option maxRecDepth 20000 in
theorem am_X3_take {G : GG} (hG : G.1.stackTraces = false) {l0 : Nat} {l1 : Int32} {l2 : Int32} {X : XH} {K : XH → Prop} (h : w_X3_take l0 l1 l2 X K) : AM G M_X3_take X [.ref l0, .int l1, .int l2] (KrV K) := AM_of (by decide +kernel) rfl (leb rfl) hG (by
  show AW G M_X3_take 0 [(0, .ref l0), (1, .int l1), (2, .int l2)] [] X 0 0 _
  unfold w_X3_take at h
  refine aw_aload_n 1 dX3_take_0 rfl 0 rfl rfl ?_
  refine aw_iload_n 2 dX3_take_1 rfl 1 rfl rfl ?_
  obtain ⟨g3, h⟩ := h
  refine aw_callV (M' := M_X3_speakerAt) 5 77 3 l0 [.int _] [] dX3_take_2 lk_RX3_77 mv_X3_speakerAt mp_X3_speakerAt rfl ⟨leb rfl, leb rfl⟩ rfl (ltb rfl) g3 rfl (leb rfl) (leb rfl) (leb rfl) rfl (am_X3_speakerAt hG h) (kkI fun v2 X1 h => ?_) (kxN KrI.no)
  refine aw_widen (cc' := 0) (ss' := 0) (leb rfl) (leb rfl) ?_
  refine aw_iload_n 6 dX3_take_5 rfl 2 rfl rfl ?_
  refine aw_callS (M' := M_X3_place) 9 73 [.int _, .int _] [] dX3_take_6 lk_RX3_73 ms_X3_place mp_X3_place rfl ⟨leb rfl, leb rfl⟩ rfl (leb rfl) (leb rfl) (leb rfl) rfl (am_X3_place hG h) (kkI fun v5 X4 h => ?_) (kxN KrI.no)
  refine aw_widen (cc' := 0) (ss' := 0) (leb rfl) (leb rfl) ?_
  refine aw_istore_n 10 (lv' := [(3, _), (0, _), (1, _), (2, _)]) dX3_take_9 rfl (ltb rfl) rfl rfl ?_
  refine aw_aload_n 11 dX3_take_10 rfl 1 rfl rfl ?_
  obtain ⟨g6, h⟩ := h
  obtain ⟨g7, h⟩ := h
  refine aw_getR 14 dX3_take_11 fl_RX3_36 rfl g6 g7 rfl ?_
  refine aw_iload_n 15 dX3_take_14 rfl 0 rfl rfl ?_
  refine aw_aload_n 16 dX3_take_15 rfl 1 rfl rfl ?_
  refine aw_getR 19 dX3_take_16 fl_RX3_36 rfl g6 g7 rfl ?_
  refine aw_iload_n 20 dX3_take_19 rfl 0 rfl rfl ?_
  refine aw_callSN (M' := M_X4_at) 23 81 [.ref _, .int _] [.int _, .ref _] dX3_take_20 (by decide) ms_X4_at mp_X4_at rfl ⟨leb rfl, leb rfl⟩ rfl (leb rfl) (leb rfl) (leb rfl) rfl (am_X4_at hG h) (kkI fun v9 X8 h => ?_) KrI.no
  refine aw_widen (cc' := 0) (ss' := 0) (leb rfl) (leb rfl) ?_
  refine aw_aload_n 24 dX3_take_23 rfl 1 rfl rfl ?_
  refine aw_iload_n 25 dX3_take_24 rfl 2 rfl rfl ?_
  refine aw_iload_n 26 dX3_take_25 rfl 3 rfl rfl ?_
  obtain ⟨g12, h⟩ := h
  refine aw_callV (M' := M_X3_spokenAt) 29 85 3 l0 [.int _, .int _] [.int _, .int _, .ref _] dX3_take_26 lk_RX3_85 mv_X3_spokenAt mp_X3_spokenAt rfl ⟨leb rfl, leb rfl⟩ rfl (ltb rfl) g12 rfl (leb rfl) (leb rfl) (leb rfl) rfl (am_X3_spokenAt hG h) (kkI fun v11 X10 h => ?_) (kxN KrI.no)
  refine aw_widen (cc' := 0) (ss' := 0) (leb rfl) (leb rfl) ?_
  refine aw_iadd 30 dX3_take_29 rfl ?_
  refine aw_callSN (M' := M_X4_put) 33 65 [.ref _, .int _, .int _] [] dX3_take_30 (by decide) ms_X4_put mp_X4_put rfl ⟨leb rfl, leb rfl⟩ rfl (leb rfl) (leb rfl) (leb rfl) rfl (am_X4_put hG h) (kkV fun X13 h => ?_) KrV.no
  refine aw_widen (cc' := 0) (ss' := 0) (leb rfl) (leb rfl) ?_
  refine aw_aload_n 34 dX3_take_33 rfl 1 rfl rfl ?_
  obtain ⟨g14, h⟩ := h
  obtain ⟨g15, h⟩ := h
  refine aw_getR 37 dX3_take_34 fl_RX3_30 rfl g14 g15 rfl ?_
  refine aw_iload_n 38 dX3_take_37 rfl 2 rfl rfl ?_
  refine aw_iload_n 39 dX3_take_38 rfl 3 rfl rfl ?_
  refine aw_callS (M' := M_X3_place) 42 73 [.int _, .int _] [.ref _] dX3_take_39 lk_RX3_73 ms_X3_place mp_X3_place rfl ⟨leb rfl, leb rfl⟩ rfl (leb rfl) (leb rfl) (leb rfl) rfl (am_X3_place hG h) (kkI fun v17 X16 h => ?_) (kxN KrI.no)
  refine aw_widen (cc' := 0) (ss' := 0) (leb rfl) (leb rfl) ?_
  refine aw_aload_n 43 dX3_take_42 rfl 1 rfl rfl ?_
  obtain ⟨g18, h⟩ := h
  refine aw_getI 46 dX3_take_43 fl_RX3_53 rfl g18 rfl ?_
  refine aw_iconst 47 (v := 1) dX3_take_46 kI_1 rfl ?_
  refine aw_iadd 48 dX3_take_47 rfl ?_
  refine aw_callSN (M' := M_X4_put) 51 65 [.ref _, .int _, .int _] [] dX3_take_48 (by decide) ms_X4_put mp_X4_put rfl ⟨leb rfl, leb rfl⟩ rfl (leb rfl) (leb rfl) (leb rfl) rfl (am_X4_put hG h) (kkV fun X19 h => ?_) KrV.no
  refine aw_widen (cc' := 0) (ss' := 0) (leb rfl) (leb rfl) ?_
  refine aw_aload_n 52 dX3_take_51 rfl 1 rfl rfl ?_
  refine aw_dup 53 dX3_take_52 rfl rfl ?_
  obtain ⟨g20, h⟩ := h
  refine aw_getI 56 dX3_take_53 fl_RX3_56 rfl g20 rfl ?_
  refine aw_iconst 57 (v := 1) dX3_take_56 kI_1 rfl ?_
  refine aw_iadd 58 dX3_take_57 rfl ?_
  refine aw_putI 61 dX3_take_58 fl_RX3_56 rfl rfl rfl rfl g20 rfl ?_
  exact aw_return dX3_take_61 rfl (leb rfl) (leb rfl) ⟨rfl, h⟩)
set_option maxRecDepth 20000 in
theorem am_X4_record {G : GG} (hG : G.1.stackTraces = false) {l0 : Nat} {l1 : Int32} {l2 : Int32} {X : XH} {K : Int32 → XH → Prop} {KX : String → XH → Prop} (h : w_X4_record l0 l1 l2 X K KX) : AM G M_X4_record X [.ref l0, .int l1, .int l2] (KxT (KrI K) KX) := AM_of (by decide +kernel) rfl (leb rfl) hG (by
  show AW G M_X4_record 0 [(0, .ref l0), (1, .int l1), (2, .int l2)] [] X 0 0 _
  unfold w_X4_record at h
  refine aw_aload_n 1 dX4_record_0 rfl 0 rfl rfl ?_
  refine aw_iload_n 2 dX4_record_1 rfl 1 rfl rfl ?_
  refine aw_iload_n 3 dX4_record_2 rfl 2 rfl rfl ?_
  obtain ⟨g2, h⟩ := h
  refine aw_callV (M' := M_X4_checkTranslation) 6 115 4 l0 [.int _, .int _] [] dX4_record_3 lk_RX4_115 mv_X4_checkTranslation mp_X4_checkTranslation rfl ⟨leb rfl, leb rfl⟩ rfl (ltb rfl) g2 rfl (leb rfl) (leb rfl) (leb rfl) rfl (am_X4_checkTranslation hG h) (kkT (kkV fun X1 h => ?_)) (kxT KrV.no fun E X h => at_out rfl (leb rfl) (leb rfl) (Or.inr ⟨_, rfl, h⟩))
  refine aw_widen (cc' := 2) (ss' := 12) (leb rfl) (leb rfl) ?_
  refine aw_aload_n 7 dX4_record_6 rfl 0 rfl rfl ?_
  obtain ⟨g3, h⟩ := h
  obtain ⟨g4, h⟩ := h
  refine aw_getR 10 dX4_record_7 fl_RX4_10 rfl g3 g4 rfl ?_
  refine aw_iload_n 11 dX4_record_10 rfl 1 rfl rfl ?_
  refine aw_iload_n 12 dX4_record_11 rfl 2 rfl rfl ?_
  obtain ⟨g7, h⟩ := h
  refine aw_callV (M' := M_X3_reasonAt) 15 164 3 (hR X1 l0 0) [.int _, .int _] [] dX4_record_12 lk_RX4_164 mv_X3_reasonAt mp_X3_reasonAt rfl ⟨leb rfl, leb rfl⟩ rfl (ltb rfl) g7 rfl (leb rfl) (leb rfl) (leb rfl) rfl (am_X3_reasonAt hG h) (kkI fun v6 X5 h => ?_) (kxN KrI.no)
  refine aw_widen (cc' := 2) (ss' := 12) (leb rfl) (leb rfl) ?_
  refine aw_if_eq 28 18 dX4_record_15 rfl rfl (fun c8 => ?_) (fun c8 => ?_)
  · replace h := h.1 c8
    refine aw_aload_n 29 dX4_record_28 rfl 0 rfl rfl ?_
    obtain ⟨g9, h⟩ := h
    obtain ⟨g10, h⟩ := h
    refine aw_getR 32 dX4_record_29 fl_RX4_19 rfl g9 g10 rfl ?_
    refine aw_aload_n 33 dX4_record_32 rfl 0 rfl rfl ?_
    obtain ⟨g11, h⟩ := h
    refine aw_getR 36 dX4_record_33 fl_RX4_10 rfl g9 g11 rfl ?_
    obtain ⟨g13, h⟩ := h
    refine aw_callV (M' := M_X1_push) 39 67 1 (hR X5 l0 1) [.ref _] [] dX4_record_36 lk_RX4_67 mv_X1_push mp_X1_push rfl ⟨leb rfl, leb rfl⟩ rfl (ltb rfl) g13 rfl (leb rfl) (leb rfl) (leb rfl) rfl (am_X1_push hG h) (kkV fun X12 h => ?_) (kxN KrV.no)
    refine aw_widen (cc' := 2) (ss' := 12) (leb rfl) (leb rfl) ?_
    refine aw_aload_n 40 dX4_record_39 rfl 0 rfl rfl ?_
    obtain ⟨g14, h⟩ := h
    obtain ⟨g15, h⟩ := h
    refine aw_getR 43 dX4_record_40 fl_RX4_10 rfl g14 g15 rfl ?_
    refine aw_iload_n 44 dX4_record_43 rfl 1 rfl rfl ?_
    refine aw_iload_n 45 dX4_record_44 rfl 2 rfl rfl ?_
    obtain ⟨g17, h⟩ := h
    refine aw_callV (M' := M_X3_take) 48 169 3 (hR X12 l0 0) [.int _, .int _] [] dX4_record_45 lk_RX4_169 mv_X3_take mp_X3_take rfl ⟨leb rfl, leb rfl⟩ rfl (ltb rfl) g17 rfl (leb rfl) (leb rfl) (leb rfl) rfl (am_X3_take hG h) (kkV fun X16 h => ?_) (kxN KrV.no)
    refine aw_widen (cc' := 2) (ss' := 12) (leb rfl) (leb rfl) ?_
    refine aw_aload_n 49 dX4_record_48 rfl 0 rfl rfl ?_
    obtain ⟨g18, h⟩ := h
    obtain ⟨g19, h⟩ := h
    refine aw_getR 52 dX4_record_49 fl_RX4_10 rfl g18 g19 rfl ?_
    refine aw_aload_n 53 dX4_record_52 rfl 0 rfl rfl ?_
    refine aw_getR 56 dX4_record_53 fl_RX4_10 rfl g18 g19 rfl ?_
    refine aw_iload_n 57 dX4_record_56 rfl 1 rfl rfl ?_
    obtain ⟨g22, h⟩ := h
    refine aw_callV (M' := M_X3_speakerAt) 60 172 3 (hR X16 l0 0) [.int _] [.ref _] dX4_record_57 lk_RX4_172 mv_X3_speakerAt mp_X3_speakerAt rfl ⟨leb rfl, leb rfl⟩ rfl (ltb rfl) g22 rfl (leb rfl) (leb rfl) (leb rfl) rfl (am_X3_speakerAt hG h) (kkI fun v21 X20 h => ?_) (kxN KrI.no)
    refine aw_widen (cc' := 2) (ss' := 12) (leb rfl) (leb rfl) ?_
    refine aw_iload_n 61 dX4_record_60 rfl 2 rfl rfl ?_
    obtain ⟨g25, h⟩ := h
    refine aw_callV (M' := M_X3_strengthAt) 64 175 3 (hR X16 l0 0) [.int _, .int _] [] dX4_record_61 lk_RX4_175 mv_X3_strengthAt mp_X3_strengthAt rfl ⟨leb rfl, leb rfl⟩ rfl (ltb rfl) g25 rfl (leb rfl) (leb rfl) (leb rfl) rfl (am_X3_strengthAt hG h) (kkI fun v24 X23 h => ?_) (kxN KrI.no)
    refine aw_widen (cc' := 2) (ss' := 12) (leb rfl) (leb rfl) ?_
    exact aw_ireturn (ty := .int) dX4_record_64 rfl rfl (leb rfl) (leb rfl) (Or.inl ⟨_, rfl, h⟩)
  · replace h := h.2 c8
    exact aw_throw xcS 60 167 64 rfl th_xcS (by decide) (Or.inl ⟨dX4_record_18, dX4_record_21, dX4_record_22, dX4_record_24, dX4_record_27⟩) rfl (ltb rfl) (leb rfl) (leb rfl) (leb rfl) (Or.inr ⟨_, rfl, h⟩))
set_option maxRecDepth 20000 in
theorem am_L_record {G : GG} (hG : G.1.stackTraces = false) {l0 : Nat} {l1 : Int32} {l2 : Int32} {l3 : Nat} {X : XH} {K : Int32 → XH → Prop} (h : w_L_record l0 l1 l2 l3 X K) : AM G M_L_record X [.ref l0, .int l1, .int l2, .ref l3] (KrI K) := AM_ofH (by decide +kernel) (0, 10, 13, 13) [(0, 10, 17, 17)] rfl (leb rfl) hG (by
  show AW G M_L_record 0 [(0, .ref l0), (1, .int l1), (2, .int l2), (3, .ref l3)] [] X 0 0 _
  unfold w_L_record at h
  refine aw_aload_n 1 dL_record_0 rfl 3 rfl rfl ?_
  refine aw_iconst 2 (v := 0) dL_record_1 kI_0 rfl ?_
  refine aw_aload_n 3 dL_record_2 rfl 0 rfl rfl ?_
  refine aw_iload_n 4 dL_record_3 rfl 1 rfl rfl ?_
  refine aw_iload_n 5 dL_record_4 rfl 2 rfl rfl ?_
  obtain ⟨g3, h⟩ := h
  refine aw_callV (M' := M_X4_record) 8 41 4 l0 [.int _, .int _] [.int _, .ref _] dL_record_5 lk_RL_41 mv_X4_record mp_X4_record rfl ⟨leb rfl, leb rfl⟩ rfl (ltb rfl) g3 rfl (leb rfl) (leb rfl) (leb rfl) rfl (am_X4_record hG h) (kkT (kkI fun v2 X1 h => ?_)) (kxT KrI.no fun E X1 h => ?_)
  · refine aw_widen (cc' := 3) (ss' := 18) (leb rfl) (leb rfl) ?_
    refine aw_i2l 9 dL_record_8 rfl ?_
    obtain ⟨g4, h⟩ := h
    obtain ⟨g5, h⟩ := h
    refine aw_lastore 10 dL_record_9 g4 g5 rfl ?_
    refine aw_goto 21 dL_record_10 rfl ?_
    refine aw_iconst 22 (v := 0) dL_record_21 kI_0 rfl ?_
    exact aw_ireturn (ty := .int) dL_record_22 rfl rfl (leb rfl) (leb rfl) ⟨_, rfl, h⟩
  · obtain ⟨hE, h⟩ := h
    rcases hE with rfl | rfl
    · refine aw_atc (lv' := [(0, .ref _), (1, .int _), (2, .int _), (3, .ref _)]) [] (0, 10, 13, 13) [(0, 10, 17, 17)] rfl (fun z hz => nomatch hz) (by decide) (by decide) (tk3 (i := 61) (by decide +kernel) rfl) (by decide) 4 2 15 (Or.inr ⟨dL_record_13, rfl⟩) (ltb rfl) rfl ?_
      refine aw_widen (cc' := 3) (ss' := 18) (leb rfl) (leb rfl) ?_
      replace h := h.1 rfl
      refine aw_iconst 16 (v := 1) dL_record_15 kI_1 rfl ?_
      exact aw_ireturn (ty := .int) dL_record_16 rfl rfl (leb rfl) (leb rfl) ⟨_, rfl, h⟩
    · refine aw_atc (lv' := [(0, .ref _), (1, .int _), (2, .int _), (3, .ref _)]) [(0, 10, 13, 13)] (0, 10, 17, 17) [] rfl (by intro z hz; simp only [List.mem_cons, List.not_mem_nil, or_false] at hz; rcases hz with rfl <;> first | exact ⟨by decide, xcI, tk3 (i := 61) (by decide +kernel) rfl, by decide⟩) (by decide) (by decide) (tk3 (i := 63) (by decide +kernel) rfl) (by decide) 4 2 19 (Or.inr ⟨dL_record_17, rfl⟩) (ltb rfl) rfl ?_
      refine aw_widen (cc' := 3) (ss' := 18) (leb rfl) (leb rfl) ?_
      replace h := h.2 rfl
      refine aw_iconst 20 (v := 2) dL_record_19 kI_2 rfl ?_
      exact aw_ireturn (ty := .int) dL_record_20 rfl rfl (leb rfl) (leb rfl) ⟨_, rfl, h⟩)
set_option maxRecDepth 20000 in
theorem am_X5_fitting {G : GG} (hG : G.1.stackTraces = false) {l0 : Nat} {l1 : Int32} {l2 : Int32} {X : XH} {K : Int32 → XH → Prop} (h : w_X5_fitting l0 l1 l2 X K) : AM G M_X5_fitting X [.ref l0, .int l1, .int l2] (KrI K) := AM_of (by decide +kernel) rfl (leb rfl) hG (by
  show AW G M_X5_fitting 0 [(0, .ref l0), (1, .int l1), (2, .int l2)] [] X 0 0 _
  unfold w_X5_fitting at h
  refine aw_aload_n 1 dX5_fitting_0 rfl 0 rfl rfl ?_
  refine aw_iload_n 2 dX5_fitting_1 rfl 1 rfl rfl ?_
  refine aw_iload_n 3 dX5_fitting_2 rfl 2 rfl rfl ?_
  obtain ⟨g3, h⟩ := h
  refine aw_callV (M' := M_X5_frames) 6 48 5 l0 [.int _, .int _] [] dX5_fitting_3 lk_RX5_48 mv_X5_frames mp_X5_frames rfl ⟨leb rfl, leb rfl⟩ rfl (ltb rfl) g3 rfl (leb rfl) (leb rfl) (leb rfl) rfl (am_X5_frames hG h) (kkI fun v2 X1 h => ?_) (kxN KrI.no)
  refine aw_widen (cc' := 0) (ss' := 0) (leb rfl) (leb rfl) ?_
  refine aw_if_le 32 9 dX5_fitting_6 rfl rfl (fun c4 => ?_) (fun c4 => ?_)
  · replace h := h.1 c4
    refine aw_iconst 33 (v := 0) dX5_fitting_32 kI_0 rfl ?_
    exact aw_ireturn (ty := .boolean) dX5_fitting_33 rfl rfl (leb rfl) (leb rfl) ⟨_, rfl, h⟩
  · replace h := h.2 c4
    refine aw_aload_n 10 dX5_fitting_9 rfl 0 rfl rfl ?_
    refine aw_iload_n 11 dX5_fitting_10 rfl 1 rfl rfl ?_
    refine aw_iload_n 12 dX5_fitting_11 rfl 2 rfl rfl ?_
    obtain ⟨g7, h⟩ := h
    refine aw_callV (M' := M_X5_both) 15 59 5 l0 [.int _, .int _] [] dX5_fitting_12 lk_RX5_59 mv_X5_both mp_X5_both rfl ⟨leb rfl, leb rfl⟩ rfl (ltb rfl) g7 rfl (leb rfl) (leb rfl) (leb rfl) rfl (am_X5_both hG h) (kkI fun v6 X5 h => ?_) (kxN KrI.no)
    refine aw_widen (cc' := 0) (ss' := 0) (leb rfl) (leb rfl) ?_
    refine aw_aload_n 16 dX5_fitting_15 rfl 0 rfl rfl ?_
    obtain ⟨g8, h⟩ := h
    obtain ⟨g9, h⟩ := h
    refine aw_getR 19 dX5_fitting_16 fl_RX5_7 rfl g8 g9 rfl ?_
    refine aw_iload_n 20 dX5_fitting_19 rfl 1 rfl rfl ?_
    refine aw_iconst 21 (v := 2) dX5_fitting_20 kI_2 rfl ?_
    refine aw_callS (M' := M_X5_at) 24 44 [.int _, .int _] [.ref _, .int _] dX5_fitting_21 lk_RX5_44 ms_X5_at mp_X5_at rfl ⟨leb rfl, leb rfl⟩ rfl (leb rfl) (leb rfl) (leb rfl) rfl (am_X5_at hG h) (kkI fun v11 X10 h => ?_) (kxN KrI.no)
    refine aw_widen (cc' := 0) (ss' := 0) (leb rfl) (leb rfl) ?_
    obtain ⟨g12, h⟩ := h
    obtain ⟨g13, h⟩ := h
    refine aw_iaload 25 dX5_fitting_24 g12 g13 rfl ?_
    refine aw_icmp_gt 32 28 dX5_fitting_25 rfl rfl (fun c14 => ?_) (fun c14 => ?_)
    · replace h := h.1 c14
      refine aw_iconst 33 (v := 0) dX5_fitting_32 kI_0 rfl ?_
      exact aw_ireturn (ty := .boolean) dX5_fitting_33 rfl rfl (leb rfl) (leb rfl) ⟨_, rfl, h⟩
    · replace h := h.2 c14
      refine aw_iconst 29 (v := 1) dX5_fitting_28 kI_1 rfl ?_
      refine aw_goto 33 dX5_fitting_29 rfl ?_
      exact aw_ireturn (ty := .boolean) dX5_fitting_33 rfl rfl (leb rfl) (leb rfl) ⟨_, rfl, h⟩)
set_option maxRecDepth 20000 in
theorem am_X5_left {G : GG} (hG : G.1.stackTraces = false) {l0 : Nat} {l1 : Int32} {l2 : Int32} {X : XH} {K : Int32 → XH → Prop} (h : w_X5_left l0 l1 l2 X K) : AM G M_X5_left X [.ref l0, .int l1, .int l2] (KrI K) := AM_of (by decide +kernel) rfl (leb rfl) hG (by
  show AW G M_X5_left 0 [(0, .ref l0), (1, .int l1), (2, .int l2)] [] X 0 0 _
  unfold w_X5_left at h
  refine aw_aload_n 1 dX5_left_0 rfl 0 rfl rfl ?_
  obtain ⟨g1, h⟩ := h
  obtain ⟨g2, h⟩ := h
  refine aw_getR 4 dX5_left_1 fl_RX5_7 rfl g1 g2 rfl ?_
  refine aw_sipush 7 (v := 312) dX5_left_4 kS_312 rfl ?_
  refine aw_iconst 8 (v := 3) dX5_left_7 kI_3 rfl ?_
  refine aw_iload_n 9 dX5_left_8 rfl 1 rfl rfl ?_
  refine aw_imul 10 dX5_left_9 rfl ?_
  refine aw_iadd 11 dX5_left_10 rfl ?_
  refine aw_iload_n 12 dX5_left_11 rfl 2 rfl rfl ?_
  refine aw_iadd 13 dX5_left_12 rfl ?_
  obtain ⟨g3, h⟩ := h
  obtain ⟨g4, h⟩ := h
  refine aw_iaload 14 dX5_left_13 g3 g4 rfl ?_
  refine aw_aload_n 15 dX5_left_14 rfl 0 rfl rfl ?_
  refine aw_getR 18 dX5_left_15 fl_RX5_7 rfl g1 g2 rfl ?_
  refine aw_sipush 21 (v := 327) dX5_left_18 kS_327 rfl ?_
  refine aw_iconst 22 (v := 3) dX5_left_21 kI_3 rfl ?_
  refine aw_iload_n 23 dX5_left_22 rfl 1 rfl rfl ?_
  refine aw_imul 24 dX5_left_23 rfl ?_
  refine aw_iadd 25 dX5_left_24 rfl ?_
  refine aw_iload_n 26 dX5_left_25 rfl 2 rfl rfl ?_
  refine aw_iadd 27 dX5_left_26 rfl ?_
  obtain ⟨g5, h⟩ := h
  refine aw_iaload 28 dX5_left_27 g3 g5 rfl ?_
  refine aw_isub 29 dX5_left_28 rfl ?_
  exact aw_ireturn (ty := .int) dX5_left_29 rfl rfl (leb rfl) (leb rfl) ⟨_, rfl, h⟩)
set_option maxRecDepth 20000 in
theorem am_X5_reason {G : GG} (hG : G.1.stackTraces = false) {l0 : Nat} {l1 : Int32} {l2 : Int32} {X : XH} {K : Int32 → XH → Prop} (h : w_X5_reason l0 l1 l2 X K) : AM G M_X5_reason X [.ref l0, .int l1, .int l2] (KrI K) := AM_of (by decide +kernel) rfl (leb rfl) hG (by
  show AW G M_X5_reason 0 [(0, .ref l0), (1, .int l1), (2, .int l2)] [] X 0 0 _
  unfold w_X5_reason at h
  refine aw_aload_n 1 dX5_reason_0 rfl 0 rfl rfl ?_
  refine aw_iload_n 2 dX5_reason_1 rfl 1 rfl rfl ?_
  refine aw_iload_n 3 dX5_reason_2 rfl 2 rfl rfl ?_
  obtain ⟨g3, h⟩ := h
  refine aw_callV (M' := M_X5_frames) 6 48 5 l0 [.int _, .int _] [] dX5_reason_3 lk_RX5_48 mv_X5_frames mp_X5_frames rfl ⟨leb rfl, leb rfl⟩ rfl (ltb rfl) g3 rfl (leb rfl) (leb rfl) (leb rfl) rfl (am_X5_frames hG h) (kkI fun v2 X1 h => ?_) (kxN KrI.no)
  refine aw_widen (cc' := 0) (ss' := 0) (leb rfl) (leb rfl) ?_
  refine aw_if_ne 13 9 dX5_reason_6 rfl rfl (fun c4 => ?_) (fun c4 => ?_)
  · replace h := h.1 c4
    refine aw_aload_n 14 dX5_reason_13 rfl 0 rfl rfl ?_
    refine aw_iload_n 15 dX5_reason_14 rfl 1 rfl rfl ?_
    refine aw_iload_n 16 dX5_reason_15 rfl 2 rfl rfl ?_
    obtain ⟨g7, h⟩ := h
    refine aw_callV (M' := M_X5_isTaken) 19 51 5 l0 [.int _, .int _] [] dX5_reason_16 lk_RX5_51 mv_X5_isTaken mp_X5_isTaken rfl ⟨leb rfl, leb rfl⟩ rfl (ltb rfl) g7 rfl (leb rfl) (leb rfl) (leb rfl) rfl (am_X5_isTaken hG h) (kkI fun v6 X5 h => ?_) (kxN KrI.no)
    refine aw_widen (cc' := 0) (ss' := 0) (leb rfl) (leb rfl) ?_
    refine aw_if_eq 26 22 dX5_reason_19 rfl rfl (fun c8 => ?_) (fun c8 => ?_)
    · replace h := h.1 c8
      refine aw_aload_n 27 dX5_reason_26 rfl 0 rfl rfl ?_
      refine aw_iload_n 28 dX5_reason_27 rfl 1 rfl rfl ?_
      refine aw_iload_n 29 dX5_reason_28 rfl 2 rfl rfl ?_
      obtain ⟨g11, h⟩ := h
      refine aw_callV (M' := M_X5_fitting) 32 62 5 l0 [.int _, .int _] [] dX5_reason_29 lk_RX5_62 mv_X5_fitting mp_X5_fitting rfl ⟨leb rfl, leb rfl⟩ rfl (ltb rfl) g11 rfl (leb rfl) (leb rfl) (leb rfl) rfl (am_X5_fitting hG h) (kkI fun v10 X9 h => ?_) (kxN KrI.no)
      refine aw_widen (cc' := 0) (ss' := 0) (leb rfl) (leb rfl) ?_
      refine aw_if_ne 39 35 dX5_reason_32 rfl rfl (fun c12 => ?_) (fun c12 => ?_)
      · replace h := h.1 c12
        refine aw_aload_n 40 dX5_reason_39 rfl 0 rfl rfl ?_
        refine aw_aload_n 41 dX5_reason_40 rfl 0 rfl rfl ?_
        obtain ⟨g13, h⟩ := h
        obtain ⟨g14, h⟩ := h
        refine aw_getR 44 dX5_reason_41 fl_RX5_7 rfl g13 g14 rfl ?_
        refine aw_iload_n 45 dX5_reason_44 rfl 1 rfl rfl ?_
        refine aw_iconst 46 (v := 1) dX5_reason_45 kI_1 rfl ?_
        refine aw_callS (M' := M_X5_at) 49 44 [.int _, .int _] [.ref _, .ref _] dX5_reason_46 lk_RX5_44 ms_X5_at mp_X5_at rfl ⟨leb rfl, leb rfl⟩ rfl (leb rfl) (leb rfl) (leb rfl) rfl (am_X5_at hG h) (kkI fun v16 X15 h => ?_) (kxN KrI.no)
        refine aw_widen (cc' := 0) (ss' := 0) (leb rfl) (leb rfl) ?_
        obtain ⟨g17, h⟩ := h
        obtain ⟨g18, h⟩ := h
        refine aw_iaload 50 dX5_reason_49 g17 g18 rfl ?_
        refine aw_iload_n 51 dX5_reason_50 rfl 2 rfl rfl ?_
        obtain ⟨g21, h⟩ := h
        refine aw_callV (M' := M_X5_left) 54 65 5 l0 [.int _, .int _] [] dX5_reason_51 lk_RX5_65 mv_X5_left mp_X5_left rfl ⟨leb rfl, leb rfl⟩ rfl (ltb rfl) g21 rfl (leb rfl) (leb rfl) (leb rfl) rfl (am_X5_left hG h) (kkI fun v20 X19 h => ?_) (kxN KrI.no)
        refine aw_widen (cc' := 0) (ss' := 0) (leb rfl) (leb rfl) ?_
        refine aw_aload_n 55 dX5_reason_54 rfl 0 rfl rfl ?_
        refine aw_iload_n 56 dX5_reason_55 rfl 1 rfl rfl ?_
        refine aw_iload_n 57 dX5_reason_56 rfl 2 rfl rfl ?_
        obtain ⟨g24, h⟩ := h
        refine aw_callV (M' := M_X5_both) 60 59 5 l0 [.int _, .int _] [.int _] dX5_reason_57 lk_RX5_59 mv_X5_both mp_X5_both rfl ⟨leb rfl, leb rfl⟩ rfl (ltb rfl) g24 rfl (leb rfl) (leb rfl) (leb rfl) rfl (am_X5_both hG h) (kkI fun v23 X22 h => ?_) (kxN KrI.no)
        refine aw_widen (cc' := 0) (ss' := 0) (leb rfl) (leb rfl) ?_
        refine aw_icmp_ge 67 63 dX5_reason_60 rfl rfl (fun c25 => ?_) (fun c25 => ?_)
        · replace h := h.1 c25
          refine aw_iconst 68 (v := 0) dX5_reason_67 kI_0 rfl ?_
          exact aw_ireturn (ty := .int) dX5_reason_68 rfl rfl (leb rfl) (leb rfl) ⟨_, rfl, h⟩
        · replace h := h.2 c25
          refine aw_iconst 64 (v := 4) dX5_reason_63 kI_4 rfl ?_
          refine aw_goto 68 dX5_reason_64 rfl ?_
          exact aw_ireturn (ty := .int) dX5_reason_68 rfl rfl (leb rfl) (leb rfl) ⟨_, rfl, h⟩
      · replace h := h.2 c12
        refine aw_iconst 36 (v := 3) dX5_reason_35 kI_3 rfl ?_
        refine aw_goto 68 dX5_reason_36 rfl ?_
        exact aw_ireturn (ty := .int) dX5_reason_68 rfl rfl (leb rfl) (leb rfl) ⟨_, rfl, h⟩
    · replace h := h.2 c8
      refine aw_iconst 23 (v := 2) dX5_reason_22 kI_2 rfl ?_
      refine aw_goto 68 dX5_reason_23 rfl ?_
      exact aw_ireturn (ty := .int) dX5_reason_68 rfl rfl (leb rfl) (leb rfl) ⟨_, rfl, h⟩
  · replace h := h.2 c4
    refine aw_iconst 10 (v := 1) dX5_reason_9 kI_1 rfl ?_
    refine aw_goto 68 dX5_reason_10 rfl ?_
    exact aw_ireturn (ty := .int) dX5_reason_68 rfl rfl (leb rfl) (leb rfl) ⟨_, rfl, h⟩)
set_option maxRecDepth 20000 in
theorem aw_X5_record_28 {G : GG} (hG : G.1.stackTraces = false)  {l0 : Nat} {l1 : Int32} {l2 : Int32} {s0 : Nat} {s1 : Int32} {X : XH} {K : Int32 → XH → Prop}  (h : w_X5_record_28  l0 l1 l2 s0 s1 X K) : AW G M_X5_record 28 [(0, .ref l0), (1, .int l1), (2, .int l2)] [.int s1, .ref s0] X 0 0 (KrI K) := by
  unfold w_X5_record_28 at h
  obtain ⟨g3, h⟩ := h
  refine aw_callV (M' := M_X5_refused) 31 81 5 s0 [.int _] [] dX5_record_28 lk_RX5_81 mv_X5_refused mp_X5_refused rfl ⟨leb rfl, leb rfl⟩ rfl (ltb rfl) g3 rfl (leb rfl) (leb rfl) (leb rfl) rfl (am_X5_refused hG h) (kkI fun v2 X1 h => ?_) (kxN KrI.no)
  refine aw_widen (cc' := 0) (ss' := 0) (leb rfl) (leb rfl) ?_
  refine aw_if_eq 36 34 dX5_record_31 rfl rfl (fun c4 => ?_) (fun c4 => ?_)
  · replace h := h.1 c4
    refine aw_aload_n 37 dX5_record_36 rfl 0 rfl rfl ?_
    obtain ⟨g6, h⟩ := h
    refine aw_callV (M' := M_X5_saves) 40 84 5 l0 [] [] dX5_record_37 lk_RX5_84 mv_X5_saves mp_X5_saves rfl ⟨leb rfl, leb rfl⟩ rfl (ltb rfl) g6 rfl (leb rfl) (leb rfl) (leb rfl) rfl (am_X5_saves hG h) (kkV fun X5 h => ?_) (kxN KrV.no)
    refine aw_widen (cc' := 0) (ss' := 0) (leb rfl) (leb rfl) ?_
    refine aw_aload_n 41 dX5_record_40 rfl 0 rfl rfl ?_
    obtain ⟨g7, h⟩ := h
    obtain ⟨g8, h⟩ := h
    refine aw_getR 44 dX5_record_41 fl_RX5_7 rfl g7 g8 rfl ?_
    refine aw_iload_n 45 dX5_record_44 rfl 1 rfl rfl ?_
    refine aw_iconst 46 (v := 1) dX5_record_45 kI_1 rfl ?_
    refine aw_callS (M' := M_X5_at) 49 44 [.int _, .int _] [.ref _] dX5_record_46 lk_RX5_44 ms_X5_at mp_X5_at rfl ⟨leb rfl, leb rfl⟩ rfl (leb rfl) (leb rfl) (leb rfl) rfl (am_X5_at hG h) (kkI fun v10 X9 h => ?_) (kxN KrI.no)
    refine aw_widen (cc' := 0) (ss' := 0) (leb rfl) (leb rfl) ?_
    obtain ⟨g11, h⟩ := h
    obtain ⟨g12, h⟩ := h
    refine aw_iaload 50 dX5_record_49 g11 g12 rfl ?_
    refine aw_istore_n 51 (lv' := [(3, _), (0, _), (1, _), (2, _)]) dX5_record_50 rfl (ltb rfl) rfl rfl ?_
    refine aw_aload_n 52 dX5_record_51 rfl 1 rfl rfl ?_
    obtain ⟨g13, h⟩ := h
    obtain ⟨g14, h⟩ := h
    refine aw_getR 55 dX5_record_52 fl_RX5_7 rfl g13 g14 rfl ?_
    refine aw_sipush 58 (v := 327) dX5_record_55 kS_327 rfl ?_
    refine aw_iconst 59 (v := 3) dX5_record_58 kI_3 rfl ?_
    refine aw_iload_n 60 dX5_record_59 rfl 0 rfl rfl ?_
    refine aw_imul 61 dX5_record_60 rfl ?_
    refine aw_iadd 62 dX5_record_61 rfl ?_
    refine aw_iload_n 63 dX5_record_62 rfl 3 rfl rfl ?_
    refine aw_iadd 64 dX5_record_63 rfl ?_
    refine aw_dup2 65 dX5_record_64 rfl rfl rfl ?_
    obtain ⟨g15, h⟩ := h
    obtain ⟨g16, h⟩ := h
    refine aw_iaload 66 dX5_record_65 g15 g16 rfl ?_
    refine aw_aload_n 67 dX5_record_66 rfl 1 rfl rfl ?_
    refine aw_iload_n 68 dX5_record_67 rfl 2 rfl rfl ?_
    refine aw_iload_n 69 dX5_record_68 rfl 3 rfl rfl ?_
    refine aw_callV (M' := M_X5_both) 72 59 5 l0 [.int _, .int _] [.int _, .int _, .ref _] dX5_record_69 lk_RX5_59 mv_X5_both mp_X5_both rfl ⟨leb rfl, leb rfl⟩ rfl (ltb rfl) g13 rfl (leb rfl) (leb rfl) (leb rfl) rfl (am_X5_both hG h) (kkI fun v18 X17 h => ?_) (kxN KrI.no)
    refine aw_widen (cc' := 0) (ss' := 0) (leb rfl) (leb rfl) ?_
    refine aw_iadd 73 dX5_record_72 rfl ?_
    obtain ⟨g19, h⟩ := h
    obtain ⟨g20, h⟩ := h
    refine aw_iastore 74 dX5_record_73 g19 g20 rfl ?_
    refine aw_aload_n 75 dX5_record_74 rfl 1 rfl rfl ?_
    obtain ⟨g21, h⟩ := h
    obtain ⟨g22, h⟩ := h
    refine aw_getR 78 dX5_record_75 fl_RX5_7 rfl g21 g22 rfl ?_
    refine aw_iload_n 79 dX5_record_78 rfl 2 rfl rfl ?_
    refine aw_bipush 81 (v := 10) dX5_record_79 kB_10 rfl ?_
    refine aw_iload_n 82 dX5_record_81 rfl 3 rfl rfl ?_
    refine aw_iadd 83 dX5_record_82 rfl ?_
    refine aw_callS (M' := M_X5_at) 86 44 [.int _, .int _] [.ref _] dX5_record_83 lk_RX5_44 ms_X5_at mp_X5_at rfl ⟨leb rfl, leb rfl⟩ rfl (leb rfl) (leb rfl) (leb rfl) rfl (am_X5_at hG h) (kkI fun v24 X23 h => ?_) (kxN KrI.no)
    refine aw_widen (cc' := 0) (ss' := 0) (leb rfl) (leb rfl) ?_
    refine aw_aload_n 87 dX5_record_86 rfl 1 rfl rfl ?_
    obtain ⟨g25, h⟩ := h
    obtain ⟨g26, h⟩ := h
    refine aw_getR 90 dX5_record_87 fl_RX5_7 rfl g25 g26 rfl ?_
    refine aw_sipush 93 (v := 367) dX5_record_90 kS_367 rfl ?_
    obtain ⟨g27, h⟩ := h
    obtain ⟨g28, h⟩ := h
    refine aw_iaload 94 dX5_record_93 g27 g28 rfl ?_
    refine aw_iconst 95 (v := 1) dX5_record_94 kI_1 rfl ?_
    refine aw_iadd 96 dX5_record_95 rfl ?_
    obtain ⟨g29, h⟩ := h
    obtain ⟨g30, h⟩ := h
    refine aw_iastore 97 dX5_record_96 g29 g30 rfl ?_
    refine aw_aload_n 98 dX5_record_97 rfl 1 rfl rfl ?_
    refine aw_getR 101 dX5_record_98 fl_RX5_7 rfl g25 g26 rfl ?_
    refine aw_sipush 104 (v := 368) dX5_record_101 kS_368 rfl ?_
    refine aw_dup2 105 dX5_record_104 rfl rfl rfl ?_
    obtain ⟨g31, h⟩ := h
    refine aw_iaload 106 dX5_record_105 g27 g31 rfl ?_
    refine aw_iconst 107 (v := 1) dX5_record_106 kI_1 rfl ?_
    refine aw_iadd 108 dX5_record_107 rfl ?_
    refine aw_iastore 109 dX5_record_108 g27 g31 rfl ?_
    refine aw_aload_n 110 dX5_record_109 rfl 1 rfl rfl ?_
    refine aw_iload_n 111 dX5_record_110 rfl 0 rfl rfl ?_
    refine aw_iload_n 112 dX5_record_111 rfl 3 rfl rfl ?_
    refine aw_callV (M' := M_X5_left) 115 65 5 l0 [.int _, .int _] [] dX5_record_112 lk_RX5_65 mv_X5_left mp_X5_left rfl ⟨leb rfl, leb rfl⟩ rfl (ltb rfl) g25 rfl (leb rfl) (leb rfl) (leb rfl) rfl (am_X5_left hG h) (kkI fun v33 X32 h => ?_) (kxN KrI.no)
    refine aw_widen (cc' := 0) (ss' := 0) (leb rfl) (leb rfl) ?_
    exact aw_ireturn (ty := .int) dX5_record_115 rfl rfl (leb rfl) (leb rfl) ⟨_, rfl, h⟩
  · replace h := h.2 c4
    refine aw_iconst 35 (v := 0) dX5_record_34 kI_0 rfl ?_
    exact aw_ireturn (ty := .int) dX5_record_35 rfl rfl (leb rfl) (leb rfl) ⟨_, rfl, h⟩
set_option maxRecDepth 20000 in
theorem am_X5_record {G : GG} (hG : G.1.stackTraces = false) {l0 : Nat} {l1 : Int32} {l2 : Int32} {X : XH} {K : Int32 → XH → Prop} (h : w_X5_record l0 l1 l2 X K) : AM G M_X5_record X [.ref l0, .int l1, .int l2] (KrI K) := AM_of (by decide +kernel) rfl (leb rfl) hG (by
  show AW G M_X5_record 0 [(0, .ref l0), (1, .int l1), (2, .int l2)] [] X 0 0 _
  unfold w_X5_record at h
  refine aw_aload_n 1 dX5_record_0 rfl 0 rfl rfl ?_
  refine aw_aload_n 2 dX5_record_1 rfl 0 rfl rfl ?_
  refine aw_iload_n 3 dX5_record_2 rfl 1 rfl rfl ?_
  refine aw_iload_n 4 dX5_record_3 rfl 2 rfl rfl ?_
  obtain ⟨g3, h⟩ := h
  refine aw_callV (M' := M_X5_are) 7 97 5 l0 [.int _, .int _] [.ref _] dX5_record_4 lk_RX5_97 mv_X5_are mp_X5_are rfl ⟨leb rfl, leb rfl⟩ rfl (ltb rfl) g3 rfl (leb rfl) (leb rfl) (leb rfl) rfl (am_X5_are hG h) (kkI fun v2 X1 h => ?_) (kxN KrI.no)
  refine aw_widen (cc' := 0) (ss' := 0) (leb rfl) (leb rfl) ?_
  refine aw_if_ne 14 10 dX5_record_7 rfl rfl (fun c4 => ?_) (fun c4 => ?_)
  · replace h := h.1 c4
    refine aw_aload_n 15 dX5_record_14 rfl 0 rfl rfl ?_
    refine aw_iload_n 16 dX5_record_15 rfl 1 rfl rfl ?_
    refine aw_iload_n 17 dX5_record_16 rfl 2 rfl rfl ?_
    obtain ⟨g7, h⟩ := h
    refine aw_callV (M' := M_X5_reason) 20 68 5 l0 [.int _, .int _] [.ref _] dX5_record_17 lk_RX5_68 mv_X5_reason mp_X5_reason rfl ⟨leb rfl, leb rfl⟩ rfl (ltb rfl) g7 rfl (leb rfl) (leb rfl) (leb rfl) rfl (am_X5_reason hG h) (kkI fun v6 X5 h => ?_) (kxN KrI.no)
    refine aw_widen (cc' := 0) (ss' := 0) (leb rfl) (leb rfl) ?_
    refine aw_if_le 27 23 dX5_record_20 rfl rfl (fun c8 => ?_) (fun c8 => ?_)
    · replace h := h.1 c8
      refine aw_iconst 28 (v := 0) dX5_record_27 kI_0 rfl ?_
      exact aw_pick [0, 1, 2] rfl (aw_X5_record_28 hG  h)
    · replace h := h.2 c8
      refine aw_iconst 24 (v := 2) dX5_record_23 kI_2 rfl ?_
      refine aw_goto 28 dX5_record_24 rfl ?_
      exact aw_pick [0, 1, 2] rfl (aw_X5_record_28 hG  h)
  · replace h := h.2 c4
    refine aw_iconst 11 (v := 1) dX5_record_10 kI_1 rfl ?_
    refine aw_goto 28 dX5_record_11 rfl ?_
    exact aw_pick [0, 1, 2] rfl (aw_X5_record_28 hG  h))
set_option maxRecDepth 20000 in
theorem am_X4_checkTaken {G : GG} (hG : G.1.stackTraces = false) {l0 : Nat} {l1 : Int32} {l2 : Int32} {X : XH} {K : XH → Prop} {KX : String → XH → Prop} (h : w_X4_checkTaken l0 l1 l2 X K KX) : AM G M_X4_checkTaken X [.ref l0, .int l1, .int l2] (KxT (KrV K) KX) := AM_of (by decide +kernel) rfl (leb rfl) hG (by
  show AW G M_X4_checkTaken 0 [(0, .ref l0), (1, .int l1), (2, .int l2)] [] X 0 0 _
  unfold w_X4_checkTaken at h
  refine aw_aload_n 1 dX4_checkTaken_0 rfl 0 rfl rfl ?_
  obtain ⟨g1, h⟩ := h
  obtain ⟨g2, h⟩ := h
  refine aw_getR 4 dX4_checkTaken_1 fl_RX4_10 rfl g1 g2 rfl ?_
  refine aw_iload_n 5 dX4_checkTaken_4 rfl 1 rfl rfl ?_
  refine aw_iload_n 6 dX4_checkTaken_5 rfl 2 rfl rfl ?_
  obtain ⟨g5, h⟩ := h
  refine aw_callV (M' := M_X3_isTaken) 9 119 3 (hR X l0 0) [.int _, .int _] [] dX4_checkTaken_6 lk_RX4_119 mv_X3_isTaken mp_X3_isTaken rfl ⟨leb rfl, leb rfl⟩ rfl (ltb rfl) g5 rfl (leb rfl) (leb rfl) (leb rfl) rfl (am_X3_isTaken hG h) (kkI fun v4 X3 h => ?_) (kxN KrI.no)
  refine aw_widen (cc' := 0) (ss' := 0) (leb rfl) (leb rfl) ?_
  refine aw_if_ne 23 12 dX4_checkTaken_9 rfl rfl (fun c6 => ?_) (fun c6 => ?_)
  · replace h := h.1 c6
    exact aw_return dX4_checkTaken_23 rfl (leb rfl) (leb rfl) (Or.inl ⟨rfl, h⟩)
  · replace h := h.2 c6
    exact aw_throw xcS 60 436 64 rfl th_xcS (by decide) (Or.inr ⟨dX4_checkTaken_12, dX4_checkTaken_15, dX4_checkTaken_16, dX4_checkTaken_19, dX4_checkTaken_22⟩) rfl (ltb rfl) (leb rfl) (leb rfl) (leb rfl) (Or.inr ⟨_, rfl, h⟩))
set_option maxRecDepth 20000 in
theorem am_X3_takenIn {G : GG} (hG : G.1.stackTraces = false) {l0 : Nat} {l1 : Int32} {l2 : Int32} {X : XH} {K : Int32 → XH → Prop} (h : w_X3_takenIn l0 l1 l2 X K) : AM G M_X3_takenIn X [.ref l0, .int l1, .int l2] (KrI K) := AM_of (by decide +kernel) rfl (leb rfl) hG (by
  show AW G M_X3_takenIn 0 [(0, .ref l0), (1, .int l1), (2, .int l2)] [] X 0 0 _
  unfold w_X3_takenIn at h
  refine aw_aload_n 1 dX3_takenIn_0 rfl 0 rfl rfl ?_
  obtain ⟨g1, h⟩ := h
  obtain ⟨g2, h⟩ := h
  refine aw_getR 4 dX3_takenIn_1 fl_RX3_30 rfl g1 g2 rfl ?_
  refine aw_iload_n 5 dX3_takenIn_4 rfl 1 rfl rfl ?_
  refine aw_iload_n 6 dX3_takenIn_5 rfl 2 rfl rfl ?_
  refine aw_callS (M' := M_X3_place) 9 73 [.int _, .int _] [.ref _] dX3_takenIn_6 lk_RX3_73 ms_X3_place mp_X3_place rfl ⟨leb rfl, leb rfl⟩ rfl (leb rfl) (leb rfl) (leb rfl) rfl (am_X3_place hG h) (kkI fun v4 X3 h => ?_) (kxN KrI.no)
  refine aw_widen (cc' := 0) (ss' := 0) (leb rfl) (leb rfl) ?_
  refine aw_callSN (M' := M_X4_at) 12 81 [.ref _, .int _] [] dX3_takenIn_9 (by decide) ms_X4_at mp_X4_at rfl ⟨leb rfl, leb rfl⟩ rfl (leb rfl) (leb rfl) (leb rfl) rfl (am_X4_at hG h) (kkI fun v6 X5 h => ?_) KrI.no
  refine aw_widen (cc' := 0) (ss' := 0) (leb rfl) (leb rfl) ?_
  refine aw_iconst 13 (v := 1) dX3_takenIn_12 kI_1 rfl ?_
  refine aw_isub 14 dX3_takenIn_13 rfl ?_
  exact aw_ireturn (ty := .int) dX3_takenIn_14 rfl rfl (leb rfl) (leb rfl) ⟨_, rfl, h⟩)
set_option maxRecDepth 20000 in
theorem am_X3_dropTaken {G : GG} (hG : G.1.stackTraces = false) {l0 : Nat} {l1 : Int32} {l2 : Int32} {X : XH} {K : XH → Prop} (h : w_X3_dropTaken l0 l1 l2 X K) : AM G M_X3_dropTaken X [.ref l0, .int l1, .int l2] (KrV K) := AM_of (by decide +kernel) rfl (leb rfl) hG (by
  show AW G M_X3_dropTaken 0 [(0, .ref l0), (1, .int l1), (2, .int l2)] [] X 0 0 _
  unfold w_X3_dropTaken at h
  refine aw_aload_n 1 dX3_dropTaken_0 rfl 0 rfl rfl ?_
  obtain ⟨g1, h⟩ := h
  obtain ⟨g2, h⟩ := h
  refine aw_getR 4 dX3_dropTaken_1 fl_RX3_30 rfl g1 g2 rfl ?_
  refine aw_iload_n 5 dX3_dropTaken_4 rfl 1 rfl rfl ?_
  refine aw_iload_n 6 dX3_dropTaken_5 rfl 2 rfl rfl ?_
  refine aw_callS (M' := M_X3_place) 9 73 [.int _, .int _] [.ref _] dX3_dropTaken_6 lk_RX3_73 ms_X3_place mp_X3_place rfl ⟨leb rfl, leb rfl⟩ rfl (leb rfl) (leb rfl) (leb rfl) rfl (am_X3_place hG h) (kkI fun v4 X3 h => ?_) (kxN KrI.no)
  refine aw_widen (cc' := 0) (ss' := 0) (leb rfl) (leb rfl) ?_
  refine aw_iconst 10 (v := 0) dX3_dropTaken_9 kI_0 rfl ?_
  refine aw_callSN (M' := M_X4_put) 13 65 [.ref _, .int _, .int _] [] dX3_dropTaken_10 (by decide) ms_X4_put mp_X4_put rfl ⟨leb rfl, leb rfl⟩ rfl (leb rfl) (leb rfl) (leb rfl) rfl (am_X4_put hG h) (kkV fun X5 h => ?_) KrV.no
  refine aw_widen (cc' := 0) (ss' := 0) (leb rfl) (leb rfl) ?_
  refine aw_aload_n 14 dX3_dropTaken_13 rfl 0 rfl rfl ?_
  refine aw_dup 15 dX3_dropTaken_14 rfl rfl ?_
  obtain ⟨g6, h⟩ := h
  refine aw_getI 18 dX3_dropTaken_15 fl_RX3_59 rfl g6 rfl ?_
  refine aw_iconst 19 (v := 1) dX3_dropTaken_18 kI_1 rfl ?_
  refine aw_iadd 20 dX3_dropTaken_19 rfl ?_
  refine aw_putI 23 dX3_dropTaken_20 fl_RX3_59 rfl rfl rfl rfl g6 rfl ?_
  refine aw_aload_n 24 dX3_dropTaken_23 rfl 0 rfl rfl ?_
  refine aw_aload_n 25 dX3_dropTaken_24 rfl 0 rfl rfl ?_
  refine aw_iload_n 26 dX3_dropTaken_25 rfl 1 rfl rfl ?_
  refine aw_callV (M' := M_X3_reelAt) 29 88 3 l0 [.int _] [.ref _] dX3_dropTaken_26 lk_RX3_88 mv_X3_reelAt mp_X3_reelAt rfl ⟨leb rfl, leb rfl⟩ rfl (ltb rfl) g6 rfl (leb rfl) (leb rfl) (leb rfl) rfl (am_X3_reelAt hG h) (kkI fun v8 X7 h => ?_) (kxN KrI.no)
  refine aw_widen (cc' := 0) (ss' := 0) (leb rfl) (leb rfl) ?_
  refine aw_iload_n 30 dX3_dropTaken_29 rfl 2 rfl rfl ?_
  obtain ⟨g10, h⟩ := h
  refine aw_callV (M' := M_X3_unmix) 33 91 3 l0 [.int _, .int _] [] dX3_dropTaken_30 lk_RX3_91 mv_X3_unmix mp_X3_unmix rfl ⟨leb rfl, leb rfl⟩ rfl (ltb rfl) g10 rfl (leb rfl) (leb rfl) (leb rfl) rfl (am_X3_unmix hG h) (kkV fun X9 h => ?_) (kxN KrV.no)
  refine aw_widen (cc' := 0) (ss' := 0) (leb rfl) (leb rfl) ?_
  exact aw_return dX3_dropTaken_33 rfl (leb rfl) (leb rfl) ⟨rfl, h⟩)
set_option maxRecDepth 20000 in
theorem am_X4_wipe {G : GG} (hG : G.1.stackTraces = false) {l0 : Nat} {l1 : Int32} {l2 : Int32} {X : XH} {K : Int32 → XH → Prop} {KX : String → XH → Prop} (h : w_X4_wipe l0 l1 l2 X K KX) : AM G M_X4_wipe X [.ref l0, .int l1, .int l2] (KxT (KrI K) KX) := AM_of (by decide +kernel) rfl (leb rfl) hG (by
  show AW G M_X4_wipe 0 [(0, .ref l0), (1, .int l1), (2, .int l2)] [] X 0 0 _
  unfold w_X4_wipe at h
  refine aw_aload_n 1 dX4_wipe_0 rfl 0 rfl rfl ?_
  refine aw_iload_n 2 dX4_wipe_1 rfl 1 rfl rfl ?_
  refine aw_iload_n 3 dX4_wipe_2 rfl 2 rfl rfl ?_
  obtain ⟨g2, h⟩ := h
  refine aw_callV (M' := M_X4_checkTranslation) 6 115 4 l0 [.int _, .int _] [] dX4_wipe_3 lk_RX4_115 mv_X4_checkTranslation mp_X4_checkTranslation rfl ⟨leb rfl, leb rfl⟩ rfl (ltb rfl) g2 rfl (leb rfl) (leb rfl) (leb rfl) rfl (am_X4_checkTranslation hG h) (kkT (kkV fun X1 h => ?_)) (kxT KrV.no fun E X h => at_out rfl (leb rfl) (leb rfl) (Or.inr ⟨_, rfl, h⟩))
  refine aw_widen (cc' := 2) (ss' := 12) (leb rfl) (leb rfl) ?_
  refine aw_aload_n 7 dX4_wipe_6 rfl 0 rfl rfl ?_
  refine aw_iload_n 8 dX4_wipe_7 rfl 1 rfl rfl ?_
  refine aw_iload_n 9 dX4_wipe_8 rfl 2 rfl rfl ?_
  obtain ⟨g4, h⟩ := h
  refine aw_callV (M' := M_X4_checkTaken) 12 178 4 l0 [.int _, .int _] [] dX4_wipe_9 lk_RX4_178 mv_X4_checkTaken mp_X4_checkTaken rfl ⟨leb rfl, leb rfl⟩ rfl (ltb rfl) g4 rfl (leb rfl) (leb rfl) (leb rfl) rfl (am_X4_checkTaken hG h) (kkT (kkV fun X3 h => ?_)) (kxT KrV.no fun E X h => at_out rfl (leb rfl) (leb rfl) (Or.inr ⟨_, rfl, h⟩))
  refine aw_widen (cc' := 3) (ss' := 18) (leb rfl) (leb rfl) ?_
  refine aw_aload_n 13 dX4_wipe_12 rfl 0 rfl rfl ?_
  obtain ⟨g5, h⟩ := h
  obtain ⟨g6, h⟩ := h
  refine aw_getR 16 dX4_wipe_13 fl_RX4_19 rfl g5 g6 rfl ?_
  refine aw_aload_n 17 dX4_wipe_16 rfl 0 rfl rfl ?_
  obtain ⟨g7, h⟩ := h
  refine aw_getR 20 dX4_wipe_17 fl_RX4_10 rfl g5 g7 rfl ?_
  obtain ⟨g9, h⟩ := h
  refine aw_callV (M' := M_X1_push) 23 67 1 (hR X3 l0 1) [.ref _] [] dX4_wipe_20 lk_RX4_67 mv_X1_push mp_X1_push rfl ⟨leb rfl, leb rfl⟩ rfl (ltb rfl) g9 rfl (leb rfl) (leb rfl) (leb rfl) rfl (am_X1_push hG h) (kkV fun X8 h => ?_) (kxN KrV.no)
  refine aw_widen (cc' := 3) (ss' := 18) (leb rfl) (leb rfl) ?_
  refine aw_aload_n 24 dX4_wipe_23 rfl 0 rfl rfl ?_
  obtain ⟨g10, h⟩ := h
  obtain ⟨g11, h⟩ := h
  refine aw_getR 27 dX4_wipe_24 fl_RX4_10 rfl g10 g11 rfl ?_
  refine aw_iload_n 28 dX4_wipe_27 rfl 1 rfl rfl ?_
  refine aw_iload_n 29 dX4_wipe_28 rfl 2 rfl rfl ?_
  obtain ⟨g14, h⟩ := h
  refine aw_callV (M' := M_X3_takenIn) 32 181 3 (hR X8 l0 0) [.int _, .int _] [] dX4_wipe_29 lk_RX4_181 mv_X3_takenIn mp_X3_takenIn rfl ⟨leb rfl, leb rfl⟩ rfl (ltb rfl) g14 rfl (leb rfl) (leb rfl) (leb rfl) rfl (am_X3_takenIn hG h) (kkI fun v13 X12 h => ?_) (kxN KrI.no)
  refine aw_widen (cc' := 3) (ss' := 18) (leb rfl) (leb rfl) ?_
  refine aw_istore_n 33 (lv' := [(3, _), (0, _), (1, _), (2, _)]) dX4_wipe_32 rfl (ltb rfl) rfl rfl ?_
  refine aw_aload_n 34 dX4_wipe_33 rfl 1 rfl rfl ?_
  obtain ⟨g15, h⟩ := h
  obtain ⟨g16, h⟩ := h
  refine aw_getR 37 dX4_wipe_34 fl_RX4_10 rfl g15 g16 rfl ?_
  refine aw_iload_n 38 dX4_wipe_37 rfl 2 rfl rfl ?_
  refine aw_iload_n 39 dX4_wipe_38 rfl 3 rfl rfl ?_
  obtain ⟨g18, h⟩ := h
  refine aw_callV (M' := M_X3_dropTaken) 42 184 3 (hR X12 l0 0) [.int _, .int _] [] dX4_wipe_39 lk_RX4_184 mv_X3_dropTaken mp_X3_dropTaken rfl ⟨leb rfl, leb rfl⟩ rfl (ltb rfl) g18 rfl (leb rfl) (leb rfl) (leb rfl) rfl (am_X3_dropTaken hG h) (kkV fun X17 h => ?_) (kxN KrV.no)
  refine aw_widen (cc' := 3) (ss' := 18) (leb rfl) (leb rfl) ?_
  refine aw_iload_n 43 dX4_wipe_42 rfl 0 rfl rfl ?_
  exact aw_ireturn (ty := .int) dX4_wipe_43 rfl rfl (leb rfl) (leb rfl) (Or.inl ⟨_, rfl, h⟩))
set_option maxRecDepth 20000 in
theorem am_L_wipe {G : GG} (hG : G.1.stackTraces = false) {l0 : Nat} {l1 : Int32} {l2 : Int32} {l3 : Nat} {X : XH} {K : Int32 → XH → Prop} (h : w_L_wipe l0 l1 l2 l3 X K) : AM G M_L_wipe X [.ref l0, .int l1, .int l2, .ref l3] (KrI K) := AM_ofH (by decide +kernel) (0, 10, 13, 13) [(0, 10, 17, 17)] rfl (leb rfl) hG (by
  show AW G M_L_wipe 0 [(0, .ref l0), (1, .int l1), (2, .int l2), (3, .ref l3)] [] X 0 0 _
  unfold w_L_wipe at h
  refine aw_aload_n 1 dL_wipe_0 rfl 3 rfl rfl ?_
  refine aw_iconst 2 (v := 0) dL_wipe_1 kI_0 rfl ?_
  refine aw_aload_n 3 dL_wipe_2 rfl 0 rfl rfl ?_
  refine aw_iload_n 4 dL_wipe_3 rfl 1 rfl rfl ?_
  refine aw_iload_n 5 dL_wipe_4 rfl 2 rfl rfl ?_
  obtain ⟨g3, h⟩ := h
  refine aw_callV (M' := M_X4_wipe) 8 44 4 l0 [.int _, .int _] [.int _, .ref _] dL_wipe_5 lk_RL_44 mv_X4_wipe mp_X4_wipe rfl ⟨leb rfl, leb rfl⟩ rfl (ltb rfl) g3 rfl (leb rfl) (leb rfl) (leb rfl) rfl (am_X4_wipe hG h) (kkT (kkI fun v2 X1 h => ?_)) (kxT KrI.no fun E X1 h => ?_)
  · refine aw_widen (cc' := 3) (ss' := 18) (leb rfl) (leb rfl) ?_
    refine aw_i2l 9 dL_wipe_8 rfl ?_
    obtain ⟨g4, h⟩ := h
    obtain ⟨g5, h⟩ := h
    refine aw_lastore 10 dL_wipe_9 g4 g5 rfl ?_
    refine aw_goto 21 dL_wipe_10 rfl ?_
    refine aw_iconst 22 (v := 0) dL_wipe_21 kI_0 rfl ?_
    exact aw_ireturn (ty := .int) dL_wipe_22 rfl rfl (leb rfl) (leb rfl) ⟨_, rfl, h⟩
  · obtain ⟨hE, h⟩ := h
    rcases hE with rfl | rfl
    · refine aw_atc (lv' := [(0, .ref _), (1, .int _), (2, .int _), (3, .ref _)]) [] (0, 10, 13, 13) [(0, 10, 17, 17)] rfl (fun z hz => nomatch hz) (by decide) (by decide) (tk3 (i := 61) (by decide +kernel) rfl) (by decide) 4 2 15 (Or.inr ⟨dL_wipe_13, rfl⟩) (ltb rfl) rfl ?_
      refine aw_widen (cc' := 3) (ss' := 18) (leb rfl) (leb rfl) ?_
      replace h := h.1 rfl
      refine aw_iconst 16 (v := 1) dL_wipe_15 kI_1 rfl ?_
      exact aw_ireturn (ty := .int) dL_wipe_16 rfl rfl (leb rfl) (leb rfl) ⟨_, rfl, h⟩
    · refine aw_atc (lv' := [(0, .ref _), (1, .int _), (2, .int _), (3, .ref _)]) [(0, 10, 13, 13)] (0, 10, 17, 17) [] rfl (by intro z hz; simp only [List.mem_cons, List.not_mem_nil, or_false] at hz; rcases hz with rfl <;> first | exact ⟨by decide, xcI, tk3 (i := 61) (by decide +kernel) rfl, by decide⟩) (by decide) (by decide) (tk3 (i := 63) (by decide +kernel) rfl) (by decide) 4 2 19 (Or.inr ⟨dL_wipe_17, rfl⟩) (ltb rfl) rfl ?_
      refine aw_widen (cc' := 3) (ss' := 18) (leb rfl) (leb rfl) ?_
      replace h := h.2 rfl
      refine aw_iconst 20 (v := 2) dL_wipe_19 kI_2 rfl ?_
      exact aw_ireturn (ty := .int) dL_wipe_20 rfl rfl (leb rfl) (leb rfl) ⟨_, rfl, h⟩)
set_option maxRecDepth 20000 in
theorem aw_X5_wipe_28 {G : GG} (hG : G.1.stackTraces = false)  {l0 : Nat} {l1 : Int32} {l2 : Int32} {s0 : Nat} {s1 : Int32} {X : XH} {K : Int32 → XH → Prop}  (h : w_X5_wipe_28  l0 l1 l2 s0 s1 X K) : AW G M_X5_wipe 28 [(0, .ref l0), (1, .int l1), (2, .int l2)] [.int s1, .ref s0] X 0 0 (KrI K) := by
  unfold w_X5_wipe_28 at h
  obtain ⟨g3, h⟩ := h
  refine aw_callV (M' := M_X5_refused) 31 81 5 s0 [.int _] [] dX5_wipe_28 lk_RX5_81 mv_X5_refused mp_X5_refused rfl ⟨leb rfl, leb rfl⟩ rfl (ltb rfl) g3 rfl (leb rfl) (leb rfl) (leb rfl) rfl (am_X5_refused hG h) (kkI fun v2 X1 h => ?_) (kxN KrI.no)
  refine aw_widen (cc' := 0) (ss' := 0) (leb rfl) (leb rfl) ?_
  refine aw_if_eq 36 34 dX5_wipe_31 rfl rfl (fun c4 => ?_) (fun c4 => ?_)
  · replace h := h.1 c4
    refine aw_aload_n 37 dX5_wipe_36 rfl 0 rfl rfl ?_
    refine aw_iload_n 38 dX5_wipe_37 rfl 1 rfl rfl ?_
    refine aw_bipush 40 (v := 10) dX5_wipe_38 kB_10 rfl ?_
    refine aw_iload_n 41 dX5_wipe_40 rfl 2 rfl rfl ?_
    refine aw_iadd 42 dX5_wipe_41 rfl ?_
    refine aw_callS (M' := M_X5_at) 45 44 [.int _, .int _] [.ref _] dX5_wipe_42 lk_RX5_44 ms_X5_at mp_X5_at rfl ⟨leb rfl, leb rfl⟩ rfl (leb rfl) (leb rfl) (leb rfl) rfl (am_X5_at hG h) (kkI fun v6 X5 h => ?_) (kxN KrI.no)
    refine aw_widen (cc' := 0) (ss' := 0) (leb rfl) (leb rfl) ?_
    refine aw_iconst 46 (v := 0) dX5_wipe_45 kI_0 rfl ?_
    obtain ⟨g9, h⟩ := h
    refine aw_callV (M' := M_X5_sets) 49 94 5 l0 [.int _, .int _] [] dX5_wipe_46 lk_RX5_94 mv_X5_sets mp_X5_sets rfl ⟨leb rfl, leb rfl⟩ rfl (ltb rfl) g9 rfl (leb rfl) (leb rfl) (leb rfl) rfl (am_X5_sets hG h) (kkI fun v8 X7 h => ?_) (kxN KrI.no)
    refine aw_widen (cc' := 0) (ss' := 0) (leb rfl) (leb rfl) ?_
    refine aw_iconst 50 (v := 1) dX5_wipe_49 kI_1 rfl ?_
    refine aw_isub 51 dX5_wipe_50 rfl ?_
    refine aw_istore_n 52 (lv' := [(3, _), (0, _), (1, _), (2, _)]) dX5_wipe_51 rfl (ltb rfl) rfl rfl ?_
    refine aw_aload_n 53 dX5_wipe_52 rfl 1 rfl rfl ?_
    refine aw_aload_n 54 dX5_wipe_53 rfl 1 rfl rfl ?_
    obtain ⟨g10, h⟩ := h
    obtain ⟨g11, h⟩ := h
    refine aw_getR 57 dX5_wipe_54 fl_RX5_7 rfl g10 g11 rfl ?_
    refine aw_iload_n 58 dX5_wipe_57 rfl 2 rfl rfl ?_
    refine aw_iconst 59 (v := 0) dX5_wipe_58 kI_0 rfl ?_
    refine aw_callS (M' := M_X5_at) 62 44 [.int _, .int _] [.ref _, .ref _] dX5_wipe_59 lk_RX5_44 ms_X5_at mp_X5_at rfl ⟨leb rfl, leb rfl⟩ rfl (leb rfl) (leb rfl) (leb rfl) rfl (am_X5_at hG h) (kkI fun v13 X12 h => ?_) (kxN KrI.no)
    refine aw_widen (cc' := 0) (ss' := 0) (leb rfl) (leb rfl) ?_
    obtain ⟨g14, h⟩ := h
    obtain ⟨g15, h⟩ := h
    refine aw_iaload 63 dX5_wipe_62 g14 g15 rfl ?_
    refine aw_iload_n 64 dX5_wipe_63 rfl 3 rfl rfl ?_
    obtain ⟨g17, h⟩ := h
    refine aw_callV (M' := M_X5_unmix) 67 55 5 l0 [.int _, .int _] [] dX5_wipe_64 lk_RX5_55 mv_X5_unmix mp_X5_unmix rfl ⟨leb rfl, leb rfl⟩ rfl (ltb rfl) g17 rfl (leb rfl) (leb rfl) (leb rfl) rfl (am_X5_unmix hG h) (kkV fun X16 h => ?_) (kxN KrV.no)
    refine aw_widen (cc' := 0) (ss' := 0) (leb rfl) (leb rfl) ?_
    refine aw_aload_n 68 dX5_wipe_67 rfl 1 rfl rfl ?_
    obtain ⟨g18, h⟩ := h
    obtain ⟨g19, h⟩ := h
    refine aw_getR 71 dX5_wipe_68 fl_RX5_7 rfl g18 g19 rfl ?_
    refine aw_sipush 74 (v := 369) dX5_wipe_71 kS_369 rfl ?_
    refine aw_dup2 75 dX5_wipe_74 rfl rfl rfl ?_
    obtain ⟨g20, h⟩ := h
    obtain ⟨g21, h⟩ := h
    refine aw_iaload 76 dX5_wipe_75 g20 g21 rfl ?_
    refine aw_iconst 77 (v := 1) dX5_wipe_76 kI_1 rfl ?_
    refine aw_iadd 78 dX5_wipe_77 rfl ?_
    refine aw_iastore 79 dX5_wipe_78 g20 g21 rfl ?_
    refine aw_iload_n 80 dX5_wipe_79 rfl 0 rfl rfl ?_
    exact aw_ireturn (ty := .int) dX5_wipe_80 rfl rfl (leb rfl) (leb rfl) ⟨_, rfl, h⟩
  · replace h := h.2 c4
    refine aw_iconst 35 (v := 0) dX5_wipe_34 kI_0 rfl ?_
    exact aw_ireturn (ty := .int) dX5_wipe_35 rfl rfl (leb rfl) (leb rfl) ⟨_, rfl, h⟩
set_option maxRecDepth 20000 in
theorem am_X5_wipe {G : GG} (hG : G.1.stackTraces = false) {l0 : Nat} {l1 : Int32} {l2 : Int32} {X : XH} {K : Int32 → XH → Prop} (h : w_X5_wipe l0 l1 l2 X K) : AM G M_X5_wipe X [.ref l0, .int l1, .int l2] (KrI K) := AM_of (by decide +kernel) rfl (leb rfl) hG (by
  show AW G M_X5_wipe 0 [(0, .ref l0), (1, .int l1), (2, .int l2)] [] X 0 0 _
  unfold w_X5_wipe at h
  refine aw_aload_n 1 dX5_wipe_0 rfl 0 rfl rfl ?_
  refine aw_aload_n 2 dX5_wipe_1 rfl 0 rfl rfl ?_
  refine aw_iload_n 3 dX5_wipe_2 rfl 1 rfl rfl ?_
  refine aw_iload_n 4 dX5_wipe_3 rfl 2 rfl rfl ?_
  obtain ⟨g3, h⟩ := h
  refine aw_callV (M' := M_X5_are) 7 97 5 l0 [.int _, .int _] [.ref _] dX5_wipe_4 lk_RX5_97 mv_X5_are mp_X5_are rfl ⟨leb rfl, leb rfl⟩ rfl (ltb rfl) g3 rfl (leb rfl) (leb rfl) (leb rfl) rfl (am_X5_are hG h) (kkI fun v2 X1 h => ?_) (kxN KrI.no)
  refine aw_widen (cc' := 0) (ss' := 0) (leb rfl) (leb rfl) ?_
  refine aw_if_ne 14 10 dX5_wipe_7 rfl rfl (fun c4 => ?_) (fun c4 => ?_)
  · replace h := h.1 c4
    refine aw_aload_n 15 dX5_wipe_14 rfl 0 rfl rfl ?_
    refine aw_iload_n 16 dX5_wipe_15 rfl 1 rfl rfl ?_
    refine aw_iload_n 17 dX5_wipe_16 rfl 2 rfl rfl ?_
    obtain ⟨g7, h⟩ := h
    refine aw_callV (M' := M_X5_isTaken) 20 51 5 l0 [.int _, .int _] [.ref _] dX5_wipe_17 lk_RX5_51 mv_X5_isTaken mp_X5_isTaken rfl ⟨leb rfl, leb rfl⟩ rfl (ltb rfl) g7 rfl (leb rfl) (leb rfl) (leb rfl) rfl (am_X5_isTaken hG h) (kkI fun v6 X5 h => ?_) (kxN KrI.no)
    refine aw_widen (cc' := 0) (ss' := 0) (leb rfl) (leb rfl) ?_
    refine aw_if_eq 27 23 dX5_wipe_20 rfl rfl (fun c8 => ?_) (fun c8 => ?_)
    · replace h := h.1 c8
      refine aw_iconst 28 (v := 2) dX5_wipe_27 kI_2 rfl ?_
      exact aw_pick [0, 1, 2] rfl (aw_X5_wipe_28 hG  h)
    · replace h := h.2 c8
      refine aw_iconst 24 (v := 0) dX5_wipe_23 kI_0 rfl ?_
      refine aw_goto 28 dX5_wipe_24 rfl ?_
      exact aw_pick [0, 1, 2] rfl (aw_X5_wipe_28 hG  h)
  · replace h := h.2 c4
    refine aw_iconst 11 (v := 1) dX5_wipe_10 kI_1 rfl ?_
    refine aw_goto 28 dX5_wipe_11 rfl ?_
    exact aw_pick [0, 1, 2] rfl (aw_X5_wipe_28 hG  h))
set_option maxRecDepth 20000 in
theorem aw_X3_beginSession_12 {G : GG} (hG : G.1.stackTraces = false)  {l0 : Nat} {l1 : Int32} {X : XH} {K : XH → Prop}  (h : w_X3_beginSession_12  l0 l1 X K) : AW G M_X3_beginSession 12 [(0, .ref l0), (1, .int l1)] [] X 0 0 (KrV K) :=
  h (fun l0 l1 X => AW G M_X3_beginSession 12 [(0, .ref l0), (1, .int l1)] [] X 0 0 (KrV K)) (fun l0 l1 X h => by
    refine aw_iload_n 13 dX3_beginSession_12 rfl 1 rfl rfl ?_
    refine aw_aload_n 14 dX3_beginSession_13 rfl 0 rfl rfl ?_
    obtain ⟨g1, h⟩ := h
    obtain ⟨g2, h⟩ := h
    refine aw_getR 17 dX3_beginSession_14 fl_RX3_36 rfl g1 g2 rfl ?_
    obtain ⟨g3, h⟩ := h
    refine aw_alen 18 dX3_beginSession_17 g3 rfl ?_
    refine aw_icmp_ge 34 21 dX3_beginSession_18 rfl rfl (fun c4 => ?_) (fun c4 => ?_)
    · replace h := h.1 c4
      exact aw_return dX3_beginSession_34 rfl (leb rfl) (leb rfl) ⟨rfl, h⟩
    · replace h := h.2 c4
      refine aw_aload_n 22 dX3_beginSession_21 rfl 0 rfl rfl ?_
      refine aw_getR 25 dX3_beginSession_22 fl_RX3_36 rfl g1 g2 rfl ?_
      refine aw_iload_n 26 dX3_beginSession_25 rfl 1 rfl rfl ?_
      refine aw_iconst 27 (v := 0) dX3_beginSession_26 kI_0 rfl ?_
      obtain ⟨g5, h⟩ := h
      obtain ⟨g6, h⟩ := h
      refine aw_iastore 28 dX3_beginSession_27 g5 g6 rfl ?_
      refine aw_iinc 31 (v := 1) (lv' := [(1, _), (0, _)]) dX3_beginSession_28 1 rfl kI_1 (ltb rfl) rfl rfl ?_
      refine aw_goto 12 dX3_beginSession_31 rfl ?_
      exact aw_pick [1, 0] rfl h)
set_option maxRecDepth 20000 in
theorem am_X3_beginSession {G : GG} (hG : G.1.stackTraces = false) {l0 : Nat} {X : XH} {K : XH → Prop} (h : w_X3_beginSession l0 X K) : AM G M_X3_beginSession X [.ref l0] (KrV K) := AM_of (by decide +kernel) rfl (leb rfl) hG (by
  show AW G M_X3_beginSession 0 [(0, .ref l0)] [] X 0 0 _
  unfold w_X3_beginSession at h
  refine aw_aload_n 1 dX3_beginSession_0 rfl 0 rfl rfl ?_
  refine aw_dup 2 dX3_beginSession_1 rfl rfl ?_
  obtain ⟨g1, h⟩ := h
  refine aw_getI 5 dX3_beginSession_2 fl_RX3_53 rfl g1 rfl ?_
  refine aw_iconst 6 (v := 1) dX3_beginSession_5 kI_1 rfl ?_
  refine aw_iadd 7 dX3_beginSession_6 rfl ?_
  refine aw_putI 10 dX3_beginSession_7 fl_RX3_53 rfl rfl rfl rfl g1 rfl ?_
  refine aw_iconst 11 (v := 0) dX3_beginSession_10 kI_0 rfl ?_
  refine aw_istore_n 12 (lv' := [(1, _), (0, _)]) dX3_beginSession_11 rfl (ltb rfl) rfl rfl ?_
  exact aw_pick [1, 0] rfl (aw_X3_beginSession_12 hG  h))
set_option maxRecDepth 20000 in
theorem am_X4_nextSession {G : GG} (hG : G.1.stackTraces = false) {l0 : Nat} {X : XH} {K : Int32 → XH → Prop} {KX : String → XH → Prop} (h : w_X4_nextSession l0 X K KX) : AM G M_X4_nextSession X [.ref l0] (KxT (KrI K) KX) := AM_of (by decide +kernel) rfl (leb rfl) hG (by
  show AW G M_X4_nextSession 0 [(0, .ref l0)] [] X 0 0 _
  unfold w_X4_nextSession at h
  refine aw_aload_n 1 dX4_nextSession_0 rfl 0 rfl rfl ?_
  obtain ⟨g1, h⟩ := h
  obtain ⟨g2, h⟩ := h
  refine aw_getR 4 dX4_nextSession_1 fl_RX4_10 rfl g1 g2 rfl ?_
  obtain ⟨g3, h⟩ := h
  refine aw_getI 7 dX4_nextSession_4 fl_RX4_187 rfl g3 rfl ?_
  refine aw_sipush 10 (v := 999) dX4_nextSession_7 kS_999 rfl ?_
  refine aw_icmp_lt 23 13 dX4_nextSession_10 rfl rfl (fun c4 => ?_) (fun c4 => ?_)
  · replace h := h.1 c4
    refine aw_aload_n 24 dX4_nextSession_23 rfl 0 rfl rfl ?_
    obtain ⟨g5, h⟩ := h
    refine aw_getR 27 dX4_nextSession_24 fl_RX4_19 rfl g1 g5 rfl ?_
    refine aw_aload_n 28 dX4_nextSession_27 rfl 0 rfl rfl ?_
    refine aw_getR 31 dX4_nextSession_28 fl_RX4_10 rfl g1 g2 rfl ?_
    obtain ⟨g7, h⟩ := h
    refine aw_callV (M' := M_X1_push) 34 67 1 (hR X l0 1) [.ref _] [] dX4_nextSession_31 lk_RX4_67 mv_X1_push mp_X1_push rfl ⟨leb rfl, leb rfl⟩ rfl (ltb rfl) g7 rfl (leb rfl) (leb rfl) (leb rfl) rfl (am_X1_push hG h) (kkV fun X6 h => ?_) (kxN KrV.no)
    refine aw_widen (cc' := 0) (ss' := 0) (leb rfl) (leb rfl) ?_
    refine aw_aload_n 35 dX4_nextSession_34 rfl 0 rfl rfl ?_
    obtain ⟨g8, h⟩ := h
    obtain ⟨g9, h⟩ := h
    refine aw_getR 38 dX4_nextSession_35 fl_RX4_10 rfl g8 g9 rfl ?_
    obtain ⟨g11, h⟩ := h
    refine aw_callV (M' := M_X3_beginSession) 41 192 3 (hR X6 l0 0) [] [] dX4_nextSession_38 lk_RX4_192 mv_X3_beginSession mp_X3_beginSession rfl ⟨leb rfl, leb rfl⟩ rfl (ltb rfl) g11 rfl (leb rfl) (leb rfl) (leb rfl) rfl (am_X3_beginSession hG h) (kkV fun X10 h => ?_) (kxN KrV.no)
    refine aw_widen (cc' := 0) (ss' := 0) (leb rfl) (leb rfl) ?_
    refine aw_aload_n 42 dX4_nextSession_41 rfl 0 rfl rfl ?_
    obtain ⟨g12, h⟩ := h
    obtain ⟨g13, h⟩ := h
    refine aw_getR 45 dX4_nextSession_42 fl_RX4_10 rfl g12 g13 rfl ?_
    obtain ⟨g14, h⟩ := h
    refine aw_getI 48 dX4_nextSession_45 fl_RX4_187 rfl g14 rfl ?_
    exact aw_ireturn (ty := .int) dX4_nextSession_48 rfl rfl (leb rfl) (leb rfl) (Or.inl ⟨_, rfl, h⟩)
  · replace h := h.2 c4
    exact aw_throw xcS 60 190 64 rfl th_xcS (by decide) (Or.inl ⟨dX4_nextSession_13, dX4_nextSession_16, dX4_nextSession_17, dX4_nextSession_19, dX4_nextSession_22⟩) rfl (ltb rfl) (leb rfl) (leb rfl) (leb rfl) (Or.inr ⟨_, rfl, h⟩))
set_option maxRecDepth 20000 in
theorem am_L_nextSession {G : GG} (hG : G.1.stackTraces = false) {l0 : Nat} {l1 : Nat} {X : XH} {K : Int32 → XH → Prop} (h : w_L_nextSession l0 l1 X K) : AM G M_L_nextSession X [.ref l0, .ref l1] (KrI K) := AM_ofH (by decide +kernel) (0, 8, 11, 17) [] rfl (leb rfl) hG (by
  show AW G M_L_nextSession 0 [(0, .ref l0), (1, .ref l1)] [] X 0 0 _
  unfold w_L_nextSession at h
  refine aw_aload_n 1 dL_nextSession_0 rfl 1 rfl rfl ?_
  refine aw_iconst 2 (v := 0) dL_nextSession_1 kI_0 rfl ?_
  refine aw_aload_n 3 dL_nextSession_2 rfl 0 rfl rfl ?_
  obtain ⟨g3, h⟩ := h
  refine aw_callV (M' := M_X4_nextSession) 6 47 4 l0 [] [.int _, .ref _] dL_nextSession_3 lk_RL_47 mv_X4_nextSession mp_X4_nextSession rfl ⟨leb rfl, leb rfl⟩ rfl (ltb rfl) g3 rfl (leb rfl) (leb rfl) (leb rfl) rfl (am_X4_nextSession hG h) (kkT (kkI fun v2 X1 h => ?_)) (kxT KrI.no fun E X1 h => ?_)
  · refine aw_widen (cc' := 1) (ss' := 6) (leb rfl) (leb rfl) ?_
    refine aw_i2l 7 dL_nextSession_6 rfl ?_
    obtain ⟨g4, h⟩ := h
    obtain ⟨g5, h⟩ := h
    refine aw_lastore 8 dL_nextSession_7 g4 g5 rfl ?_
    refine aw_goto 14 dL_nextSession_8 rfl ?_
    refine aw_iconst 15 (v := 0) dL_nextSession_14 kI_0 rfl ?_
    exact aw_ireturn (ty := .int) dL_nextSession_15 rfl rfl (leb rfl) (leb rfl) ⟨_, rfl, h⟩
  · obtain ⟨hE, h⟩ := h
    rcases hE with rfl
    refine aw_atc (lv' := [(0, .ref _), (1, .ref _)]) [] (0, 8, 11, 17) [] rfl (fun z hz => nomatch hz) (by decide) (by decide) (tk3 (i := 63) (by decide +kernel) rfl) (by decide) 2 1 12 (Or.inl ⟨2, rfl, dL_nextSession_11, rfl⟩) (ltb rfl) rfl ?_
    refine aw_widen (cc' := 1) (ss' := 6) (leb rfl) (leb rfl) ?_
    replace h := h rfl
    refine aw_iconst 13 (v := 1) dL_nextSession_12 kI_1 rfl ?_
    exact aw_ireturn (ty := .int) dL_nextSession_13 rfl rfl (leb rfl) (leb rfl) ⟨_, rfl, h⟩)
set_option maxRecDepth 20000 in
theorem aw_X5_nextSession_46 {G : GG} (hG : G.1.stackTraces = false)  {l0 : Nat} {l1 : Int32} {X : XH} {K : Int32 → XH → Prop}  (h : w_X5_nextSession_46  l0 l1 X K) : AW G M_X5_nextSession 46 [(0, .ref l0), (1, .int l1)] [] X 0 0 (KrI K) :=
  h (fun l0 l1 X => AW G M_X5_nextSession 46 [(0, .ref l0), (1, .int l1)] [] X 0 0 (KrI K)) (fun l0 l1 X h => by
    refine aw_iload_n 47 dX5_nextSession_46 rfl 1 rfl rfl ?_
    refine aw_bipush 49 (v := 15) dX5_nextSession_47 kB_15 rfl ?_
    refine aw_icmp_ge 69 52 dX5_nextSession_49 rfl rfl (fun c1 => ?_) (fun c1 => ?_)
    · replace h := h.1 c1
      refine aw_aload_n 70 dX5_nextSession_69 rfl 0 rfl rfl ?_
      obtain ⟨g2, h⟩ := h
      obtain ⟨g3, h⟩ := h
      refine aw_getR 73 dX5_nextSession_70 fl_RX5_7 rfl g2 g3 rfl ?_
      refine aw_sipush 76 (v := 367) dX5_nextSession_73 kS_367 rfl ?_
      obtain ⟨g4, h⟩ := h
      obtain ⟨g5, h⟩ := h
      refine aw_iaload 77 dX5_nextSession_76 g4 g5 rfl ?_
      exact aw_ireturn (ty := .int) dX5_nextSession_77 rfl rfl (leb rfl) (leb rfl) ⟨_, rfl, h⟩
    · replace h := h.2 c1
      refine aw_aload_n 53 dX5_nextSession_52 rfl 0 rfl rfl ?_
      obtain ⟨g6, h⟩ := h
      obtain ⟨g7, h⟩ := h
      refine aw_getR 56 dX5_nextSession_53 fl_RX5_7 rfl g6 g7 rfl ?_
      refine aw_sipush 59 (v := 327) dX5_nextSession_56 kS_327 rfl ?_
      refine aw_iload_n 60 dX5_nextSession_59 rfl 1 rfl rfl ?_
      refine aw_iadd 61 dX5_nextSession_60 rfl ?_
      refine aw_iconst 62 (v := 0) dX5_nextSession_61 kI_0 rfl ?_
      obtain ⟨g8, h⟩ := h
      obtain ⟨g9, h⟩ := h
      refine aw_iastore 63 dX5_nextSession_62 g8 g9 rfl ?_
      refine aw_iinc 66 (v := 1) (lv' := [(1, _), (0, _)]) dX5_nextSession_63 1 rfl kI_1 (ltb rfl) rfl rfl ?_
      refine aw_goto 46 dX5_nextSession_66 rfl ?_
      exact aw_pick [1, 0] rfl h)
set_option maxRecDepth 20000 in
theorem aw_X5_nextSession_20 {G : GG} (hG : G.1.stackTraces = false)  {l0 : Nat} {s0 : Nat} {s1 : Int32} {X : XH} {K : Int32 → XH → Prop}  (h : w_X5_nextSession_20  l0 s0 s1 X K) : AW G M_X5_nextSession 20 [(0, .ref l0)] [.int s1, .ref s0] X 0 0 (KrI K) := by
  unfold w_X5_nextSession_20 at h
  obtain ⟨g3, h⟩ := h
  refine aw_callV (M' := M_X5_refused) 23 81 5 s0 [.int _] [] dX5_nextSession_20 lk_RX5_81 mv_X5_refused mp_X5_refused rfl ⟨leb rfl, leb rfl⟩ rfl (ltb rfl) g3 rfl (leb rfl) (leb rfl) (leb rfl) rfl (am_X5_refused hG h) (kkI fun v2 X1 h => ?_) (kxN KrI.no)
  refine aw_widen (cc' := 0) (ss' := 0) (leb rfl) (leb rfl) ?_
  refine aw_if_eq 28 26 dX5_nextSession_23 rfl rfl (fun c4 => ?_) (fun c4 => ?_)
  · replace h := h.1 c4
    refine aw_aload_n 29 dX5_nextSession_28 rfl 0 rfl rfl ?_
    obtain ⟨g6, h⟩ := h
    refine aw_callV (M' := M_X5_saves) 32 84 5 l0 [] [] dX5_nextSession_29 lk_RX5_84 mv_X5_saves mp_X5_saves rfl ⟨leb rfl, leb rfl⟩ rfl (ltb rfl) g6 rfl (leb rfl) (leb rfl) (leb rfl) rfl (am_X5_saves hG h) (kkV fun X5 h => ?_) (kxN KrV.no)
    refine aw_widen (cc' := 0) (ss' := 0) (leb rfl) (leb rfl) ?_
    refine aw_aload_n 33 dX5_nextSession_32 rfl 0 rfl rfl ?_
    obtain ⟨g7, h⟩ := h
    obtain ⟨g8, h⟩ := h
    refine aw_getR 36 dX5_nextSession_33 fl_RX5_7 rfl g7 g8 rfl ?_
    refine aw_sipush 39 (v := 367) dX5_nextSession_36 kS_367 rfl ?_
    refine aw_dup2 40 dX5_nextSession_39 rfl rfl rfl ?_
    obtain ⟨g9, h⟩ := h
    obtain ⟨g10, h⟩ := h
    refine aw_iaload 41 dX5_nextSession_40 g9 g10 rfl ?_
    refine aw_iconst 42 (v := 1) dX5_nextSession_41 kI_1 rfl ?_
    refine aw_iadd 43 dX5_nextSession_42 rfl ?_
    refine aw_iastore 44 dX5_nextSession_43 g9 g10 rfl ?_
    refine aw_iconst 45 (v := 0) dX5_nextSession_44 kI_0 rfl ?_
    refine aw_istore_n 46 (lv' := [(1, _), (0, _)]) dX5_nextSession_45 rfl (ltb rfl) rfl rfl ?_
    exact aw_pick [1, 0] rfl (aw_X5_nextSession_46 hG  h)
  · replace h := h.2 c4
    refine aw_iconst 27 (v := 0) dX5_nextSession_26 kI_0 rfl ?_
    exact aw_ireturn (ty := .int) dX5_nextSession_27 rfl rfl (leb rfl) (leb rfl) ⟨_, rfl, h⟩
set_option maxRecDepth 20000 in
theorem am_X5_nextSession {G : GG} (hG : G.1.stackTraces = false) {l0 : Nat} {X : XH} {K : Int32 → XH → Prop} (h : w_X5_nextSession l0 X K) : AM G M_X5_nextSession X [.ref l0] (KrI K) := AM_of (by decide +kernel) rfl (leb rfl) hG (by
  show AW G M_X5_nextSession 0 [(0, .ref l0)] [] X 0 0 _
  unfold w_X5_nextSession at h
  refine aw_aload_n 1 dX5_nextSession_0 rfl 0 rfl rfl ?_
  refine aw_aload_n 2 dX5_nextSession_1 rfl 0 rfl rfl ?_
  obtain ⟨g1, h⟩ := h
  obtain ⟨g2, h⟩ := h
  refine aw_getR 5 dX5_nextSession_2 fl_RX5_7 rfl g1 g2 rfl ?_
  refine aw_sipush 8 (v := 367) dX5_nextSession_5 kS_367 rfl ?_
  obtain ⟨g3, h⟩ := h
  obtain ⟨g4, h⟩ := h
  refine aw_iaload 9 dX5_nextSession_8 g3 g4 rfl ?_
  refine aw_sipush 12 (v := 999) dX5_nextSession_9 kS_999 rfl ?_
  refine aw_icmp_ne 19 15 dX5_nextSession_12 rfl rfl (fun c5 => ?_) (fun c5 => ?_)
  · replace h := h.1 c5
    refine aw_iconst 20 (v := 0) dX5_nextSession_19 kI_0 rfl ?_
    exact aw_pick [0] rfl (aw_X5_nextSession_20 hG  h)
  · replace h := h.2 c5
    refine aw_iconst 16 (v := 1) dX5_nextSession_15 kI_1 rfl ?_
    refine aw_goto 20 dX5_nextSession_16 rfl ?_
    exact aw_pick [0] rfl (aw_X5_nextSession_20 hG  h))
set_option maxRecDepth 20000 in
theorem am_X3_putMix {G : GG} (hG : G.1.stackTraces = false) {l0 : Nat} {l1 : Int32} {l2 : Int32} {X : XH} {K : XH → Prop} (h : w_X3_putMix l0 l1 l2 X K) : AM G M_X3_putMix X [.ref l0, .int l1, .int l2] (KrV K) := AM_of (by decide +kernel) rfl (leb rfl) hG (by
  show AW G M_X3_putMix 0 [(0, .ref l0), (1, .int l1), (2, .int l2)] [] X 0 0 _
  unfold w_X3_putMix at h
  refine aw_aload_n 1 dX3_putMix_0 rfl 0 rfl rfl ?_
  obtain ⟨g1, h⟩ := h
  obtain ⟨g2, h⟩ := h
  refine aw_getR 4 dX3_putMix_1 fl_RX3_39 rfl g1 g2 rfl ?_
  refine aw_iload_n 5 dX3_putMix_4 rfl 1 rfl rfl ?_
  refine aw_iload_n 6 dX3_putMix_5 rfl 2 rfl rfl ?_
  refine aw_callS (M' := M_X3_place) 9 73 [.int _, .int _] [.ref _] dX3_putMix_6 lk_RX3_73 ms_X3_place mp_X3_place rfl ⟨leb rfl, leb rfl⟩ rfl (leb rfl) (leb rfl) (leb rfl) rfl (am_X3_place hG h) (kkI fun v4 X3 h => ?_) (kxN KrI.no)
  refine aw_widen (cc' := 0) (ss' := 0) (leb rfl) (leb rfl) ?_
  refine aw_iconst 10 (v := 1) dX3_putMix_9 kI_1 rfl ?_
  refine aw_callSN (M' := M_X4_put) 13 65 [.ref _, .int _, .int _] [] dX3_putMix_10 (by decide) ms_X4_put mp_X4_put rfl ⟨leb rfl, leb rfl⟩ rfl (leb rfl) (leb rfl) (leb rfl) rfl (am_X4_put hG h) (kkV fun X5 h => ?_) KrV.no
  refine aw_widen (cc' := 0) (ss' := 0) (leb rfl) (leb rfl) ?_
  refine aw_aload_n 14 dX3_putMix_13 rfl 0 rfl rfl ?_
  refine aw_dup 15 dX3_putMix_14 rfl rfl ?_
  obtain ⟨g6, h⟩ := h
  refine aw_getI 18 dX3_putMix_15 fl_RX3_62 rfl g6 rfl ?_
  refine aw_iconst 19 (v := 1) dX3_putMix_18 kI_1 rfl ?_
  refine aw_iadd 20 dX3_putMix_19 rfl ?_
  refine aw_putI 23 dX3_putMix_20 fl_RX3_62 rfl rfl rfl rfl g6 rfl ?_
  exact aw_return dX3_putMix_23 rfl (leb rfl) (leb rfl) ⟨rfl, h⟩)
set_option maxRecDepth 20000 in
theorem aw_X3_silenceIn_5 {G : GG} (hG : G.1.stackTraces = false)  {l0 : Nat} {l1 : Int32} {l2 : Int32} {l3 : Int32} {l4 : Int32} {X : XH} {K : Int32 → XH → Prop}  (h : w_X3_silenceIn_5  l0 l1 l2 l3 l4 X K) : AW G M_X3_silenceIn 5 [(0, .ref l0), (1, .int l1), (2, .int l2), (3, .int l3), (4, .int l4)] [] X 0 0 (KrI K) :=
  h (fun l0 l1 l2 l3 l4 X => AW G M_X3_silenceIn 5 [(0, .ref l0), (1, .int l1), (2, .int l2), (3, .int l3), (4, .int l4)] [] X 0 0 (KrI K)) (fun l0 l1 l2 l3 l4 X h => by
    refine aw_iload 7 dX3_silenceIn_5 4 rfl rfl ?_
    refine aw_aload_n 8 dX3_silenceIn_7 rfl 0 rfl rfl ?_
    obtain ⟨g1, h⟩ := h
    refine aw_getI 11 dX3_silenceIn_8 fl_RX3_45 rfl g1 rfl ?_
    refine aw_icmp_ge 40 14 dX3_silenceIn_11 rfl rfl (fun c2 => ?_) (fun c2 => ?_)
    · replace h := h.1 c2
      refine aw_iload_n 41 dX3_silenceIn_40 rfl 3 rfl rfl ?_
      exact aw_ireturn (ty := .int) dX3_silenceIn_41 rfl rfl (leb rfl) (leb rfl) ⟨_, rfl, h⟩
    · replace h := h.2 c2
      refine aw_aload_n 15 dX3_silenceIn_14 rfl 0 rfl rfl ?_
      refine aw_iload 17 dX3_silenceIn_15 4 rfl rfl ?_
      refine aw_callV (M' := M_X3_reelAt) 20 88 3 l0 [.int _] [] dX3_silenceIn_17 lk_RX3_88 mv_X3_reelAt mp_X3_reelAt rfl ⟨leb rfl, leb rfl⟩ rfl (ltb rfl) g1 rfl (leb rfl) (leb rfl) (leb rfl) rfl (am_X3_reelAt hG h) (kkI fun v4 X3 h => ?_) (kxN KrI.no)
      refine aw_widen (cc' := 0) (ss' := 0) (leb rfl) (leb rfl) ?_
      refine aw_iload_n 21 dX3_silenceIn_20 rfl 1 rfl rfl ?_
      refine aw_icmp_ne 34 24 dX3_silenceIn_21 rfl rfl (fun c5 => ?_) (fun c5 => ?_)
      · replace h := h.1 c5
        refine aw_iinc 37 (v := 1) (lv' := [(4, _), (0, _), (1, _), (2, _), (3, _)]) dX3_silenceIn_34 4 rfl kI_1 (ltb rfl) rfl rfl ?_
        refine aw_goto 5 dX3_silenceIn_37 rfl ?_
        exact aw_pick [1, 2, 3, 4, 0] rfl h
      · replace h := h.2 c5
        refine aw_iload_n 25 dX3_silenceIn_24 rfl 3 rfl rfl ?_
        refine aw_aload_n 26 dX3_silenceIn_25 rfl 0 rfl rfl ?_
        refine aw_iload 28 dX3_silenceIn_26 4 rfl rfl ?_
        refine aw_iload_n 29 dX3_silenceIn_28 rfl 2 rfl rfl ?_
        obtain ⟨g8, h⟩ := h
        refine aw_callV (M' := M_X3_roomAt) 32 117 3 l0 [.int _, .int _] [.int _] dX3_silenceIn_29 lk_RX3_117 mv_X3_roomAt mp_X3_roomAt rfl ⟨leb rfl, leb rfl⟩ rfl (ltb rfl) g8 rfl (leb rfl) (leb rfl) (leb rfl) rfl (am_X3_roomAt hG h) (kkI fun v7 X6 h => ?_) (kxN KrI.no)
        refine aw_widen (cc' := 0) (ss' := 0) (leb rfl) (leb rfl) ?_
        refine aw_iadd 33 dX3_silenceIn_32 rfl ?_
        refine aw_istore_n 34 (lv' := [(3, _), (0, _), (1, _), (2, _), (4, _)]) dX3_silenceIn_33 rfl (ltb rfl) rfl rfl ?_
        refine aw_iinc 37 (v := 1) (lv' := [(4, _), (3, _), (0, _), (1, _), (2, _)]) dX3_silenceIn_34 4 rfl kI_1 (ltb rfl) rfl rfl ?_
        refine aw_goto 5 dX3_silenceIn_37 rfl ?_
        exact aw_pick [2, 3, 4, 1, 0] rfl h)
set_option maxRecDepth 20000 in
theorem am_X3_silenceIn {G : GG} (hG : G.1.stackTraces = false) {l0 : Nat} {l1 : Int32} {l2 : Int32} {X : XH} {K : Int32 → XH → Prop} (h : w_X3_silenceIn l0 l1 l2 X K) : AM G M_X3_silenceIn X [.ref l0, .int l1, .int l2] (KrI K) := AM_of (by decide +kernel) rfl (leb rfl) hG (by
  show AW G M_X3_silenceIn 0 [(0, .ref l0), (1, .int l1), (2, .int l2)] [] X 0 0 _
  unfold w_X3_silenceIn at h
  refine aw_iconst 1 (v := 0) dX3_silenceIn_0 kI_0 rfl ?_
  refine aw_istore_n 2 (lv' := [(3, _), (0, _), (1, _), (2, _)]) dX3_silenceIn_1 rfl (ltb rfl) rfl rfl ?_
  refine aw_iconst 3 (v := 0) dX3_silenceIn_2 kI_0 rfl ?_
  refine aw_istore 5 (lv' := [(4, _), (3, _), (0, _), (1, _), (2, _)]) dX3_silenceIn_3 (ltb rfl) rfl rfl ?_
  exact aw_pick [2, 3, 4, 1, 0] rfl (aw_X3_silenceIn_5 hG  h))
set_option maxRecDepth 20000 in
theorem am_X4_mix {G : GG} (hG : G.1.stackTraces = false) {l0 : Nat} {l1 : Int32} {l2 : Int32} {X : XH} {K : Int32 → XH → Prop} {KX : String → XH → Prop} (h : w_X4_mix l0 l1 l2 X K KX) : AM G M_X4_mix X [.ref l0, .int l1, .int l2] (KxT (KrI K) KX) := AM_of (by decide +kernel) rfl (leb rfl) hG (by
  show AW G M_X4_mix 0 [(0, .ref l0), (1, .int l1), (2, .int l2)] [] X 0 0 _
  unfold w_X4_mix at h
  refine aw_iload_n 1 dX4_mix_0 rfl 1 rfl rfl ?_
  refine aw_callS (M' := M_X4_checkReel) 4 45 [.int _] [] dX4_mix_1 lk_RX4_45 ms_X4_checkReel mp_X4_checkReel rfl ⟨leb rfl, leb rfl⟩ rfl (leb rfl) (leb rfl) (leb rfl) rfl (am_X4_checkReel hG h) (kkT (kkV fun X1 h => ?_)) (kxT KrV.no fun E X h => at_out rfl (leb rfl) (leb rfl) (Or.inr ⟨_, rfl, h⟩))
  refine aw_widen (cc' := 1) (ss' := 6) (leb rfl) (leb rfl) ?_
  refine aw_iload_n 5 dX4_mix_4 rfl 2 rfl rfl ?_
  refine aw_callS (M' := M_X4_checkTongue) 8 195 [.int _] [] dX4_mix_5 lk_RX4_195 ms_X4_checkTongue mp_X4_checkTongue rfl ⟨leb rfl, leb rfl⟩ rfl (leb rfl) (leb rfl) (leb rfl) rfl (am_X4_checkTongue hG h) (kkT (kkV fun X2 h => ?_)) (kxT KrV.no fun E X h => at_out rfl (leb rfl) (leb rfl) (Or.inr ⟨_, rfl, h⟩))
  refine aw_widen (cc' := 2) (ss' := 12) (leb rfl) (leb rfl) ?_
  refine aw_aload_n 9 dX4_mix_8 rfl 0 rfl rfl ?_
  obtain ⟨g3, h⟩ := h
  obtain ⟨g4, h⟩ := h
  refine aw_getR 12 dX4_mix_9 fl_RX4_10 rfl g3 g4 rfl ?_
  refine aw_iload_n 13 dX4_mix_12 rfl 1 rfl rfl ?_
  refine aw_iload_n 14 dX4_mix_13 rfl 2 rfl rfl ?_
  obtain ⟨g7, h⟩ := h
  refine aw_callV (M' := M_X3_hasMix) 17 198 3 (hR X2 l0 0) [.int _, .int _] [] dX4_mix_14 lk_RX4_198 mv_X3_hasMix mp_X3_hasMix rfl ⟨leb rfl, leb rfl⟩ rfl (ltb rfl) g7 rfl (leb rfl) (leb rfl) (leb rfl) rfl (am_X3_hasMix hG h) (kkI fun v6 X5 h => ?_) (kxN KrI.no)
  refine aw_widen (cc' := 2) (ss' := 12) (leb rfl) (leb rfl) ?_
  refine aw_if_ne 32 20 dX4_mix_17 rfl rfl (fun c8 => ?_) (fun c8 => ?_)
  · replace h := h.1 c8
    exact aw_throw xcS 60 204 64 rfl th_xcS (by decide) (Or.inl ⟨dX4_mix_32, dX4_mix_35, dX4_mix_36, dX4_mix_38, dX4_mix_41⟩) rfl (ltb rfl) (leb rfl) (leb rfl) (leb rfl) (Or.inr ⟨_, rfl, h⟩)
  · replace h := h.2 c8
    refine aw_aload_n 21 dX4_mix_20 rfl 0 rfl rfl ?_
    obtain ⟨g9, h⟩ := h
    obtain ⟨g10, h⟩ := h
    refine aw_getR 24 dX4_mix_21 fl_RX4_10 rfl g9 g10 rfl ?_
    refine aw_iload_n 25 dX4_mix_24 rfl 1 rfl rfl ?_
    refine aw_iload_n 26 dX4_mix_25 rfl 2 rfl rfl ?_
    obtain ⟨g13, h⟩ := h
    refine aw_callV (M' := M_X3_isWholeReel) 29 201 3 (hR X5 l0 0) [.int _, .int _] [] dX4_mix_26 lk_RX4_201 mv_X3_isWholeReel mp_X3_isWholeReel rfl ⟨leb rfl, leb rfl⟩ rfl (ltb rfl) g13 rfl (leb rfl) (leb rfl) (leb rfl) rfl (am_X3_isWholeReel hG h) (kkI fun v12 X11 h => ?_) (kxN KrI.no)
    refine aw_widen (cc' := 2) (ss' := 12) (leb rfl) (leb rfl) ?_
    refine aw_if_ne 42 32 dX4_mix_29 rfl rfl (fun c14 => ?_) (fun c14 => ?_)
    · replace h := h.1 c14
      refine aw_aload_n 43 dX4_mix_42 rfl 0 rfl rfl ?_
      obtain ⟨g15, h⟩ := h
      obtain ⟨g16, h⟩ := h
      refine aw_getR 46 dX4_mix_43 fl_RX4_19 rfl g15 g16 rfl ?_
      refine aw_aload_n 47 dX4_mix_46 rfl 0 rfl rfl ?_
      obtain ⟨g17, h⟩ := h
      refine aw_getR 50 dX4_mix_47 fl_RX4_10 rfl g15 g17 rfl ?_
      obtain ⟨g19, h⟩ := h
      refine aw_callV (M' := M_X1_push) 53 67 1 (hR X11 l0 1) [.ref _] [] dX4_mix_50 lk_RX4_67 mv_X1_push mp_X1_push rfl ⟨leb rfl, leb rfl⟩ rfl (ltb rfl) g19 rfl (leb rfl) (leb rfl) (leb rfl) rfl (am_X1_push hG h) (kkV fun X18 h => ?_) (kxN KrV.no)
      refine aw_widen (cc' := 2) (ss' := 12) (leb rfl) (leb rfl) ?_
      refine aw_aload_n 54 dX4_mix_53 rfl 0 rfl rfl ?_
      obtain ⟨g20, h⟩ := h
      obtain ⟨g21, h⟩ := h
      refine aw_getR 57 dX4_mix_54 fl_RX4_10 rfl g20 g21 rfl ?_
      refine aw_iload_n 58 dX4_mix_57 rfl 1 rfl rfl ?_
      refine aw_iload_n 59 dX4_mix_58 rfl 2 rfl rfl ?_
      obtain ⟨g23, h⟩ := h
      refine aw_callV (M' := M_X3_putMix) 62 206 3 (hR X18 l0 0) [.int _, .int _] [] dX4_mix_59 lk_RX4_206 mv_X3_putMix mp_X3_putMix rfl ⟨leb rfl, leb rfl⟩ rfl (ltb rfl) g23 rfl (leb rfl) (leb rfl) (leb rfl) rfl (am_X3_putMix hG h) (kkV fun X22 h => ?_) (kxN KrV.no)
      refine aw_widen (cc' := 2) (ss' := 12) (leb rfl) (leb rfl) ?_
      refine aw_aload_n 63 dX4_mix_62 rfl 0 rfl rfl ?_
      obtain ⟨g24, h⟩ := h
      obtain ⟨g25, h⟩ := h
      refine aw_getR 66 dX4_mix_63 fl_RX4_10 rfl g24 g25 rfl ?_
      refine aw_iload_n 67 dX4_mix_66 rfl 1 rfl rfl ?_
      refine aw_iload_n 68 dX4_mix_67 rfl 2 rfl rfl ?_
      obtain ⟨g28, h⟩ := h
      refine aw_callV (M' := M_X3_silenceIn) 71 209 3 (hR X22 l0 0) [.int _, .int _] [] dX4_mix_68 lk_RX4_209 mv_X3_silenceIn mp_X3_silenceIn rfl ⟨leb rfl, leb rfl⟩ rfl (ltb rfl) g28 rfl (leb rfl) (leb rfl) (leb rfl) rfl (am_X3_silenceIn hG h) (kkI fun v27 X26 h => ?_) (kxN KrI.no)
      refine aw_widen (cc' := 2) (ss' := 12) (leb rfl) (leb rfl) ?_
      exact aw_ireturn (ty := .int) dX4_mix_71 rfl rfl (leb rfl) (leb rfl) (Or.inl ⟨_, rfl, h⟩)
    · replace h := h.2 c14
      exact aw_throw xcS 60 204 64 rfl th_xcS (by decide) (Or.inl ⟨dX4_mix_32, dX4_mix_35, dX4_mix_36, dX4_mix_38, dX4_mix_41⟩) rfl (ltb rfl) (leb rfl) (leb rfl) (leb rfl) (Or.inr ⟨_, rfl, h⟩))
set_option maxRecDepth 20000 in
theorem am_L_mix {G : GG} (hG : G.1.stackTraces = false) {l0 : Nat} {l1 : Int32} {l2 : Int32} {l3 : Nat} {X : XH} {K : Int32 → XH → Prop} (h : w_L_mix l0 l1 l2 l3 X K) : AM G M_L_mix X [.ref l0, .int l1, .int l2, .ref l3] (KrI K) := AM_ofH (by decide +kernel) (0, 10, 13, 13) [(0, 10, 17, 17)] rfl (leb rfl) hG (by
  show AW G M_L_mix 0 [(0, .ref l0), (1, .int l1), (2, .int l2), (3, .ref l3)] [] X 0 0 _
  unfold w_L_mix at h
  refine aw_aload_n 1 dL_mix_0 rfl 3 rfl rfl ?_
  refine aw_iconst 2 (v := 0) dL_mix_1 kI_0 rfl ?_
  refine aw_aload_n 3 dL_mix_2 rfl 0 rfl rfl ?_
  refine aw_iload_n 4 dL_mix_3 rfl 1 rfl rfl ?_
  refine aw_iload_n 5 dL_mix_4 rfl 2 rfl rfl ?_
  obtain ⟨g3, h⟩ := h
  refine aw_callV (M' := M_X4_mix) 8 51 4 l0 [.int _, .int _] [.int _, .ref _] dL_mix_5 lk_RL_51 mv_X4_mix mp_X4_mix rfl ⟨leb rfl, leb rfl⟩ rfl (ltb rfl) g3 rfl (leb rfl) (leb rfl) (leb rfl) rfl (am_X4_mix hG h) (kkT (kkI fun v2 X1 h => ?_)) (kxT KrI.no fun E X1 h => ?_)
  · refine aw_widen (cc' := 3) (ss' := 18) (leb rfl) (leb rfl) ?_
    refine aw_i2l 9 dL_mix_8 rfl ?_
    obtain ⟨g4, h⟩ := h
    obtain ⟨g5, h⟩ := h
    refine aw_lastore 10 dL_mix_9 g4 g5 rfl ?_
    refine aw_goto 21 dL_mix_10 rfl ?_
    refine aw_iconst 22 (v := 0) dL_mix_21 kI_0 rfl ?_
    exact aw_ireturn (ty := .int) dL_mix_22 rfl rfl (leb rfl) (leb rfl) ⟨_, rfl, h⟩
  · obtain ⟨hE, h⟩ := h
    rcases hE with rfl | rfl
    · refine aw_atc (lv' := [(0, .ref _), (1, .int _), (2, .int _), (3, .ref _)]) [] (0, 10, 13, 13) [(0, 10, 17, 17)] rfl (fun z hz => nomatch hz) (by decide) (by decide) (tk3 (i := 61) (by decide +kernel) rfl) (by decide) 4 2 15 (Or.inr ⟨dL_mix_13, rfl⟩) (ltb rfl) rfl ?_
      refine aw_widen (cc' := 3) (ss' := 18) (leb rfl) (leb rfl) ?_
      replace h := h.1 rfl
      refine aw_iconst 16 (v := 1) dL_mix_15 kI_1 rfl ?_
      exact aw_ireturn (ty := .int) dL_mix_16 rfl rfl (leb rfl) (leb rfl) ⟨_, rfl, h⟩
    · refine aw_atc (lv' := [(0, .ref _), (1, .int _), (2, .int _), (3, .ref _)]) [(0, 10, 13, 13)] (0, 10, 17, 17) [] rfl (by intro z hz; simp only [List.mem_cons, List.not_mem_nil, or_false] at hz; rcases hz with rfl <;> first | exact ⟨by decide, xcI, tk3 (i := 61) (by decide +kernel) rfl, by decide⟩) (by decide) (by decide) (tk3 (i := 63) (by decide +kernel) rfl) (by decide) 4 2 19 (Or.inr ⟨dL_mix_17, rfl⟩) (ltb rfl) rfl ?_
      refine aw_widen (cc' := 3) (ss' := 18) (leb rfl) (leb rfl) ?_
      replace h := h.2 rfl
      refine aw_iconst 20 (v := 2) dL_mix_19 kI_2 rfl ?_
      exact aw_ireturn (ty := .int) dL_mix_20 rfl rfl (leb rfl) (leb rfl) ⟨_, rfl, h⟩)
set_option maxRecDepth 20000 in
theorem am_X5_isPlace {G : GG} (hG : G.1.stackTraces = false) {l0 : Int32} {l1 : Int32} {X : XH} {K : Int32 → XH → Prop} (h : w_X5_isPlace l0 l1 X K) : AM G M_X5_isPlace X [.int l0, .int l1] (KrI K) := AM_of (by decide +kernel) rfl (leb rfl) hG (by
  show AW G M_X5_isPlace 0 [(0, .int l0), (1, .int l1)] [] X 0 0 _
  unfold w_X5_isPlace at h
  refine aw_iload_n 1 dX5_isPlace_0 rfl 0 rfl rfl ?_
  refine aw_callS (M' := M_X5_isReel) 4 75 [.int _] [] dX5_isPlace_1 lk_RX5_75 ms_X5_isReel mp_X5_isReel rfl ⟨leb rfl, leb rfl⟩ rfl (leb rfl) (leb rfl) (leb rfl) rfl (am_X5_isReel hG h) (kkI fun v2 X1 h => ?_) (kxN KrI.no)
  refine aw_widen (cc' := 0) (ss' := 0) (leb rfl) (leb rfl) ?_
  refine aw_if_eq 18 7 dX5_isPlace_4 rfl rfl (fun c3 => ?_) (fun c3 => ?_)
  · replace h := h.1 c3
    refine aw_iconst 19 (v := 0) dX5_isPlace_18 kI_0 rfl ?_
    exact aw_ireturn (ty := .boolean) dX5_isPlace_19 rfl rfl (leb rfl) (leb rfl) ⟨_, rfl, h⟩
  · replace h := h.2 c3
    refine aw_iload_n 8 dX5_isPlace_7 rfl 1 rfl rfl ?_
    refine aw_callS (M' := M_X5_isTongue) 11 38 [.int _] [] dX5_isPlace_8 lk_RX5_38 ms_X5_isTongue mp_X5_isTongue rfl ⟨leb rfl, leb rfl⟩ rfl (leb rfl) (leb rfl) (leb rfl) rfl (am_X5_isTongue hG h) (kkI fun v5 X4 h => ?_) (kxN KrI.no)
    refine aw_widen (cc' := 0) (ss' := 0) (leb rfl) (leb rfl) ?_
    refine aw_if_eq 18 14 dX5_isPlace_11 rfl rfl (fun c6 => ?_) (fun c6 => ?_)
    · replace h := h.1 c6
      refine aw_iconst 19 (v := 0) dX5_isPlace_18 kI_0 rfl ?_
      exact aw_ireturn (ty := .boolean) dX5_isPlace_19 rfl rfl (leb rfl) (leb rfl) ⟨_, rfl, h⟩
    · replace h := h.2 c6
      refine aw_iconst 15 (v := 1) dX5_isPlace_14 kI_1 rfl ?_
      refine aw_goto 19 dX5_isPlace_15 rfl ?_
      exact aw_ireturn (ty := .boolean) dX5_isPlace_19 rfl rfl (leb rfl) (leb rfl) ⟨_, rfl, h⟩)
set_option maxRecDepth 20000 in
theorem am_X5_mixed {G : GG} (hG : G.1.stackTraces = false) {l0 : Nat} {l1 : Int32} {l2 : Int32} {X : XH} {K : Int32 → XH → Prop} (h : w_X5_mixed l0 l1 l2 X K) : AM G M_X5_mixed X [.ref l0, .int l1, .int l2] (KrI K) := AM_of (by decide +kernel) rfl (leb rfl) hG (by
  show AW G M_X5_mixed 0 [(0, .ref l0), (1, .int l1), (2, .int l2)] [] X 0 0 _
  unfold w_X5_mixed at h
  refine aw_aload_n 1 dX5_mixed_0 rfl 0 rfl rfl ?_
  obtain ⟨g1, h⟩ := h
  obtain ⟨g2, h⟩ := h
  refine aw_getR 4 dX5_mixed_1 fl_RX5_7 rfl g1 g2 rfl ?_
  refine aw_sipush 7 (v := 342) dX5_mixed_4 kS_342 rfl ?_
  refine aw_iconst 8 (v := 3) dX5_mixed_7 kI_3 rfl ?_
  refine aw_iload_n 9 dX5_mixed_8 rfl 1 rfl rfl ?_
  refine aw_imul 10 dX5_mixed_9 rfl ?_
  refine aw_iadd 11 dX5_mixed_10 rfl ?_
  refine aw_iload_n 12 dX5_mixed_11 rfl 2 rfl rfl ?_
  refine aw_iadd 13 dX5_mixed_12 rfl ?_
  obtain ⟨g3, h⟩ := h
  obtain ⟨g4, h⟩ := h
  refine aw_iaload 14 dX5_mixed_13 g3 g4 rfl ?_
  refine aw_iconst 15 (v := 1) dX5_mixed_14 kI_1 rfl ?_
  refine aw_icmp_ne 22 18 dX5_mixed_15 rfl rfl (fun c5 => ?_) (fun c5 => ?_)
  · replace h := h.1 c5
    refine aw_iconst 23 (v := 0) dX5_mixed_22 kI_0 rfl ?_
    exact aw_ireturn (ty := .boolean) dX5_mixed_23 rfl rfl (leb rfl) (leb rfl) ⟨_, rfl, h⟩
  · replace h := h.2 c5
    refine aw_iconst 19 (v := 1) dX5_mixed_18 kI_1 rfl ?_
    refine aw_goto 23 dX5_mixed_19 rfl ?_
    exact aw_ireturn (ty := .boolean) dX5_mixed_23 rfl rfl (leb rfl) (leb rfl) ⟨_, rfl, h⟩)
set_option maxRecDepth 20000 in
theorem aw_X5_complete_54 {G : GG} (hG : G.1.stackTraces = false) {P8 : Nat → Int32 → Int32 → Int32 → Int32 → Int32 → XH → Prop} {l0 : Nat} {l1 : Int32} {l2 : Int32} {l4 : Int32} {l5 : Int32} {l6 : Int32} {s0 : Int32} {s1 : Int32} {X : XH} {K : Int32 → XH → Prop} (hO8 : ∀ (l0 : Nat) (l1 : Int32) (l2 : Int32) (l3 : Int32) (l4 : Int32) (l5 : Int32) (X : XH), P8 l0 l1 l2 l3 l4 l5 X → AW G M_X5_complete 8 [(0, .ref l0), (1, .int l1), (2, .int l2), (3, .int l3), (4, .int l4), (5, .int l5)] [] X 0 0 (KrI K)) (h : w_X5_complete_54 P8 l0 l1 l2 l4 l5 l6 s0 s1 X K) : AW G M_X5_complete 54 [(0, .ref l0), (1, .int l1), (2, .int l2), (4, .int l4), (5, .int l5), (6, .int l6)] [.int s1, .int s0] X 0 0 (KrI K) := by
  unfold w_X5_complete_54 at h
  refine aw_iadd 55 dX5_complete_54 rfl ?_
  refine aw_istore_n 56 (lv' := [(3, _), (0, _), (1, _), (2, _), (4, _), (5, _), (6, _)]) dX5_complete_55 rfl (ltb rfl) rfl rfl ?_
  refine aw_iload 58 dX5_complete_56 4 rfl rfl ?_
  refine aw_if_eq 80 61 dX5_complete_58 rfl rfl (fun c1 => ?_) (fun c1 => ?_)
  · replace h := h.1 c1
    refine aw_iconst 81 (v := 0) dX5_complete_80 kI_0 rfl ?_
    refine aw_istore 83 (lv' := [(4, _), (3, _), (0, _), (1, _), (2, _), (5, _), (6, _)]) dX5_complete_81 (ltb rfl) rfl rfl ?_
    refine aw_iinc 86 (v := 1) (lv' := [(5, _), (4, _), (3, _), (0, _), (1, _), (2, _), (6, _)]) dX5_complete_83 5 rfl kI_1 (ltb rfl) rfl rfl ?_
    refine aw_goto 8 dX5_complete_86 rfl ?_
    exact aw_pick [3, 4, 5, 2, 1, 0] rfl (hO8 _ _ _ _ _ _ _ h)
  · replace h := h.2 c1
    refine aw_iload 63 dX5_complete_61 6 rfl rfl ?_
    refine aw_if_eq 76 66 dX5_complete_63 rfl rfl (fun c2 => ?_) (fun c2 => ?_)
    · replace h := h.1 c2
      refine aw_iconst 77 (v := 1) dX5_complete_76 kI_1 rfl ?_
      refine aw_goto 81 dX5_complete_77 rfl ?_
      refine aw_istore 83 (lv' := [(4, _), (3, _), (0, _), (1, _), (2, _), (5, _), (6, _)]) dX5_complete_81 (ltb rfl) rfl rfl ?_
      refine aw_iinc 86 (v := 1) (lv' := [(5, _), (4, _), (3, _), (0, _), (1, _), (2, _), (6, _)]) dX5_complete_83 5 rfl kI_1 (ltb rfl) rfl rfl ?_
      refine aw_goto 8 dX5_complete_86 rfl ?_
      exact aw_pick [3, 4, 5, 2, 1, 0] rfl (hO8 _ _ _ _ _ _ _ h)
    · replace h := h.2 c2
      refine aw_aload_n 67 dX5_complete_66 rfl 1 rfl rfl ?_
      refine aw_iload 69 dX5_complete_67 5 rfl rfl ?_
      refine aw_iload_n 70 dX5_complete_69 rfl 3 rfl rfl ?_
      obtain ⟨g5, h⟩ := h
      refine aw_callV (M' := M_X5_isTaken) 73 51 5 l0 [.int _, .int _] [] dX5_complete_70 lk_RX5_51 mv_X5_isTaken mp_X5_isTaken rfl ⟨leb rfl, leb rfl⟩ rfl (ltb rfl) g5 rfl (leb rfl) (leb rfl) (leb rfl) rfl (am_X5_isTaken hG h) (kkI fun v4 X3 h => ?_) (kxN KrI.no)
      refine aw_widen (cc' := 0) (ss' := 0) (leb rfl) (leb rfl) ?_
      refine aw_if_eq 80 76 dX5_complete_73 rfl rfl (fun c6 => ?_) (fun c6 => ?_)
      · replace h := h.1 c6
        refine aw_iconst 81 (v := 0) dX5_complete_80 kI_0 rfl ?_
        refine aw_istore 83 (lv' := [(4, _), (3, _), (0, _), (1, _), (2, _), (5, _), (6, _)]) dX5_complete_81 (ltb rfl) rfl rfl ?_
        refine aw_iinc 86 (v := 1) (lv' := [(5, _), (4, _), (3, _), (0, _), (1, _), (2, _), (6, _)]) dX5_complete_83 5 rfl kI_1 (ltb rfl) rfl rfl ?_
        refine aw_goto 8 dX5_complete_86 rfl ?_
        exact aw_pick [3, 4, 5, 2, 1, 0] rfl (hO8 _ _ _ _ _ _ _ h)
      · replace h := h.2 c6
        refine aw_iconst 77 (v := 1) dX5_complete_76 kI_1 rfl ?_
        refine aw_goto 81 dX5_complete_77 rfl ?_
        refine aw_istore 83 (lv' := [(4, _), (3, _), (0, _), (1, _), (2, _), (5, _), (6, _)]) dX5_complete_81 (ltb rfl) rfl rfl ?_
        refine aw_iinc 86 (v := 1) (lv' := [(5, _), (4, _), (3, _), (0, _), (1, _), (2, _), (6, _)]) dX5_complete_83 5 rfl kI_1 (ltb rfl) rfl rfl ?_
        refine aw_goto 8 dX5_complete_86 rfl ?_
        exact aw_pick [3, 4, 5, 2, 1, 0] rfl (hO8 _ _ _ _ _ _ _ h)
set_option maxRecDepth 20000 in
theorem aw_X5_complete_8 {G : GG} (hG : G.1.stackTraces = false)  {l0 : Nat} {l1 : Int32} {l2 : Int32} {l3 : Int32} {l4 : Int32} {l5 : Int32} {X : XH} {K : Int32 → XH → Prop}  (h : w_X5_complete_8  l0 l1 l2 l3 l4 l5 X K) : AW G M_X5_complete 8 [(0, .ref l0), (1, .int l1), (2, .int l2), (3, .int l3), (4, .int l4), (5, .int l5)] [] X 0 0 (KrI K) :=
  h (fun l0 l1 l2 l3 l4 l5 X => AW G M_X5_complete 8 [(0, .ref l0), (1, .int l1), (2, .int l2), (3, .int l3), (4, .int l4), (5, .int l5)] [] X 0 0 (KrI K)) (fun l0 l1 l2 l3 l4 l5 X h => by
    refine aw_iload 10 dX5_complete_8 5 rfl rfl ?_
    refine aw_aload_n 11 dX5_complete_10 rfl 0 rfl rfl ?_
    obtain ⟨g1, h⟩ := h
    obtain ⟨g2, h⟩ := h
    refine aw_getR 14 dX5_complete_11 fl_RX5_7 rfl g1 g2 rfl ?_
    refine aw_sipush 17 (v := 366) dX5_complete_14 kS_366 rfl ?_
    obtain ⟨g3, h⟩ := h
    obtain ⟨g4, h⟩ := h
    refine aw_iaload 18 dX5_complete_17 g3 g4 rfl ?_
    refine aw_icmp_ge 89 21 dX5_complete_18 rfl rfl (fun c5 => ?_) (fun c5 => ?_)
    · replace h := h.1 c5
      refine aw_iload_n 90 dX5_complete_89 rfl 3 rfl rfl ?_
      refine aw_if_le 102 93 dX5_complete_90 rfl rfl (fun c6 => ?_) (fun c6 => ?_)
      · replace h := h.1 c6
        refine aw_iconst 103 (v := 0) dX5_complete_102 kI_0 rfl ?_
        exact aw_ireturn (ty := .boolean) dX5_complete_103 rfl rfl (leb rfl) (leb rfl) ⟨_, rfl, h⟩
      · replace h := h.2 c6
        refine aw_iload 95 dX5_complete_93 4 rfl rfl ?_
        refine aw_if_eq 102 98 dX5_complete_95 rfl rfl (fun c7 => ?_) (fun c7 => ?_)
        · replace h := h.1 c7
          refine aw_iconst 103 (v := 0) dX5_complete_102 kI_0 rfl ?_
          exact aw_ireturn (ty := .boolean) dX5_complete_103 rfl rfl (leb rfl) (leb rfl) ⟨_, rfl, h⟩
        · replace h := h.2 c7
          refine aw_iconst 99 (v := 1) dX5_complete_98 kI_1 rfl ?_
          refine aw_goto 103 dX5_complete_99 rfl ?_
          exact aw_ireturn (ty := .boolean) dX5_complete_103 rfl rfl (leb rfl) (leb rfl) ⟨_, rfl, h⟩
    · replace h := h.2 c5
      refine aw_aload_n 22 dX5_complete_21 rfl 0 rfl rfl ?_
      refine aw_getR 25 dX5_complete_22 fl_RX5_7 rfl g1 g2 rfl ?_
      refine aw_iload 27 dX5_complete_25 5 rfl rfl ?_
      refine aw_iconst 28 (v := 0) dX5_complete_27 kI_0 rfl ?_
      refine aw_callS (M' := M_X5_at) 31 44 [.int _, .int _] [.ref _] dX5_complete_28 lk_RX5_44 ms_X5_at mp_X5_at rfl ⟨leb rfl, leb rfl⟩ rfl (leb rfl) (leb rfl) (leb rfl) rfl (am_X5_at hG h) (kkI fun v9 X8 h => ?_) (kxN KrI.no)
      refine aw_widen (cc' := 0) (ss' := 0) (leb rfl) (leb rfl) ?_
      obtain ⟨g10, h⟩ := h
      obtain ⟨g11, h⟩ := h
      refine aw_iaload 32 dX5_complete_31 g10 g11 rfl ?_
      refine aw_iload_n 33 dX5_complete_32 rfl 1 rfl rfl ?_
      refine aw_icmp_ne 40 36 dX5_complete_33 rfl rfl (fun c12 => ?_) (fun c12 => ?_)
      · replace h := h.1 c12
        refine aw_iconst 41 (v := 0) dX5_complete_40 kI_0 rfl ?_
        refine aw_istore 43 (lv' := [(6, _), (0, _), (1, _), (2, _), (3, _), (4, _), (5, _)]) dX5_complete_41 (ltb rfl) rfl rfl ?_
        refine aw_iload_n 44 dX5_complete_43 rfl 4 rfl rfl ?_
        refine aw_iload 46 dX5_complete_44 0 rfl rfl ?_
        refine aw_if_eq 53 49 dX5_complete_46 rfl rfl (fun c13 => ?_) (fun c13 => ?_)
        · replace h := h.1 c13
          refine aw_iconst 54 (v := 0) dX5_complete_53 kI_0 rfl ?_
          exact aw_pick [1, 2, 3, 5, 6, 0] rfl (aw_X5_complete_54 hG (fun _ _ _ _ _ _ _ h => h) h)
        · replace h := h.2 c13
          refine aw_iconst 50 (v := 1) dX5_complete_49 kI_1 rfl ?_
          refine aw_goto 54 dX5_complete_50 rfl ?_
          exact aw_pick [1, 2, 3, 5, 6, 0] rfl (aw_X5_complete_54 hG (fun _ _ _ _ _ _ _ h => h) h)
      · replace h := h.2 c12
        refine aw_iconst 37 (v := 1) dX5_complete_36 kI_1 rfl ?_
        refine aw_goto 41 dX5_complete_37 rfl ?_
        refine aw_istore 43 (lv' := [(6, _), (0, _), (1, _), (2, _), (3, _), (4, _), (5, _)]) dX5_complete_41 (ltb rfl) rfl rfl ?_
        refine aw_iload_n 44 dX5_complete_43 rfl 4 rfl rfl ?_
        refine aw_iload 46 dX5_complete_44 0 rfl rfl ?_
        refine aw_if_eq 53 49 dX5_complete_46 rfl rfl (fun c14 => ?_) (fun c14 => ?_)
        · replace h := h.1 c14
          refine aw_iconst 54 (v := 0) dX5_complete_53 kI_0 rfl ?_
          exact aw_pick [1, 2, 3, 5, 6, 0] rfl (aw_X5_complete_54 hG (fun _ _ _ _ _ _ _ h => h) h)
        · replace h := h.2 c14
          refine aw_iconst 50 (v := 1) dX5_complete_49 kI_1 rfl ?_
          refine aw_goto 54 dX5_complete_50 rfl ?_
          exact aw_pick [1, 2, 3, 5, 6, 0] rfl (aw_X5_complete_54 hG (fun _ _ _ _ _ _ _ h => h) h))
set_option maxRecDepth 20000 in
theorem am_X5_complete {G : GG} (hG : G.1.stackTraces = false) {l0 : Nat} {l1 : Int32} {l2 : Int32} {X : XH} {K : Int32 → XH → Prop} (h : w_X5_complete l0 l1 l2 X K) : AM G M_X5_complete X [.ref l0, .int l1, .int l2] (KrI K) := AM_of (by decide +kernel) rfl (leb rfl) hG (by
  show AW G M_X5_complete 0 [(0, .ref l0), (1, .int l1), (2, .int l2)] [] X 0 0 _
  unfold w_X5_complete at h
  refine aw_iconst 1 (v := 0) dX5_complete_0 kI_0 rfl ?_
  refine aw_istore_n 2 (lv' := [(3, _), (0, _), (1, _), (2, _)]) dX5_complete_1 rfl (ltb rfl) rfl rfl ?_
  refine aw_iconst 3 (v := 1) dX5_complete_2 kI_1 rfl ?_
  refine aw_istore 5 (lv' := [(4, _), (3, _), (0, _), (1, _), (2, _)]) dX5_complete_3 (ltb rfl) rfl rfl ?_
  refine aw_iconst 6 (v := 0) dX5_complete_5 kI_0 rfl ?_
  refine aw_istore 8 (lv' := [(5, _), (4, _), (3, _), (0, _), (1, _), (2, _)]) dX5_complete_6 (ltb rfl) rfl rfl ?_
  exact aw_pick [3, 4, 5, 2, 1, 0] rfl (aw_X5_complete_8 hG  h))
end XWK4
