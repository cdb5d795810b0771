/-! the walks of methods, as predicates -/
section XWK10
set_option maxRecDepth 20000 in
theorem aw_X5_spoken_4 {G : GG} (hG : G.1.stackTraces = false)  {l0 : Nat} {l1 : Int32} {l2 : Int32} {l3 : Int32} {X : XH} {K : Int32 → XH → Prop}  (h : w_X5_spoken_4  l0 l1 l2 l3 X K) : AW G M_X5_spoken 4 [(0, .ref l0), (1, .int l1), (2, .int l2), (3, .int l3)] [] X 0 0 (KrI K) :=
  h (fun l0 l1 l2 l3 X => AW G M_X5_spoken 4 [(0, .ref l0), (1, .int l1), (2, .int l2), (3, .int l3)] [] X 0 0 (KrI K)) (fun l0 l1 l2 l3 X h => by
    refine aw_iload_n 5 dX5_spoken_4 rfl 3 rfl rfl ?_
    refine aw_aload_n 6 dX5_spoken_5 rfl 0 rfl rfl ?_
    obtain ⟨g1, h⟩ := h
    obtain ⟨g2, h⟩ := h
    refine aw_getR 9 dX5_spoken_6 fl_RX5_7 rfl g1 g2 rfl ?_
    refine aw_sipush 12 (v := 366) dX5_spoken_9 kS_366 rfl ?_
    obtain ⟨g3, h⟩ := h
    obtain ⟨g4, h⟩ := h
    refine aw_iaload 13 dX5_spoken_12 g3 g4 rfl ?_
    refine aw_icmp_ge 53 16 dX5_spoken_13 rfl rfl (fun c5 => ?_) (fun c5 => ?_)
    · replace h := h.1 c5
      refine aw_iload_n 54 dX5_spoken_53 rfl 2 rfl rfl ?_
      exact aw_ireturn (ty := .int) dX5_spoken_54 rfl rfl (leb rfl) (leb rfl) ⟨_, rfl, h⟩
    · replace h := h.2 c5
      refine aw_iload_n 17 dX5_spoken_16 rfl 2 rfl rfl ?_
      refine aw_aload_n 18 dX5_spoken_17 rfl 0 rfl rfl ?_
      refine aw_getR 21 dX5_spoken_18 fl_RX5_7 rfl g1 g2 rfl ?_
      refine aw_iload_n 22 dX5_spoken_21 rfl 3 rfl rfl ?_
      refine aw_iconst 23 (v := 1) dX5_spoken_22 kI_1 rfl ?_
      refine aw_callS (M' := M_X5_at) 26 44 [.int _, .int _] [.ref _, .int _] dX5_spoken_23 lk_RX5_44 ms_X5_at mp_X5_at rfl ⟨leb rfl, leb rfl⟩ rfl (leb rfl) (leb rfl) (leb rfl) rfl (am_X5_at hG h) (kkI fun v7 X6 h => ?_) (kxN KrI.no)
      refine aw_widen (cc' := 0) (ss' := 0) (leb rfl) (leb rfl) ?_
      obtain ⟨g8, h⟩ := h
      obtain ⟨g9, h⟩ := h
      refine aw_iaload 27 dX5_spoken_26 g8 g9 rfl ?_
      refine aw_iload_n 28 dX5_spoken_27 rfl 1 rfl rfl ?_
      refine aw_icmp_ne 44 31 dX5_spoken_28 rfl rfl (fun c10 => ?_) (fun c10 => ?_)
      · replace h := h.1 c10
        refine aw_iconst 45 (v := 0) dX5_spoken_44 kI_0 rfl ?_
        refine aw_iadd 46 dX5_spoken_45 rfl ?_
        refine aw_istore_n 47 (lv' := [(2, _), (0, _), (1, _), (3, _)]) dX5_spoken_46 rfl (ltb rfl) rfl rfl ?_
        refine aw_iinc 50 (v := 1) (lv' := [(3, _), (2, _), (0, _), (1, _)]) dX5_spoken_47 3 rfl kI_1 (ltb rfl) rfl rfl ?_
        refine aw_goto 4 dX5_spoken_50 rfl ?_
        exact aw_pick [2, 3, 1, 0] rfl h
      · replace h := h.2 c10
        refine aw_aload_n 32 dX5_spoken_31 rfl 0 rfl rfl ?_
        obtain ⟨g11, h⟩ := h
        obtain ⟨g12, h⟩ := h
        refine aw_getR 35 dX5_spoken_32 fl_RX5_7 rfl g11 g12 rfl ?_
        refine aw_iload_n 36 dX5_spoken_35 rfl 3 rfl rfl ?_
        refine aw_iconst 37 (v := 2) dX5_spoken_36 kI_2 rfl ?_
        refine aw_callS (M' := M_X5_at) 40 44 [.int _, .int _] [.ref _, .int _] dX5_spoken_37 lk_RX5_44 ms_X5_at mp_X5_at rfl ⟨leb rfl, leb rfl⟩ rfl (leb rfl) (leb rfl) (leb rfl) rfl (am_X5_at hG h) (kkI fun v14 X13 h => ?_) (kxN KrI.no)
        refine aw_widen (cc' := 0) (ss' := 0) (leb rfl) (leb rfl) ?_
        obtain ⟨g15, h⟩ := h
        obtain ⟨g16, h⟩ := h
        refine aw_iaload 41 dX5_spoken_40 g15 g16 rfl ?_
        refine aw_goto 45 dX5_spoken_41 rfl ?_
        refine aw_iadd 46 dX5_spoken_45 rfl ?_
        refine aw_istore_n 47 (lv' := [(2, _), (0, _), (1, _), (3, _)]) dX5_spoken_46 rfl (ltb rfl) rfl rfl ?_
        refine aw_iinc 50 (v := 1) (lv' := [(3, _), (2, _), (0, _), (1, _)]) dX5_spoken_47 3 rfl kI_1 (ltb rfl) rfl rfl ?_
        refine aw_goto 4 dX5_spoken_50 rfl ?_
        exact aw_pick [2, 3, 1, 0] rfl h)
set_option maxRecDepth 20000 in
theorem am_X5_spoken {G : GG} (hG : G.1.stackTraces = false) {l0 : Nat} {l1 : Int32} {X : XH} {K : Int32 → XH → Prop} (h : w_X5_spoken l0 l1 X K) : AM G M_X5_spoken X [.ref l0, .int l1] (KrI K) := AM_of (by decide +kernel) rfl (leb rfl) hG (by
  show AW G M_X5_spoken 0 [(0, .ref l0), (1, .int l1)] [] X 0 0 _
  unfold w_X5_spoken at h
  refine aw_iconst 1 (v := 0) dX5_spoken_0 kI_0 rfl ?_
  refine aw_istore_n 2 (lv' := [(2, _), (0, _), (1, _)]) dX5_spoken_1 rfl (ltb rfl) rfl rfl ?_
  refine aw_iconst 3 (v := 0) dX5_spoken_2 kI_0 rfl ?_
  refine aw_istore_n 4 (lv' := [(3, _), (2, _), (0, _), (1, _)]) dX5_spoken_3 rfl (ltb rfl) rfl rfl ?_
  exact aw_pick [2, 3, 1, 0] rfl (aw_X5_spoken_4 hG  h))
set_option maxRecDepth 20000 in
theorem aw_X5_loudest_4 {G : GG} (hG : G.1.stackTraces = false)  {l0 : Nat} {l1 : Int32} {l2 : Int32} {X : XH} {K : Int32 → XH → Prop}  (h : w_X5_loudest_4  l0 l1 l2 X K) : AW G M_X5_loudest 4 [(0, .ref l0), (1, .int l1), (2, .int l2)] [] X 0 0 (KrI K) :=
  h (fun l0 l1 l2 X => AW G M_X5_loudest 4 [(0, .ref l0), (1, .int l1), (2, .int l2)] [] X 0 0 (KrI K)) (fun l0 l1 l2 X h => by
    refine aw_iload_n 5 dX5_loudest_4 rfl 2 rfl rfl ?_
    refine aw_iconst 6 (v := 5) dX5_loudest_5 kI_5 rfl ?_
    refine aw_icmp_ge 34 9 dX5_loudest_6 rfl rfl (fun c1 => ?_) (fun c1 => ?_)
    · replace h := h.1 c1
      refine aw_iload_n 35 dX5_loudest_34 rfl 1 rfl rfl ?_
      exact aw_ireturn (ty := .int) dX5_loudest_35 rfl rfl (leb rfl) (leb rfl) ⟨_, rfl, h⟩
    · replace h := h.2 c1
      refine aw_aload_n 10 dX5_loudest_9 rfl 0 rfl rfl ?_
      refine aw_iload_n 11 dX5_loudest_10 rfl 2 rfl rfl ?_
      obtain ⟨g4, h⟩ := h
      refine aw_callV (M' := M_X5_spoken) 14 227 5 l0 [.int _] [] dX5_loudest_11 lk_RX5_227 mv_X5_spoken mp_X5_spoken rfl ⟨leb rfl, leb rfl⟩ rfl (ltb rfl) g4 rfl (leb rfl) (leb rfl) (leb rfl) rfl (am_X5_spoken hG h) (kkI fun v3 X2 h => ?_) (kxN KrI.no)
      refine aw_widen (cc' := 0) (ss' := 0) (leb rfl) (leb rfl) ?_
      refine aw_aload_n 15 dX5_loudest_14 rfl 0 rfl rfl ?_
      refine aw_iload_n 16 dX5_loudest_15 rfl 1 rfl rfl ?_
      obtain ⟨g7, h⟩ := h
      refine aw_callV (M' := M_X5_spoken) 19 227 5 l0 [.int _] [.int _] dX5_loudest_16 lk_RX5_227 mv_X5_spoken mp_X5_spoken rfl ⟨leb rfl, leb rfl⟩ rfl (ltb rfl) g7 rfl (leb rfl) (leb rfl) (leb rfl) rfl (am_X5_spoken hG h) (kkI fun v6 X5 h => ?_) (kxN KrI.no)
      refine aw_widen (cc' := 0) (ss' := 0) (leb rfl) (leb rfl) ?_
      refine aw_icmp_le 26 22 dX5_loudest_19 rfl rfl (fun c8 => ?_) (fun c8 => ?_)
      · replace h := h.1 c8
        refine aw_iload_n 27 dX5_loudest_26 rfl 1 rfl rfl ?_
        refine aw_istore_n 28 (lv' := [(1, _), (0, _), (2, _)]) dX5_loudest_27 rfl (ltb rfl) rfl rfl ?_
        refine aw_iinc 31 (v := 1) (lv' := [(2, _), (1, _), (0, _)]) dX5_loudest_28 2 rfl kI_1 (ltb rfl) rfl rfl ?_
        refine aw_goto 4 dX5_loudest_31 rfl ?_
        exact aw_pick [2, 1, 0] rfl h
      · replace h := h.2 c8
        refine aw_iload_n 23 dX5_loudest_22 rfl 2 rfl rfl ?_
        refine aw_goto 27 dX5_loudest_23 rfl ?_
        refine aw_istore_n 28 (lv' := [(1, _), (0, _), (2, _)]) dX5_loudest_27 rfl (ltb rfl) rfl rfl ?_
        refine aw_iinc 31 (v := 1) (lv' := [(2, _), (1, _), (0, _)]) dX5_loudest_28 2 rfl kI_1 (ltb rfl) rfl rfl ?_
        refine aw_goto 4 dX5_loudest_31 rfl ?_
        exact aw_pick [2, 1, 0] rfl h)
set_option maxRecDepth 20000 in
theorem am_X5_loudest {G : GG} (hG : G.1.stackTraces = false) {l0 : Nat} {X : XH} {K : Int32 → XH → Prop} (h : w_X5_loudest l0 X K) : AM G M_X5_loudest X [.ref l0] (KrI K) := AM_of (by decide +kernel) rfl (leb rfl) hG (by
  show AW G M_X5_loudest 0 [(0, .ref l0)] [] X 0 0 _
  unfold w_X5_loudest at h
  refine aw_iconst 1 (v := 0) dX5_loudest_0 kI_0 rfl ?_
  refine aw_istore_n 2 (lv' := [(1, _), (0, _)]) dX5_loudest_1 rfl (ltb rfl) rfl rfl ?_
  refine aw_iconst 3 (v := 1) dX5_loudest_2 kI_1 rfl ?_
  refine aw_istore_n 4 (lv' := [(2, _), (1, _), (0, _)]) dX5_loudest_3 rfl (ltb rfl) rfl rfl ?_
  exact aw_pick [2, 1, 0] rfl (aw_X5_loudest_4 hG  h))
set_option maxRecDepth 20000 in
theorem am_X5_loudestState {G : GG} (hG : G.1.stackTraces = false) {l0 : Nat} {X : XH} {K : Int32 → XH → Prop} (h : w_X5_loudestState l0 X K) : AM G M_X5_loudestState X [.ref l0] (KrI K) := AM_of (by decide +kernel) rfl (leb rfl) hG (by
  show AW G M_X5_loudestState 0 [(0, .ref l0)] [] X 0 0 _
  unfold w_X5_loudestState at h
  refine aw_aload_n 1 dX5_loudestState_0 rfl 0 rfl rfl ?_
  refine aw_aload_n 2 dX5_loudestState_1 rfl 0 rfl rfl ?_
  obtain ⟨g3, h⟩ := h
  refine aw_callV (M' := M_X5_loudest) 5 230 5 l0 [] [.ref _] dX5_loudestState_2 lk_RX5_230 mv_X5_loudest mp_X5_loudest rfl ⟨leb rfl, leb rfl⟩ rfl (ltb rfl) g3 rfl (leb rfl) (leb rfl) (leb rfl) rfl (am_X5_loudest hG h) (kkI fun v2 X1 h => ?_) (kxN KrI.no)
  refine aw_widen (cc' := 0) (ss' := 0) (leb rfl) (leb rfl) ?_
  obtain ⟨g6, h⟩ := h
  refine aw_callV (M' := M_X5_told) 8 167 5 l0 [.int _] [] dX5_loudestState_5 lk_RX5_167 mv_X5_told mp_X5_told rfl ⟨leb rfl, leb rfl⟩ rfl (ltb rfl) g6 rfl (leb rfl) (leb rfl) (leb rfl) rfl (am_X5_told hG h) (kkI fun v5 X4 h => ?_) (kxN KrI.no)
  refine aw_widen (cc' := 0) (ss' := 0) (leb rfl) (leb rfl) ?_
  exact aw_ireturn (ty := .int) dX5_loudestState_8 rfl rfl (leb rfl) (leb rfl) ⟨_, rfl, h⟩)
set_option maxRecDepth 20000 in
theorem aw_X3_meanHundredths_7 {G : GG} (hG : G.1.stackTraces = false)  {l0 : Nat} {l1 : Int32} {l2 : Int32} {l3 : Int32} {l4 : Int32} {X : XH} {K : UInt64 → XH → Prop}  (h : w_X3_meanHundredths_7  l0 l1 l2 l3 l4 X K) : AW G M_X3_meanHundredths 7 [(0, .ref l0), (1, .int l1), (2, .int l2), (3, .int l3), (4, .int l4)] [] X 0 0 (KrD K) :=
  h (fun l0 l1 l2 l3 l4 X => AW G M_X3_meanHundredths 7 [(0, .ref l0), (1, .int l1), (2, .int l2), (3, .int l3), (4, .int l4)] [] X 0 0 (KrD K)) (fun l0 l1 l2 l3 l4 X h => by
    refine aw_iload 9 dX3_meanHundredths_7 4 rfl rfl ?_
    refine aw_aload_n 10 dX3_meanHundredths_9 rfl 0 rfl rfl ?_
    obtain ⟨g1, h⟩ := h
    refine aw_getI 13 dX3_meanHundredths_10 fl_RX3_45 rfl g1 rfl ?_
    refine aw_icmp_ge 45 16 dX3_meanHundredths_13 rfl rfl (fun c2 => ?_) (fun c2 => ?_)
    · replace h := h.1 c2
      refine aw_iload_n 46 dX3_meanHundredths_45 rfl 3 rfl rfl ?_
      refine aw_if_le 57 49 dX3_meanHundredths_46 rfl rfl (fun c3 => ?_) (fun c3 => ?_)
      · replace h := h.1 c3
        refine aw_dconst0 58 dX3_meanHundredths_57 rfl ?_
        exact aw_dreturn dX3_meanHundredths_58 rfl (leb rfl) (leb rfl) ⟨_, rfl, h⟩
      · replace h := h.2 c3
        refine aw_iload_n 50 dX3_meanHundredths_49 rfl 2 rfl rfl ?_
        refine aw_i2d 51 dX3_meanHundredths_50 rfl ?_
        refine aw_iload_n 52 dX3_meanHundredths_51 rfl 3 rfl rfl ?_
        refine aw_i2d 53 dX3_meanHundredths_52 rfl ?_
        obtain ⟨g4, h⟩ := h
        refine aw_ddiv 54 dX3_meanHundredths_53 g4 rfl ?_
        refine aw_goto 58 dX3_meanHundredths_54 rfl ?_
        exact aw_dreturn dX3_meanHundredths_58 rfl (leb rfl) (leb rfl) ⟨_, rfl, h⟩
    · replace h := h.2 c2
      refine aw_aload_n 17 dX3_meanHundredths_16 rfl 0 rfl rfl ?_
      refine aw_iload 19 dX3_meanHundredths_17 4 rfl rfl ?_
      refine aw_iload_n 20 dX3_meanHundredths_19 rfl 1 rfl rfl ?_
      refine aw_callV (M' := M_X3_hasTranslation) 23 108 3 l0 [.int _, .int _] [] dX3_meanHundredths_20 lk_RX3_108 mv_X3_hasTranslation mp_X3_hasTranslation rfl ⟨leb rfl, leb rfl⟩ rfl (ltb rfl) g1 rfl (leb rfl) (leb rfl) (leb rfl) rfl (am_X3_hasTranslation hG h) (kkI fun v6 X5 h => ?_) (kxN KrI.no)
      refine aw_widen (cc' := 0) (ss' := 0) (leb rfl) (leb rfl) ?_
      refine aw_if_eq 39 26 dX3_meanHundredths_23 rfl rfl (fun c7 => ?_) (fun c7 => ?_)
      · replace h := h.1 c7
        refine aw_iinc 42 (v := 1) (lv' := [(4, _), (0, _), (1, _), (2, _), (3, _)]) dX3_meanHundredths_39 4 rfl kI_1 (ltb rfl) rfl rfl ?_
        refine aw_goto 7 dX3_meanHundredths_42 rfl ?_
        exact aw_pick [1, 2, 3, 4, 0] rfl h
      · replace h := h.2 c7
        refine aw_iload_n 27 dX3_meanHundredths_26 rfl 2 rfl rfl ?_
        refine aw_aload_n 28 dX3_meanHundredths_27 rfl 0 rfl rfl ?_
        refine aw_iload 30 dX3_meanHundredths_28 4 rfl rfl ?_
        refine aw_iload_n 31 dX3_meanHundredths_30 rfl 1 rfl rfl ?_
        obtain ⟨g10, h⟩ := h
        refine aw_callV (M' := M_X3_hundredthsAt) 34 175 3 l0 [.int _, .int _] [.int _] dX3_meanHundredths_31 lk_RX3_175 mv_X3_hundredthsAt mp_X3_hundredthsAt rfl ⟨leb rfl, leb rfl⟩ rfl (ltb rfl) g10 rfl (leb rfl) (leb rfl) (leb rfl) rfl (am_X3_hundredthsAt hG h) (kkI fun v9 X8 h => ?_) (kxN KrI.no)
        refine aw_widen (cc' := 0) (ss' := 0) (leb rfl) (leb rfl) ?_
        refine aw_iadd 35 dX3_meanHundredths_34 rfl ?_
        refine aw_istore_n 36 (lv' := [(2, _), (0, _), (1, _), (3, _), (4, _)]) dX3_meanHundredths_35 rfl (ltb rfl) rfl rfl ?_
        refine aw_iinc 39 (v := 1) (lv' := [(3, _), (2, _), (0, _), (1, _), (4, _)]) dX3_meanHundredths_36 3 rfl kI_1 (ltb rfl) rfl rfl ?_
        refine aw_iinc 42 (v := 1) (lv' := [(4, _), (3, _), (2, _), (0, _), (1, _)]) dX3_meanHundredths_39 4 rfl kI_1 (ltb rfl) rfl rfl ?_
        refine aw_goto 7 dX3_meanHundredths_42 rfl ?_
        exact aw_pick [3, 4, 2, 1, 0] rfl h)
set_option maxRecDepth 20000 in
theorem am_X3_meanHundredths {G : GG} (hG : G.1.stackTraces = false) {l0 : Nat} {l1 : Int32} {X : XH} {K : UInt64 → XH → Prop} (h : w_X3_meanHundredths l0 l1 X K) : AM G M_X3_meanHundredths X [.ref l0, .int l1] (KrD K) := AM_of (by decide +kernel) rfl (leb rfl) hG (by
  show AW G M_X3_meanHundredths 0 [(0, .ref l0), (1, .int l1)] [] X 0 0 _
  unfold w_X3_meanHundredths at h
  refine aw_iconst 1 (v := 0) dX3_meanHundredths_0 kI_0 rfl ?_
  refine aw_istore_n 2 (lv' := [(2, _), (0, _), (1, _)]) dX3_meanHundredths_1 rfl (ltb rfl) rfl rfl ?_
  refine aw_iconst 3 (v := 0) dX3_meanHundredths_2 kI_0 rfl ?_
  refine aw_istore_n 4 (lv' := [(3, _), (2, _), (0, _), (1, _)]) dX3_meanHundredths_3 rfl (ltb rfl) rfl rfl ?_
  refine aw_iconst 5 (v := 0) dX3_meanHundredths_4 kI_0 rfl ?_
  refine aw_istore 7 (lv' := [(4, _), (3, _), (2, _), (0, _), (1, _)]) dX3_meanHundredths_5 (ltb rfl) rfl rfl ?_
  exact aw_pick [3, 4, 2, 1, 0] rfl (aw_X3_meanHundredths_7 hG  h))
set_option maxRecDepth 20000 in
theorem am_X4_meanFit {G : GG} (hG : G.1.stackTraces = false) {l0 : Nat} {l1 : Int32} {X : XH} {K : UInt64 → XH → Prop} {KX : String → XH → Prop} (h : w_X4_meanFit l0 l1 X K KX) : AM G M_X4_meanFit X [.ref l0, .int l1] (KxT (KrD K) KX) := AM_of (by decide +kernel) rfl (leb rfl) hG (by
  show AW G M_X4_meanFit 0 [(0, .ref l0), (1, .int l1)] [] X 0 0 _
  unfold w_X4_meanFit at h
  refine aw_iload_n 1 dX4_meanFit_0 rfl 1 rfl rfl ?_
  refine aw_callS (M' := M_X4_checkTongue) 4 195 [.int _] [] dX4_meanFit_1 lk_RX4_195 ms_X4_checkTongue mp_X4_checkTongue rfl ⟨leb rfl, leb rfl⟩ rfl (leb rfl) (leb rfl) (leb rfl) rfl (am_X4_checkTongue hG h) (kkT (kkV fun X1 h => ?_)) (kxT KrV.no fun E X h => at_out rfl (leb rfl) (leb rfl) (Or.inr ⟨_, rfl, h⟩))
  refine aw_widen (cc' := 1) (ss' := 6) (leb rfl) (leb rfl) ?_
  refine aw_aload_n 5 dX4_meanFit_4 rfl 0 rfl rfl ?_
  obtain ⟨g2, h⟩ := h
  obtain ⟨g3, h⟩ := h
  refine aw_getR 8 dX4_meanFit_5 fl_RX4_10 rfl g2 g3 rfl ?_
  refine aw_iload_n 9 dX4_meanFit_8 rfl 1 rfl rfl ?_
  obtain ⟨g6, h⟩ := h
  refine aw_callV (M' := M_X3_meanHundredths) 12 361 3 (hR X1 l0 0) [.int _] [] dX4_meanFit_9 lk_RX4_361 mv_X3_meanHundredths mp_X3_meanHundredths rfl ⟨leb rfl, leb rfl⟩ rfl (ltb rfl) g6 rfl (leb rfl) (leb rfl) (leb rfl) rfl (am_X3_meanHundredths hG h) (kkD fun v5 X4 h => ?_) (kxN KrD.no)
  refine aw_widen (cc' := 1) (ss' := 6) (leb rfl) (leb rfl) ?_
  exact aw_dreturn dX4_meanFit_12 rfl (leb rfl) (leb rfl) (Or.inl ⟨_, rfl, h⟩))
set_option maxRecDepth 20000 in
theorem am_L_meanFit {G : GG} (hG : G.1.stackTraces = false) {l0 : Nat} {l1 : Int32} {l2 : Nat} {X : XH} {K : Int32 → XH → Prop} (h : w_L_meanFit l0 l1 l2 X K) : AM G M_L_meanFit X [.ref l0, .int l1, .ref l2] (KrI K) := AM_ofH (by decide +kernel) (0, 8, 11, 13) [] rfl (leb rfl) hG (by
  show AW G M_L_meanFit 0 [(0, .ref l0), (1, .int l1), (2, .ref l2)] [] X 0 0 _
  unfold w_L_meanFit at h
  refine aw_aload_n 1 dL_meanFit_0 rfl 2 rfl rfl ?_
  refine aw_iconst 2 (v := 0) dL_meanFit_1 kI_0 rfl ?_
  refine aw_aload_n 3 dL_meanFit_2 rfl 0 rfl rfl ?_
  refine aw_iload_n 4 dL_meanFit_3 rfl 1 rfl rfl ?_
  obtain ⟨g3, h⟩ := h
  refine aw_callV (M' := M_X4_meanFit) 7 182 4 l0 [.int _] [.int _, .ref _] dL_meanFit_4 lk_RL_182 mv_X4_meanFit mp_X4_meanFit rfl ⟨leb rfl, leb rfl⟩ rfl (ltb rfl) g3 rfl (leb rfl) (leb rfl) (leb rfl) rfl (am_X4_meanFit hG h) (kkT (kkD fun v2 X1 h => ?_)) (kxT KrD.no fun E X1 h => ?_)
  · refine aw_widen (cc' := 1) (ss' := 6) (leb rfl) (leb rfl) ?_
    obtain ⟨g4, h⟩ := h
    obtain ⟨g5, h⟩ := h
    refine aw_dastore 8 dL_meanFit_7 g4 g5 rfl ?_
    refine aw_goto 14 dL_meanFit_8 rfl ?_
    refine aw_iconst 15 (v := 0) dL_meanFit_14 kI_0 rfl ?_
    exact aw_ireturn (ty := .int) dL_meanFit_15 rfl rfl (leb rfl) (leb rfl) ⟨_, rfl, h⟩
  · obtain ⟨hE, h⟩ := h
    rcases hE with rfl
    refine aw_atc (lv' := [(0, .ref _), (1, .int _), (2, .ref _)]) [] (0, 8, 11, 13) [] rfl (fun z hz => nomatch hz) (by decide) (by decide) (tk3 (i := 61) (by decide +kernel) rfl) (by decide) 3 1 12 (Or.inl ⟨3, rfl, dL_meanFit_11, rfl⟩) (ltb rfl) rfl ?_
    refine aw_widen (cc' := 1) (ss' := 6) (leb rfl) (leb rfl) ?_
    replace h := h rfl
    refine aw_iconst 13 (v := 1) dL_meanFit_12 kI_1 rfl ?_
    exact aw_ireturn (ty := .int) dL_meanFit_13 rfl rfl (leb rfl) (leb rfl) ⟨_, rfl, h⟩)
set_option maxRecDepth 20000 in
theorem aw_X5_mean_54 {G : GG} (hG : G.1.stackTraces = false) {P7 : Nat → Int32 → Int32 → Int32 → Int32 → XH → Prop} {l0 : Nat} {l1 : Int32} {l3 : Int32} {l4 : Int32} {l5 : Int32} {s0 : Int32} {s1 : Int32} {X : XH} {K : UInt64 → XH → Prop} (hO7 : ∀ (l0 : Nat) (l1 : Int32) (l2 : Int32) (l3 : Int32) (l4 : Int32) (X : XH), P7 l0 l1 l2 l3 l4 X → AW G M_X5_mean 7 [(0, .ref l0), (1, .int l1), (2, .int l2), (3, .int l3), (4, .int l4)] [] X 0 0 (KrD K)) (h : w_X5_mean_54 P7 l0 l1 l3 l4 l5 s0 s1 X K) : AW G M_X5_mean 54 [(0, .ref l0), (1, .int l1), (3, .int l3), (4, .int l4), (5, .int l5)] [.int s1, .int s0] X 0 0 (KrD K) := by
  unfold w_X5_mean_54 at h
  refine aw_iadd 55 dX5_mean_54 rfl ?_
  refine aw_istore_n 56 (lv' := [(2, _), (0, _), (1, _), (3, _), (4, _), (5, _)]) dX5_mean_55 rfl (ltb rfl) rfl rfl ?_
  refine aw_iload_n 57 dX5_mean_56 rfl 3 rfl rfl ?_
  refine aw_iload 59 dX5_mean_57 5 rfl rfl ?_
  refine aw_if_eq 66 62 dX5_mean_59 rfl rfl (fun c1 => ?_) (fun c1 => ?_)
  · replace h := h.1 c1
    refine aw_iconst 67 (v := 0) dX5_mean_66 kI_0 rfl ?_
    refine aw_iadd 68 dX5_mean_67 rfl ?_
    refine aw_istore_n 69 (lv' := [(3, _), (2, _), (0, _), (1, _), (4, _), (5, _)]) dX5_mean_68 rfl (ltb rfl) rfl rfl ?_
    refine aw_iinc 72 (v := 1) (lv' := [(4, _), (3, _), (2, _), (0, _), (1, _), (5, _)]) dX5_mean_69 4 rfl kI_1 (ltb rfl) rfl rfl ?_
    refine aw_goto 7 dX5_mean_72 rfl ?_
    exact aw_pick [3, 4, 2, 1, 0] rfl (hO7 _ _ _ _ _ _ h)
  · replace h := h.2 c1
    refine aw_iconst 63 (v := 1) dX5_mean_62 kI_1 rfl ?_
    refine aw_goto 67 dX5_mean_63 rfl ?_
    refine aw_iadd 68 dX5_mean_67 rfl ?_
    refine aw_istore_n 69 (lv' := [(3, _), (2, _), (0, _), (1, _), (4, _), (5, _)]) dX5_mean_68 rfl (ltb rfl) rfl rfl ?_
    refine aw_iinc 72 (v := 1) (lv' := [(4, _), (3, _), (2, _), (0, _), (1, _), (5, _)]) dX5_mean_69 4 rfl kI_1 (ltb rfl) rfl rfl ?_
    refine aw_goto 7 dX5_mean_72 rfl ?_
    exact aw_pick [3, 4, 2, 1, 0] rfl (hO7 _ _ _ _ _ _ h)
set_option maxRecDepth 20000 in
theorem aw_X5_mean_35 {G : GG} (hG : G.1.stackTraces = false) {P7 : Nat → Int32 → Int32 → Int32 → Int32 → XH → Prop} {l0 : Nat} {l1 : Int32} {l2 : Int32} {l3 : Int32} {l4 : Int32} {s0 : Int32} {X : XH} {K : UInt64 → XH → Prop} (hO7 : ∀ (l0 : Nat) (l1 : Int32) (l2 : Int32) (l3 : Int32) (l4 : Int32) (X : XH), P7 l0 l1 l2 l3 l4 X → AW G M_X5_mean 7 [(0, .ref l0), (1, .int l1), (2, .int l2), (3, .int l3), (4, .int l4)] [] X 0 0 (KrD K)) (h : w_X5_mean_35 P7 l0 l1 l2 l3 l4 s0 X K) : AW G M_X5_mean 35 [(0, .ref l0), (1, .int l1), (2, .int l2), (3, .int l3), (4, .int l4)] [.int s0] X 0 0 (KrD K) := by
  unfold w_X5_mean_35 at h
  refine aw_istore 37 (lv' := [(5, _), (0, _), (1, _), (2, _), (3, _), (4, _)]) dX5_mean_35 (ltb rfl) rfl rfl ?_
  refine aw_iload_n 38 dX5_mean_37 rfl 3 rfl rfl ?_
  refine aw_iload 40 dX5_mean_38 0 rfl rfl ?_
  refine aw_if_eq 53 43 dX5_mean_40 rfl rfl (fun c1 => ?_) (fun c1 => ?_)
  · replace h := h.1 c1
    refine aw_iconst 54 (v := 0) dX5_mean_53 kI_0 rfl ?_
    exact aw_pick [1, 2, 4, 5, 0] rfl (aw_X5_mean_54 hG hO7 h)
  · replace h := h.2 c1
    refine aw_aload_n 44 dX5_mean_43 rfl 1 rfl rfl ?_
    refine aw_iload 46 dX5_mean_44 5 rfl rfl ?_
    refine aw_iload_n 47 dX5_mean_46 rfl 2 rfl rfl ?_
    obtain ⟨g4, h⟩ := h
    refine aw_callV (M' := M_X5_hundredths) 50 179 5 l0 [.int _, .int _] [.int _] dX5_mean_47 lk_RX5_179 mv_X5_hundredths mp_X5_hundredths rfl ⟨leb rfl, leb rfl⟩ rfl (ltb rfl) g4 rfl (leb rfl) (leb rfl) (leb rfl) rfl (am_X5_hundredths hG h) (kkI fun v3 X2 h => ?_) (kxN KrI.no)
    refine aw_widen (cc' := 0) (ss' := 0) (leb rfl) (leb rfl) ?_
    refine aw_goto 54 dX5_mean_50 rfl ?_
    exact aw_pick [1, 2, 4, 5, 0] rfl (aw_X5_mean_54 hG hO7 h)
set_option maxRecDepth 20000 in
theorem aw_X5_mean_7 {G : GG} (hG : G.1.stackTraces = false)  {l0 : Nat} {l1 : Int32} {l2 : Int32} {l3 : Int32} {l4 : Int32} {X : XH} {K : UInt64 → XH → Prop}  (h : w_X5_mean_7  l0 l1 l2 l3 l4 X K) : AW G M_X5_mean 7 [(0, .ref l0), (1, .int l1), (2, .int l2), (3, .int l3), (4, .int l4)] [] X 0 0 (KrD K) :=
  h (fun l0 l1 l2 l3 l4 X => AW G M_X5_mean 7 [(0, .ref l0), (1, .int l1), (2, .int l2), (3, .int l3), (4, .int l4)] [] X 0 0 (KrD K)) (fun l0 l1 l2 l3 l4 X h => by
    refine aw_iload 9 dX5_mean_7 4 rfl rfl ?_
    refine aw_aload_n 10 dX5_mean_9 rfl 0 rfl rfl ?_
    obtain ⟨g1, h⟩ := h
    obtain ⟨g2, h⟩ := h
    refine aw_getR 13 dX5_mean_10 fl_RX5_7 rfl g1 g2 rfl ?_
    refine aw_sipush 16 (v := 366) dX5_mean_13 kS_366 rfl ?_
    obtain ⟨g3, h⟩ := h
    obtain ⟨g4, h⟩ := h
    refine aw_iaload 17 dX5_mean_16 g3 g4 rfl ?_
    refine aw_icmp_ge 75 20 dX5_mean_17 rfl rfl (fun c5 => ?_) (fun c5 => ?_)
    · replace h := h.1 c5
      refine aw_iload_n 76 dX5_mean_75 rfl 3 rfl rfl ?_
      refine aw_if_ne 83 79 dX5_mean_76 rfl rfl (fun c6 => ?_) (fun c6 => ?_)
      · replace h := h.1 c6
        refine aw_iload_n 84 dX5_mean_83 rfl 2 rfl rfl ?_
        refine aw_i2d 85 dX5_mean_84 rfl ?_
        refine aw_iload_n 86 dX5_mean_85 rfl 3 rfl rfl ?_
        refine aw_i2d 87 dX5_mean_86 rfl ?_
        obtain ⟨g7, h⟩ := h
        refine aw_ddiv 88 dX5_mean_87 g7 rfl ?_
        exact aw_dreturn dX5_mean_88 rfl (leb rfl) (leb rfl) ⟨_, rfl, h⟩
      · replace h := h.2 c6
        refine aw_dconst0 80 dX5_mean_79 rfl ?_
        refine aw_goto 88 dX5_mean_80 rfl ?_
        exact aw_dreturn dX5_mean_88 rfl (leb rfl) (leb rfl) ⟨_, rfl, h⟩
    · replace h := h.2 c5
      refine aw_aload_n 21 dX5_mean_20 rfl 0 rfl rfl ?_
      refine aw_iload 23 dX5_mean_21 4 rfl rfl ?_
      refine aw_iload_n 24 dX5_mean_23 rfl 1 rfl rfl ?_
      refine aw_callV (M' := M_X5_frames) 27 48 5 l0 [.int _, .int _] [] dX5_mean_24 lk_RX5_48 mv_X5_frames mp_X5_frames rfl ⟨leb rfl, leb rfl⟩ rfl (ltb rfl) g1 rfl (leb rfl) (leb rfl) (leb rfl) rfl (am_X5_frames hG h) (kkI fun v9 X8 h => ?_) (kxN KrI.no)
      refine aw_widen (cc' := 0) (ss' := 0) (leb rfl) (leb rfl) ?_
      refine aw_if_le 34 30 dX5_mean_27 rfl rfl (fun c10 => ?_) (fun c10 => ?_)
      · replace h := h.1 c10
        refine aw_iconst 35 (v := 0) dX5_mean_34 kI_0 rfl ?_
        exact aw_pick [0, 1, 2, 3, 4] rfl (aw_X5_mean_35 hG (fun _ _ _ _ _ _ h => h) h)
      · replace h := h.2 c10
        refine aw_iconst 31 (v := 1) dX5_mean_30 kI_1 rfl ?_
        refine aw_goto 35 dX5_mean_31 rfl ?_
        exact aw_pick [0, 1, 2, 3, 4] rfl (aw_X5_mean_35 hG (fun _ _ _ _ _ _ h => h) h))
set_option maxRecDepth 20000 in
theorem am_X5_mean {G : GG} (hG : G.1.stackTraces = false) {l0 : Nat} {l1 : Int32} {X : XH} {K : UInt64 → XH → Prop} (h : w_X5_mean l0 l1 X K) : AM G M_X5_mean X [.ref l0, .int l1] (KrD K) := AM_of (by decide +kernel) rfl (leb rfl) hG (by
  show AW G M_X5_mean 0 [(0, .ref l0), (1, .int l1)] [] X 0 0 _
  unfold w_X5_mean at h
  refine aw_iconst 1 (v := 0) dX5_mean_0 kI_0 rfl ?_
  refine aw_istore_n 2 (lv' := [(2, _), (0, _), (1, _)]) dX5_mean_1 rfl (ltb rfl) rfl rfl ?_
  refine aw_iconst 3 (v := 0) dX5_mean_2 kI_0 rfl ?_
  refine aw_istore_n 4 (lv' := [(3, _), (2, _), (0, _), (1, _)]) dX5_mean_3 rfl (ltb rfl) rfl rfl ?_
  refine aw_iconst 5 (v := 0) dX5_mean_4 kI_0 rfl ?_
  refine aw_istore 7 (lv' := [(4, _), (3, _), (2, _), (0, _), (1, _)]) dX5_mean_5 (ltb rfl) rfl rfl ?_
  exact aw_pick [3, 4, 2, 1, 0] rfl (aw_X5_mean_7 hG  h))
set_option maxRecDepth 20000 in
theorem aw_X5_meanFit_13 {G : GG} (hG : G.1.stackTraces = false)  {l0 : Nat} {l1 : Int32} {s0 : Nat} {s1 : Int32} {X : XH} {K : UInt64 → XH → Prop}  (h : w_X5_meanFit_13  l0 l1 s0 s1 X K) : AW G M_X5_meanFit 13 [(0, .ref l0), (1, .int l1)] [.int s1, .ref s0] X 0 0 (KrD K) := by
  unfold w_X5_meanFit_13 at h
  obtain ⟨g3, h⟩ := h
  refine aw_callV (M' := M_X5_refused) 16 81 5 s0 [.int _] [] dX5_meanFit_13 lk_RX5_81 mv_X5_refused mp_X5_refused rfl ⟨leb rfl, leb rfl⟩ rfl (ltb rfl) g3 rfl (leb rfl) (leb rfl) (leb rfl) rfl (am_X5_refused hG h) (kkI fun v2 X1 h => ?_) (kxN KrI.no)
  refine aw_widen (cc' := 0) (ss' := 0) (leb rfl) (leb rfl) ?_
  refine aw_if_eq 23 19 dX5_meanFit_16 rfl rfl (fun c4 => ?_) (fun c4 => ?_)
  · replace h := h.1 c4
    refine aw_aload_n 24 dX5_meanFit_23 rfl 0 rfl rfl ?_
    refine aw_iload_n 25 dX5_meanFit_24 rfl 1 rfl rfl ?_
    obtain ⟨g7, h⟩ := h
    refine aw_callV (M' := M_X5_mean) 28 233 5 l0 [.int _] [] dX5_meanFit_25 lk_RX5_233 mv_X5_mean mp_X5_mean rfl ⟨leb rfl, leb rfl⟩ rfl (ltb rfl) g7 rfl (leb rfl) (leb rfl) (leb rfl) rfl (am_X5_mean hG h) (kkD fun v6 X5 h => ?_) (kxN KrD.no)
    refine aw_widen (cc' := 0) (ss' := 0) (leb rfl) (leb rfl) ?_
    exact aw_dreturn dX5_meanFit_28 rfl (leb rfl) (leb rfl) ⟨_, rfl, h⟩
  · replace h := h.2 c4
    refine aw_dconst0 20 dX5_meanFit_19 rfl ?_
    refine aw_goto 28 dX5_meanFit_20 rfl ?_
    exact aw_dreturn dX5_meanFit_28 rfl (leb rfl) (leb rfl) ⟨_, rfl, h⟩
set_option maxRecDepth 20000 in
theorem am_X5_meanFit {G : GG} (hG : G.1.stackTraces = false) {l0 : Nat} {l1 : Int32} {X : XH} {K : UInt64 → XH → Prop} (h : w_X5_meanFit l0 l1 X K) : AM G M_X5_meanFit X [.ref l0, .int l1] (KrD K) := AM_of (by decide +kernel) rfl (leb rfl) hG (by
  show AW G M_X5_meanFit 0 [(0, .ref l0), (1, .int l1)] [] X 0 0 _
  unfold w_X5_meanFit at h
  refine aw_aload_n 1 dX5_meanFit_0 rfl 0 rfl rfl ?_
  refine aw_iload_n 2 dX5_meanFit_1 rfl 1 rfl rfl ?_
  refine aw_callS (M' := M_X5_isTongue) 5 38 [.int _] [.ref _] dX5_meanFit_2 lk_RX5_38 ms_X5_isTongue mp_X5_isTongue rfl ⟨leb rfl, leb rfl⟩ rfl (leb rfl) (leb rfl) (leb rfl) rfl (am_X5_isTongue hG h) (kkI fun v2 X1 h => ?_) (kxN KrI.no)
  refine aw_widen (cc' := 0) (ss' := 0) (leb rfl) (leb rfl) ?_
  refine aw_if_eq 12 8 dX5_meanFit_5 rfl rfl (fun c3 => ?_) (fun c3 => ?_)
  · replace h := h.1 c3
    refine aw_iconst 13 (v := 1) dX5_meanFit_12 kI_1 rfl ?_
    exact aw_pick [0, 1] rfl (aw_X5_meanFit_13 hG  h)
  · replace h := h.2 c3
    refine aw_iconst 9 (v := 0) dX5_meanFit_8 kI_0 rfl ?_
    refine aw_goto 13 dX5_meanFit_9 rfl ?_
    exact aw_pick [0, 1] rfl (aw_X5_meanFit_13 hG  h))
set_option maxRecDepth 20000 in
theorem am_X4_chain {G : GG} (hG : G.1.stackTraces = false) {l0 : Int64} {l2 : Int64} {X : XH} {K : Int64 → XH → Prop} (h : w_X4_chain l0 l2 X K) : AM G M_X4_chain X [.long l0, .long l2] (KrL K) := AM_of (by decide +kernel) rfl (leb rfl) hG (by
  show AW G M_X4_chain 0 [(0, .long l0), (2, .long l2)] [] X 0 0 _
  unfold w_X4_chain at h
  refine aw_ldc2 3 (v := 31) dX4_chain_0 (tk2 (i := 64) (by decide +kernel) rfl) rfl ?_
  refine aw_lload_n 4 dX4_chain_3 rfl 0 rfl rfl ?_
  refine aw_lmul 5 dX4_chain_4 rfl ?_
  refine aw_lload_n 6 dX4_chain_5 rfl 1 rfl rfl ?_
  refine aw_ladd 7 dX4_chain_6 rfl ?_
  exact aw_lreturn dX4_chain_7 rfl (leb rfl) (leb rfl) ⟨_, rfl, h⟩)
set_option maxRecDepth 20000 in
theorem am_X4_chainFlag {G : GG} (hG : G.1.stackTraces = false) {l0 : Int64} {l2 : Int32} {X : XH} {K : Int64 → XH → Prop} (h : w_X4_chainFlag l0 l2 X K) : AM G M_X4_chainFlag X [.long l0, .int l2] (KrL K) := AM_of (by decide +kernel) rfl (leb rfl) hG (by
  show AW G M_X4_chainFlag 0 [(0, .long l0), (2, .int l2)] [] X 0 0 _
  unfold w_X4_chainFlag at h
  refine aw_lload_n 1 dX4_chainFlag_0 rfl 0 rfl rfl ?_
  refine aw_iload_n 2 dX4_chainFlag_1 rfl 1 rfl rfl ?_
  refine aw_if_eq 9 5 dX4_chainFlag_2 rfl rfl (fun c1 => ?_) (fun c1 => ?_)
  · replace h := h.1 c1
    refine aw_lconst 10 (v := 0) dX4_chainFlag_9 kL_0 rfl ?_
    refine aw_callS (M' := M_X4_chain) 13 367 [.long _, .long _] [] dX4_chainFlag_10 lk_RX4_367 ms_X4_chain mp_X4_chain rfl ⟨leb rfl, leb rfl⟩ rfl (leb rfl) (leb rfl) (leb rfl) rfl (am_X4_chain hG h) (kkL fun v3 X2 h => ?_) (kxN KrL.no)
    refine aw_widen (cc' := 0) (ss' := 0) (leb rfl) (leb rfl) ?_
    exact aw_lreturn dX4_chainFlag_13 rfl (leb rfl) (leb rfl) ⟨_, rfl, h⟩
  · replace h := h.2 c1
    refine aw_lconst 6 (v := 1) dX4_chainFlag_5 kL_1 rfl ?_
    refine aw_goto 10 dX4_chainFlag_6 rfl ?_
    refine aw_callS (M' := M_X4_chain) 13 367 [.long _, .long _] [] dX4_chainFlag_10 lk_RX4_367 ms_X4_chain mp_X4_chain rfl ⟨leb rfl, leb rfl⟩ rfl (leb rfl) (leb rfl) (leb rfl) rfl (am_X4_chain hG h) (kkL fun v5 X4 h => ?_) (kxN KrL.no)
    refine aw_widen (cc' := 0) (ss' := 0) (leb rfl) (leb rfl) ?_
    exact aw_lreturn dX4_chainFlag_13 rfl (leb rfl) (leb rfl) ⟨_, rfl, h⟩)
set_option maxRecDepth 20000 in
theorem am_X4_chainTranslation {G : GG} (hG : G.1.stackTraces = false) {l0 : Nat} {l1 : Int64} {l3 : Int32} {l4 : Int32} {X : XH} {K : Int64 → XH → Prop} (h : w_X4_chainTranslation l0 l1 l3 l4 X K) : AM G M_X4_chainTranslation X [.ref l0, .long l1, .int l3, .int l4] (KrL K) := AM_of (by decide +kernel) rfl (leb rfl) hG (by
  show AW G M_X4_chainTranslation 0 [(0, .ref l0), (1, .long l1), (3, .int l3), (4, .int l4)] [] X 0 0 _
  unfold w_X4_chainTranslation at h
  refine aw_lload_n 1 dX4_chainTranslation_0 rfl 1 rfl rfl ?_
  refine aw_aload_n 2 dX4_chainTranslation_1 rfl 0 rfl rfl ?_
  obtain ⟨g1, h⟩ := h
  obtain ⟨g2, h⟩ := h
  refine aw_getR 5 dX4_chainTranslation_2 fl_RX4_10 rfl g1 g2 rfl ?_
  refine aw_iload_n 6 dX4_chainTranslation_5 rfl 2 rfl rfl ?_
  refine aw_iload 8 dX4_chainTranslation_6 3 rfl rfl ?_
  obtain ⟨g5, h⟩ := h
  refine aw_callV (M' := M_X3_framesAt) 11 139 3 (hR X l0 0) [.int _, .int _] [.long _] dX4_chainTranslation_8 lk_RX4_139 mv_X3_framesAt mp_X3_framesAt rfl ⟨leb rfl, leb rfl⟩ rfl (ltb rfl) g5 rfl (leb rfl) (leb rfl) (leb rfl) rfl (am_X3_framesAt hG h) (kkI fun v4 X3 h => ?_) (kxN KrI.no)
  refine aw_widen (cc' := 0) (ss' := 0) (leb rfl) (leb rfl) ?_
  refine aw_i2l 12 dX4_chainTranslation_11 rfl ?_
  refine aw_callS (M' := M_X4_chain) 15 367 [.long _, .long _] [] dX4_chainTranslation_12 lk_RX4_367 ms_X4_chain mp_X4_chain rfl ⟨leb rfl, leb rfl⟩ rfl (leb rfl) (leb rfl) (leb rfl) rfl (am_X4_chain hG h) (kkL fun v7 X6 h => ?_) (kxN KrL.no)
  refine aw_widen (cc' := 0) (ss' := 0) (leb rfl) (leb rfl) ?_
  refine aw_lstore 17 (lv' := [(5, _), (0, _), (1, _), (3, _), (4, _)]) dX4_chainTranslation_15 (ltb rfl) rfl rfl ?_
  refine aw_lload 19 dX4_chainTranslation_17 0 rfl rfl ?_
  refine aw_aload_n 20 dX4_chainTranslation_19 rfl 1 rfl rfl ?_
  obtain ⟨g8, h⟩ := h
  obtain ⟨g9, h⟩ := h
  refine aw_getR 23 dX4_chainTranslation_20 fl_RX4_10 rfl g8 g9 rfl ?_
  refine aw_iload_n 24 dX4_chainTranslation_23 rfl 3 rfl rfl ?_
  refine aw_iload 26 dX4_chainTranslation_24 4 rfl rfl ?_
  obtain ⟨g12, h⟩ := h
  refine aw_callV (M' := M_X3_annexedAt) 29 142 3 (hR X6 l0 0) [.int _, .int _] [.long _] dX4_chainTranslation_26 lk_RX4_142 mv_X3_annexedAt mp_X3_annexedAt rfl ⟨leb rfl, leb rfl⟩ rfl (ltb rfl) g12 rfl (leb rfl) (leb rfl) (leb rfl) rfl (am_X3_annexedAt hG h) (kkI fun v11 X10 h => ?_) (kxN KrI.no)
  refine aw_widen (cc' := 0) (ss' := 0) (leb rfl) (leb rfl) ?_
  refine aw_i2l 30 dX4_chainTranslation_29 rfl ?_
  refine aw_callS (M' := M_X4_chain) 33 367 [.long _, .long _] [] dX4_chainTranslation_30 lk_RX4_367 ms_X4_chain mp_X4_chain rfl ⟨leb rfl, leb rfl⟩ rfl (leb rfl) (leb rfl) (leb rfl) rfl (am_X4_chain hG h) (kkL fun v14 X13 h => ?_) (kxN KrL.no)
  refine aw_widen (cc' := 0) (ss' := 0) (leb rfl) (leb rfl) ?_
  refine aw_lstore 35 (lv' := [(5, _), (0, _), (1, _), (3, _), (4, _)]) dX4_chainTranslation_33 (ltb rfl) rfl rfl ?_
  refine aw_lload 37 dX4_chainTranslation_35 0 rfl rfl ?_
  refine aw_aload_n 38 dX4_chainTranslation_37 rfl 1 rfl rfl ?_
  obtain ⟨g15, h⟩ := h
  obtain ⟨g16, h⟩ := h
  refine aw_getR 41 dX4_chainTranslation_38 fl_RX4_10 rfl g15 g16 rfl ?_
  refine aw_iload_n 42 dX4_chainTranslation_41 rfl 3 rfl rfl ?_
  refine aw_iload 44 dX4_chainTranslation_42 4 rfl rfl ?_
  obtain ⟨g19, h⟩ := h
  refine aw_callV (M' := M_X3_isTaken) 47 119 3 (hR X13 l0 0) [.int _, .int _] [.long _] dX4_chainTranslation_44 lk_RX4_119 mv_X3_isTaken mp_X3_isTaken rfl ⟨leb rfl, leb rfl⟩ rfl (ltb rfl) g19 rfl (leb rfl) (leb rfl) (leb rfl) rfl (am_X3_isTaken hG h) (kkI fun v18 X17 h => ?_) (kxN KrI.no)
  refine aw_widen (cc' := 0) (ss' := 0) (leb rfl) (leb rfl) ?_
  refine aw_callS (M' := M_X4_chainFlag) 50 397 [.long _, .int _] [] dX4_chainTranslation_47 lk_RX4_397 ms_X4_chainFlag mp_X4_chainFlag rfl ⟨leb rfl, leb rfl⟩ rfl (leb rfl) (leb rfl) (leb rfl) rfl (am_X4_chainFlag hG h) (kkL fun v21 X20 h => ?_) (kxN KrL.no)
  refine aw_widen (cc' := 0) (ss' := 0) (leb rfl) (leb rfl) ?_
  refine aw_lstore 52 (lv' := [(5, _), (0, _), (1, _), (3, _), (4, _)]) dX4_chainTranslation_50 (ltb rfl) rfl rfl ?_
  refine aw_lload 54 dX4_chainTranslation_52 0 rfl rfl ?_
  refine aw_aload_n 55 dX4_chainTranslation_54 rfl 1 rfl rfl ?_
  obtain ⟨g22, h⟩ := h
  obtain ⟨g23, h⟩ := h
  refine aw_getR 58 dX4_chainTranslation_55 fl_RX4_10 rfl g22 g23 rfl ?_
  refine aw_iload_n 59 dX4_chainTranslation_58 rfl 3 rfl rfl ?_
  refine aw_iload 61 dX4_chainTranslation_59 4 rfl rfl ?_
  obtain ⟨g26, h⟩ := h
  refine aw_callV (M' := M_X3_reasonAt) 64 164 3 (hR X20 l0 0) [.int _, .int _] [.long _] dX4_chainTranslation_61 lk_RX4_164 mv_X3_reasonAt mp_X3_reasonAt rfl ⟨leb rfl, leb rfl⟩ rfl (ltb rfl) g26 rfl (leb rfl) (leb rfl) (leb rfl) rfl (am_X3_reasonAt hG h) (kkI fun v25 X24 h => ?_) (kxN KrI.no)
  refine aw_widen (cc' := 0) (ss' := 0) (leb rfl) (leb rfl) ?_
  refine aw_i2l 65 dX4_chainTranslation_64 rfl ?_
  refine aw_callS (M' := M_X4_chain) 68 367 [.long _, .long _] [] dX4_chainTranslation_65 lk_RX4_367 ms_X4_chain mp_X4_chain rfl ⟨leb rfl, leb rfl⟩ rfl (leb rfl) (leb rfl) (leb rfl) rfl (am_X4_chain hG h) (kkL fun v28 X27 h => ?_) (kxN KrL.no)
  refine aw_widen (cc' := 0) (ss' := 0) (leb rfl) (leb rfl) ?_
  refine aw_lstore 70 (lv' := [(5, _), (0, _), (1, _), (3, _), (4, _)]) dX4_chainTranslation_68 (ltb rfl) rfl rfl ?_
  refine aw_aload_n 71 dX4_chainTranslation_70 rfl 1 rfl rfl ?_
  obtain ⟨g29, h⟩ := h
  obtain ⟨g30, h⟩ := h
  refine aw_getR 74 dX4_chainTranslation_71 fl_RX4_10 rfl g29 g30 rfl ?_
  refine aw_iload_n 75 dX4_chainTranslation_74 rfl 3 rfl rfl ?_
  refine aw_iload 77 dX4_chainTranslation_75 4 rfl rfl ?_
  obtain ⟨g33, h⟩ := h
  refine aw_callV (M' := M_X3_hasTranslation) 80 283 3 (hR X27 l0 0) [.int _, .int _] [] dX4_chainTranslation_77 lk_RX4_283 mv_X3_hasTranslation mp_X3_hasTranslation rfl ⟨leb rfl, leb rfl⟩ rfl (ltb rfl) g33 rfl (leb rfl) (leb rfl) (leb rfl) rfl (am_X3_hasTranslation hG h) (kkI fun v32 X31 h => ?_) (kxN KrI.no)
  refine aw_widen (cc' := 0) (ss' := 0) (leb rfl) (leb rfl) ?_
  refine aw_if_eq 139 83 dX4_chainTranslation_80 rfl rfl (fun c34 => ?_) (fun c34 => ?_)
  · replace h := h.1 c34
    refine aw_lload 141 dX4_chainTranslation_139 0 rfl rfl ?_
    exact aw_lreturn dX4_chainTranslation_141 rfl (leb rfl) (leb rfl) ⟨_, rfl, h⟩
  · replace h := h.2 c34
    refine aw_lload 85 dX4_chainTranslation_83 0 rfl rfl ?_
    refine aw_aload_n 86 dX4_chainTranslation_85 rfl 1 rfl rfl ?_
    obtain ⟨g35, h⟩ := h
    obtain ⟨g36, h⟩ := h
    refine aw_getR 89 dX4_chainTranslation_86 fl_RX4_10 rfl g35 g36 rfl ?_
    refine aw_iload_n 90 dX4_chainTranslation_89 rfl 3 rfl rfl ?_
    refine aw_iload 92 dX4_chainTranslation_90 4 rfl rfl ?_
    obtain ⟨g39, h⟩ := h
    refine aw_callV (M' := M_X3_roomAt) 95 129 3 (hR X31 l0 0) [.int _, .int _] [.long _] dX4_chainTranslation_92 lk_RX4_129 mv_X3_roomAt mp_X3_roomAt rfl ⟨leb rfl, leb rfl⟩ rfl (ltb rfl) g39 rfl (leb rfl) (leb rfl) (leb rfl) rfl (am_X3_roomAt hG h) (kkI fun v38 X37 h => ?_) (kxN KrI.no)
    refine aw_widen (cc' := 0) (ss' := 0) (leb rfl) (leb rfl) ?_
    refine aw_i2l 96 dX4_chainTranslation_95 rfl ?_
    refine aw_callS (M' := M_X4_chain) 99 367 [.long _, .long _] [] dX4_chainTranslation_96 lk_RX4_367 ms_X4_chain mp_X4_chain rfl ⟨leb rfl, leb rfl⟩ rfl (leb rfl) (leb rfl) (leb rfl) rfl (am_X4_chain hG h) (kkL fun v41 X40 h => ?_) (kxN KrL.no)
    refine aw_widen (cc' := 0) (ss' := 0) (leb rfl) (leb rfl) ?_
    refine aw_lstore 101 (lv' := [(5, _), (0, _), (1, _), (3, _), (4, _)]) dX4_chainTranslation_99 (ltb rfl) rfl rfl ?_
    refine aw_lload 103 dX4_chainTranslation_101 0 rfl rfl ?_
    refine aw_aload_n 104 dX4_chainTranslation_103 rfl 1 rfl rfl ?_
    obtain ⟨g42, h⟩ := h
    obtain ⟨g43, h⟩ := h
    refine aw_getR 107 dX4_chainTranslation_104 fl_RX4_10 rfl g42 g43 rfl ?_
    refine aw_iload_n 108 dX4_chainTranslation_107 rfl 3 rfl rfl ?_
    refine aw_iload 110 dX4_chainTranslation_108 4 rfl rfl ?_
    obtain ⟨g46, h⟩ := h
    refine aw_callV (M' := M_X3_hundredthsAt) 113 292 3 (hR X40 l0 0) [.int _, .int _] [.long _] dX4_chainTranslation_110 lk_RX4_292 mv_X3_hundredthsAt mp_X3_hundredthsAt rfl ⟨leb rfl, leb rfl⟩ rfl (ltb rfl) g46 rfl (leb rfl) (leb rfl) (leb rfl) rfl (am_X3_hundredthsAt hG h) (kkI fun v45 X44 h => ?_) (kxN KrI.no)
    refine aw_widen (cc' := 0) (ss' := 0) (leb rfl) (leb rfl) ?_
    refine aw_i2l 114 dX4_chainTranslation_113 rfl ?_
    refine aw_callS (M' := M_X4_chain) 117 367 [.long _, .long _] [] dX4_chainTranslation_114 lk_RX4_367 ms_X4_chain mp_X4_chain rfl ⟨leb rfl, leb rfl⟩ rfl (leb rfl) (leb rfl) (leb rfl) rfl (am_X4_chain hG h) (kkL fun v48 X47 h => ?_) (kxN KrL.no)
    refine aw_widen (cc' := 0) (ss' := 0) (leb rfl) (leb rfl) ?_
    refine aw_lstore 119 (lv' := [(5, _), (0, _), (1, _), (3, _), (4, _)]) dX4_chainTranslation_117 (ltb rfl) rfl rfl ?_
    refine aw_lload 121 dX4_chainTranslation_119 0 rfl rfl ?_
    refine aw_aload_n 122 dX4_chainTranslation_121 rfl 1 rfl rfl ?_
    obtain ⟨g49, h⟩ := h
    obtain ⟨g50, h⟩ := h
    refine aw_getR 125 dX4_chainTranslation_122 fl_RX4_10 rfl g49 g50 rfl ?_
    refine aw_iload_n 126 dX4_chainTranslation_125 rfl 3 rfl rfl ?_
    refine aw_iload 128 dX4_chainTranslation_126 4 rfl rfl ?_
    obtain ⟨g53, h⟩ := h
    refine aw_callV (M' := M_X3_leastAnnexAt) 131 340 3 (hR X47 l0 0) [.int _, .int _] [.long _] dX4_chainTranslation_128 lk_RX4_340 mv_X3_leastAnnexAt mp_X3_leastAnnexAt rfl ⟨leb rfl, leb rfl⟩ rfl (ltb rfl) g53 rfl (leb rfl) (leb rfl) (leb rfl) rfl (am_X3_leastAnnexAt hG h) (kkI fun v52 X51 h => ?_) (kxN KrI.no)
    refine aw_widen (cc' := 0) (ss' := 0) (leb rfl) (leb rfl) ?_
    refine aw_iconst 132 (v := 1) dX4_chainTranslation_131 kI_1 rfl ?_
    refine aw_iadd 133 dX4_chainTranslation_132 rfl ?_
    refine aw_i2l 134 dX4_chainTranslation_133 rfl ?_
    refine aw_callS (M' := M_X4_chain) 137 367 [.long _, .long _] [] dX4_chainTranslation_134 lk_RX4_367 ms_X4_chain mp_X4_chain rfl ⟨leb rfl, leb rfl⟩ rfl (leb rfl) (leb rfl) (leb rfl) rfl (am_X4_chain hG h) (kkL fun v55 X54 h => ?_) (kxN KrL.no)
    refine aw_widen (cc' := 0) (ss' := 0) (leb rfl) (leb rfl) ?_
    refine aw_lstore 139 (lv' := [(5, _), (0, _), (1, _), (3, _), (4, _)]) dX4_chainTranslation_137 (ltb rfl) rfl rfl ?_
    refine aw_lload 141 dX4_chainTranslation_139 0 rfl rfl ?_
    exact aw_lreturn dX4_chainTranslation_141 rfl (leb rfl) (leb rfl) ⟨_, rfl, h⟩)
set_option maxRecDepth 20000 in
theorem aw_X4_chainClause_84 {G : GG} (hG : G.1.stackTraces = false)  {l0 : Nat} {l3 : Int32} {l4 : Int64} {l6 : Int32} {X : XH} {K : Int64 → XH → Prop}  (h : w_X4_chainClause_84  l0 l3 l4 l6 X K) : AW G M_X4_chainClause 84 [(0, .ref l0), (3, .int l3), (4, .long l4), (6, .int l6)] [] X 0 0 (KrL K) :=
  h (fun l0 l3 l4 l6 X => AW G M_X4_chainClause 84 [(0, .ref l0), (3, .int l3), (4, .long l4), (6, .int l6)] [] X 0 0 (KrL K)) (fun l0 l3 l4 l6 X h => by
    refine aw_iload 86 dX4_chainClause_84 3 rfl rfl ?_
    refine aw_iconst 87 (v := 3) dX4_chainClause_86 kI_3 rfl ?_
    refine aw_icmp_ge 107 90 dX4_chainClause_87 rfl rfl (fun c1 => ?_) (fun c1 => ?_)
    · replace h := h.1 c1
      refine aw_lload 109 dX4_chainClause_107 2 rfl rfl ?_
      exact aw_lreturn dX4_chainClause_109 rfl (leb rfl) (leb rfl) ⟨_, rfl, h⟩
    · replace h := h.2 c1
      refine aw_aload_n 91 dX4_chainClause_90 rfl 0 rfl rfl ?_
      refine aw_lload 93 dX4_chainClause_91 2 rfl rfl ?_
      refine aw_iload_n 94 dX4_chainClause_93 rfl 1 rfl rfl ?_
      refine aw_iload 96 dX4_chainClause_94 3 rfl rfl ?_
      obtain ⟨g4, h⟩ := h
      refine aw_callV (M' := M_X4_chainTranslation) 99 394 4 l0 [.long _, .int _, .int _] [] dX4_chainClause_96 lk_RX4_394 mv_X4_chainTranslation mp_X4_chainTranslation rfl ⟨leb rfl, leb rfl⟩ rfl (ltb rfl) g4 rfl (leb rfl) (leb rfl) (leb rfl) rfl (am_X4_chainTranslation hG h) (kkL fun v3 X2 h => ?_) (kxN KrL.no)
      refine aw_widen (cc' := 0) (ss' := 0) (leb rfl) (leb rfl) ?_
      refine aw_lstore 101 (lv' := [(4, _), (0, _), (3, _), (6, _)]) dX4_chainClause_99 (ltb rfl) rfl rfl ?_
      refine aw_iinc 104 (v := 1) (lv' := [(6, _), (4, _), (0, _), (3, _)]) dX4_chainClause_101 3 rfl kI_1 (ltb rfl) rfl rfl ?_
      refine aw_goto 84 dX4_chainClause_104 rfl ?_
      exact aw_pick [2, 3, 1, 0] rfl h)
set_option maxRecDepth 20000 in
theorem am_X4_chainClause {G : GG} (hG : G.1.stackTraces = false) {l0 : Nat} {l1 : Int64} {l3 : Int32} {X : XH} {K : Int64 → XH → Prop} (h : w_X4_chainClause l0 l1 l3 X K) : AM G M_X4_chainClause X [.ref l0, .long l1, .int l3] (KrL K) := AM_of (by decide +kernel) rfl (leb rfl) hG (by
  show AW G M_X4_chainClause 0 [(0, .ref l0), (1, .long l1), (3, .int l3)] [] X 0 0 _
  unfold w_X4_chainClause at h
  refine aw_lload_n 1 dX4_chainClause_0 rfl 1 rfl rfl ?_
  refine aw_aload_n 2 dX4_chainClause_1 rfl 0 rfl rfl ?_
  obtain ⟨g1, h⟩ := h
  obtain ⟨g2, h⟩ := h
  refine aw_getR 5 dX4_chainClause_2 fl_RX4_10 rfl g1 g2 rfl ?_
  refine aw_iload_n 6 dX4_chainClause_5 rfl 2 rfl rfl ?_
  obtain ⟨g5, h⟩ := h
  refine aw_callV (M' := M_X3_reelAt) 9 104 3 (hR X l0 0) [.int _] [.long _] dX4_chainClause_6 lk_RX4_104 mv_X3_reelAt mp_X3_reelAt rfl ⟨leb rfl, leb rfl⟩ rfl (ltb rfl) g5 rfl (leb rfl) (leb rfl) (leb rfl) rfl (am_X3_reelAt hG h) (kkI fun v4 X3 h => ?_) (kxN KrI.no)
  refine aw_widen (cc' := 0) (ss' := 0) (leb rfl) (leb rfl) ?_
  refine aw_i2l 10 dX4_chainClause_9 rfl ?_
  refine aw_callS (M' := M_X4_chain) 13 367 [.long _, .long _] [] dX4_chainClause_10 lk_RX4_367 ms_X4_chain mp_X4_chain rfl ⟨leb rfl, leb rfl⟩ rfl (leb rfl) (leb rfl) (leb rfl) rfl (am_X4_chain hG h) (kkL fun v7 X6 h => ?_) (kxN KrL.no)
  refine aw_widen (cc' := 0) (ss' := 0) (leb rfl) (leb rfl) ?_
  refine aw_lstore 15 (lv' := [(4, _), (0, _), (1, _), (3, _)]) dX4_chainClause_13 (ltb rfl) rfl rfl ?_
  refine aw_lload 17 dX4_chainClause_15 0 rfl rfl ?_
  refine aw_aload_n 18 dX4_chainClause_17 rfl 1 rfl rfl ?_
  obtain ⟨g8, h⟩ := h
  obtain ⟨g9, h⟩ := h
  refine aw_getR 21 dX4_chainClause_18 fl_RX4_10 rfl g8 g9 rfl ?_
  refine aw_iload_n 22 dX4_chainClause_21 rfl 3 rfl rfl ?_
  obtain ⟨g12, h⟩ := h
  refine aw_callV (M' := M_X3_speakerAt) 25 172 3 (hR X6 l0 0) [.int _] [.long _] dX4_chainClause_22 lk_RX4_172 mv_X3_speakerAt mp_X3_speakerAt rfl ⟨leb rfl, leb rfl⟩ rfl (ltb rfl) g12 rfl (leb rfl) (leb rfl) (leb rfl) rfl (am_X3_speakerAt hG h) (kkI fun v11 X10 h => ?_) (kxN KrI.no)
  refine aw_widen (cc' := 0) (ss' := 0) (leb rfl) (leb rfl) ?_
  refine aw_i2l 26 dX4_chainClause_25 rfl ?_
  refine aw_callS (M' := M_X4_chain) 29 367 [.long _, .long _] [] dX4_chainClause_26 lk_RX4_367 ms_X4_chain mp_X4_chain rfl ⟨leb rfl, leb rfl⟩ rfl (leb rfl) (leb rfl) (leb rfl) rfl (am_X4_chain hG h) (kkL fun v14 X13 h => ?_) (kxN KrL.no)
  refine aw_widen (cc' := 0) (ss' := 0) (leb rfl) (leb rfl) ?_
  refine aw_lstore 31 (lv' := [(4, _), (0, _), (1, _), (3, _)]) dX4_chainClause_29 (ltb rfl) rfl rfl ?_
  refine aw_lload 33 dX4_chainClause_31 0 rfl rfl ?_
  refine aw_aload_n 34 dX4_chainClause_33 rfl 1 rfl rfl ?_
  obtain ⟨g15, h⟩ := h
  obtain ⟨g16, h⟩ := h
  refine aw_getR 37 dX4_chainClause_34 fl_RX4_10 rfl g15 g16 rfl ?_
  refine aw_iload_n 38 dX4_chainClause_37 rfl 3 rfl rfl ?_
  obtain ⟨g19, h⟩ := h
  refine aw_callV (M' := M_X3_lipsAt) 41 88 3 (hR X13 l0 0) [.int _] [.long _] dX4_chainClause_38 lk_RX4_88 mv_X3_lipsAt mp_X3_lipsAt rfl ⟨leb rfl, leb rfl⟩ rfl (ltb rfl) g19 rfl (leb rfl) (leb rfl) (leb rfl) rfl (am_X3_lipsAt hG h) (kkI fun v18 X17 h => ?_) (kxN KrI.no)
  refine aw_widen (cc' := 0) (ss' := 0) (leb rfl) (leb rfl) ?_
  refine aw_i2l 42 dX4_chainClause_41 rfl ?_
  refine aw_callS (M' := M_X4_chain) 45 367 [.long _, .long _] [] dX4_chainClause_42 lk_RX4_367 ms_X4_chain mp_X4_chain rfl ⟨leb rfl, leb rfl⟩ rfl (leb rfl) (leb rfl) (leb rfl) rfl (am_X4_chain hG h) (kkL fun v21 X20 h => ?_) (kxN KrL.no)
  refine aw_widen (cc' := 0) (ss' := 0) (leb rfl) (leb rfl) ?_
  refine aw_lstore 47 (lv' := [(4, _), (0, _), (1, _), (3, _)]) dX4_chainClause_45 (ltb rfl) rfl rfl ?_
  refine aw_lload 49 dX4_chainClause_47 0 rfl rfl ?_
  refine aw_aload_n 50 dX4_chainClause_49 rfl 1 rfl rfl ?_
  obtain ⟨g22, h⟩ := h
  obtain ⟨g23, h⟩ := h
  refine aw_getR 53 dX4_chainClause_50 fl_RX4_10 rfl g22 g23 rfl ?_
  refine aw_iload_n 54 dX4_chainClause_53 rfl 3 rfl rfl ?_
  obtain ⟨g26, h⟩ := h
  refine aw_callV (M' := M_X3_sighAt) 57 82 3 (hR X20 l0 0) [.int _] [.long _] dX4_chainClause_54 lk_RX4_82 mv_X3_sighAt mp_X3_sighAt rfl ⟨leb rfl, leb rfl⟩ rfl (ltb rfl) g26 rfl (leb rfl) (leb rfl) (leb rfl) rfl (am_X3_sighAt hG h) (kkI fun v25 X24 h => ?_) (kxN KrI.no)
  refine aw_widen (cc' := 0) (ss' := 0) (leb rfl) (leb rfl) ?_
  refine aw_i2l 58 dX4_chainClause_57 rfl ?_
  refine aw_callS (M' := M_X4_chain) 61 367 [.long _, .long _] [] dX4_chainClause_58 lk_RX4_367 ms_X4_chain mp_X4_chain rfl ⟨leb rfl, leb rfl⟩ rfl (leb rfl) (leb rfl) (leb rfl) rfl (am_X4_chain hG h) (kkL fun v28 X27 h => ?_) (kxN KrL.no)
  refine aw_widen (cc' := 0) (ss' := 0) (leb rfl) (leb rfl) ?_
  refine aw_lstore 63 (lv' := [(4, _), (0, _), (1, _), (3, _)]) dX4_chainClause_61 (ltb rfl) rfl rfl ?_
  refine aw_lload 65 dX4_chainClause_63 0 rfl rfl ?_
  refine aw_aload_n 66 dX4_chainClause_65 rfl 1 rfl rfl ?_
  obtain ⟨g29, h⟩ := h
  obtain ⟨g30, h⟩ := h
  refine aw_getR 69 dX4_chainClause_66 fl_RX4_10 rfl g29 g30 rfl ?_
  refine aw_iload_n 70 dX4_chainClause_69 rfl 3 rfl rfl ?_
  obtain ⟨g33, h⟩ := h
  refine aw_callV (M' := M_X3_longestSighAt) 73 345 3 (hR X27 l0 0) [.int _] [.long _] dX4_chainClause_70 lk_RX4_345 mv_X3_longestSighAt mp_X3_longestSighAt rfl ⟨leb rfl, leb rfl⟩ rfl (ltb rfl) g33 rfl (leb rfl) (leb rfl) (leb rfl) rfl (am_X3_longestSighAt hG h) (kkI fun v32 X31 h => ?_) (kxN KrI.no)
  refine aw_widen (cc' := 0) (ss' := 0) (leb rfl) (leb rfl) ?_
  refine aw_iconst 74 (v := 1) dX4_chainClause_73 kI_1 rfl ?_
  refine aw_iadd 75 dX4_chainClause_74 rfl ?_
  refine aw_i2l 76 dX4_chainClause_75 rfl ?_
  refine aw_callS (M' := M_X4_chain) 79 367 [.long _, .long _] [] dX4_chainClause_76 lk_RX4_367 ms_X4_chain mp_X4_chain rfl ⟨leb rfl, leb rfl⟩ rfl (leb rfl) (leb rfl) (leb rfl) rfl (am_X4_chain hG h) (kkL fun v35 X34 h => ?_) (kxN KrL.no)
  refine aw_widen (cc' := 0) (ss' := 0) (leb rfl) (leb rfl) ?_
  refine aw_lstore 81 (lv' := [(4, _), (0, _), (1, _), (3, _)]) dX4_chainClause_79 (ltb rfl) rfl rfl ?_
  refine aw_iconst 82 (v := 0) dX4_chainClause_81 kI_0 rfl ?_
  refine aw_istore 84 (lv' := [(6, _), (4, _), (0, _), (1, _), (3, _)]) dX4_chainClause_82 (ltb rfl) rfl rfl ?_
  exact aw_pick [2, 4, 1, 0] rfl (aw_X4_chainClause_84 hG  h))
set_option maxRecDepth 20000 in
theorem am_X4_chainVoice {G : GG} (hG : G.1.stackTraces = false) {l0 : Nat} {l1 : Int64} {l3 : Int32} {l4 : Int32} {X : XH} {K : Int64 → XH → Prop} (h : w_X4_chainVoice l0 l1 l3 l4 X K) : AM G M_X4_chainVoice X [.ref l0, .long l1, .int l3, .int l4] (KrL K) := AM_of (by decide +kernel) rfl (leb rfl) hG (by
  show AW G M_X4_chainVoice 0 [(0, .ref l0), (1, .long l1), (3, .int l3), (4, .int l4)] [] X 0 0 _
  unfold w_X4_chainVoice at h
  refine aw_lload_n 1 dX4_chainVoice_0 rfl 1 rfl rfl ?_
  refine aw_aload_n 2 dX4_chainVoice_1 rfl 0 rfl rfl ?_
  obtain ⟨g1, h⟩ := h
  obtain ⟨g2, h⟩ := h
  refine aw_getR 5 dX4_chainVoice_2 fl_RX4_10 rfl g1 g2 rfl ?_
  refine aw_iload_n 6 dX4_chainVoice_5 rfl 2 rfl rfl ?_
  refine aw_iload 8 dX4_chainVoice_6 3 rfl rfl ?_
  obtain ⟨g5, h⟩ := h
  refine aw_callV (M' := M_X3_staminaAt) 11 158 3 (hR X l0 0) [.int _, .int _] [.long _] dX4_chainVoice_8 lk_RX4_158 mv_X3_staminaAt mp_X3_staminaAt rfl ⟨leb rfl, leb rfl⟩ rfl (ltb rfl) g5 rfl (leb rfl) (leb rfl) (leb rfl) rfl (am_X3_staminaAt hG h) (kkI fun v4 X3 h => ?_) (kxN KrI.no)
  refine aw_widen (cc' := 0) (ss' := 0) (leb rfl) (leb rfl) ?_
  refine aw_i2l 12 dX4_chainVoice_11 rfl ?_
  refine aw_callS (M' := M_X4_chain) 15 367 [.long _, .long _] [] dX4_chainVoice_12 lk_RX4_367 ms_X4_chain mp_X4_chain rfl ⟨leb rfl, leb rfl⟩ rfl (leb rfl) (leb rfl) (leb rfl) rfl (am_X4_chain hG h) (kkL fun v7 X6 h => ?_) (kxN KrL.no)
  refine aw_widen (cc' := 0) (ss' := 0) (leb rfl) (leb rfl) ?_
  refine aw_lstore 17 (lv' := [(5, _), (0, _), (1, _), (3, _), (4, _)]) dX4_chainVoice_15 (ltb rfl) rfl rfl ?_
  refine aw_lload 19 dX4_chainVoice_17 0 rfl rfl ?_
  refine aw_aload_n 20 dX4_chainVoice_19 rfl 1 rfl rfl ?_
  obtain ⟨g8, h⟩ := h
  obtain ⟨g9, h⟩ := h
  refine aw_getR 23 dX4_chainVoice_20 fl_RX4_10 rfl g8 g9 rfl ?_
  refine aw_iload_n 24 dX4_chainVoice_23 rfl 3 rfl rfl ?_
  refine aw_iload 26 dX4_chainVoice_24 4 rfl rfl ?_
  obtain ⟨g12, h⟩ := h
  refine aw_callV (M' := M_X3_strengthAt) 29 175 3 (hR X6 l0 0) [.int _, .int _] [.long _] dX4_chainVoice_26 lk_RX4_175 mv_X3_strengthAt mp_X3_strengthAt rfl ⟨leb rfl, leb rfl⟩ rfl (ltb rfl) g12 rfl (leb rfl) (leb rfl) (leb rfl) rfl (am_X3_strengthAt hG h) (kkI fun v11 X10 h => ?_) (kxN KrI.no)
  refine aw_widen (cc' := 0) (ss' := 0) (leb rfl) (leb rfl) ?_
  refine aw_i2l 30 dX4_chainVoice_29 rfl ?_
  refine aw_callS (M' := M_X4_chain) 33 367 [.long _, .long _] [] dX4_chainVoice_30 lk_RX4_367 ms_X4_chain mp_X4_chain rfl ⟨leb rfl, leb rfl⟩ rfl (leb rfl) (leb rfl) (leb rfl) rfl (am_X4_chain hG h) (kkL fun v14 X13 h => ?_) (kxN KrL.no)
  refine aw_widen (cc' := 0) (ss' := 0) (leb rfl) (leb rfl) ?_
  refine aw_lstore 35 (lv' := [(5, _), (0, _), (1, _), (3, _), (4, _)]) dX4_chainVoice_33 (ltb rfl) rfl rfl ?_
  refine aw_lload 37 dX4_chainVoice_35 0 rfl rfl ?_
  refine aw_aload_n 38 dX4_chainVoice_37 rfl 1 rfl rfl ?_
  obtain ⟨g15, h⟩ := h
  obtain ⟨g16, h⟩ := h
  refine aw_getR 41 dX4_chainVoice_38 fl_RX4_10 rfl g15 g16 rfl ?_
  refine aw_iload_n 42 dX4_chainVoice_41 rfl 3 rfl rfl ?_
  refine aw_iload 44 dX4_chainVoice_42 4 rfl rfl ?_
  obtain ⟨g19, h⟩ := h
  refine aw_callV (M' := M_X3_takenFramesOf) 47 295 3 (hR X13 l0 0) [.int _, .int _] [.long _] dX4_chainVoice_44 lk_RX4_295 mv_X3_takenFramesOf mp_X3_takenFramesOf rfl ⟨leb rfl, leb rfl⟩ rfl (ltb rfl) g19 rfl (leb rfl) (leb rfl) (leb rfl) rfl (am_X3_takenFramesOf hG h) (kkI fun v18 X17 h => ?_) (kxN KrI.no)
  refine aw_widen (cc' := 0) (ss' := 0) (leb rfl) (leb rfl) ?_
  refine aw_i2l 48 dX4_chainVoice_47 rfl ?_
  refine aw_callS (M' := M_X4_chain) 51 367 [.long _, .long _] [] dX4_chainVoice_48 lk_RX4_367 ms_X4_chain mp_X4_chain rfl ⟨leb rfl, leb rfl⟩ rfl (leb rfl) (leb rfl) (leb rfl) rfl (am_X4_chain hG h) (kkL fun v21 X20 h => ?_) (kxN KrL.no)
  refine aw_widen (cc' := 0) (ss' := 0) (leb rfl) (leb rfl) ?_
  refine aw_lstore 53 (lv' := [(5, _), (0, _), (1, _), (3, _), (4, _)]) dX4_chainVoice_51 (ltb rfl) rfl rfl ?_
  refine aw_aload_n 54 dX4_chainVoice_53 rfl 1 rfl rfl ?_
  obtain ⟨g22, h⟩ := h
  obtain ⟨g23, h⟩ := h
  refine aw_getR 57 dX4_chainVoice_54 fl_RX4_10 rfl g22 g23 rfl ?_
  refine aw_aload_n 58 dX4_chainVoice_57 rfl 1 rfl rfl ?_
  obtain ⟨g24, h⟩ := h
  refine aw_getR 61 dX4_chainVoice_58 fl_RX4_41 rfl g22 g24 rfl ?_
  refine aw_iload_n 62 dX4_chainVoice_61 rfl 3 rfl rfl ?_
  refine aw_iload 64 dX4_chainVoice_62 4 rfl rfl ?_
  obtain ⟨g26, h⟩ := h
  refine aw_callV (M' := M_X3_fillPlan) 67 401 3 (hR X20 l0 0) [.ref _, .int _, .int _] [] dX4_chainVoice_64 lk_RX4_401 mv_X3_fillPlan mp_X3_fillPlan rfl ⟨leb rfl, leb rfl⟩ rfl (ltb rfl) g26 rfl (leb rfl) (leb rfl) (leb rfl) rfl (am_X3_fillPlan hG h) (kkV fun X25 h => ?_) (kxN KrV.no)
  refine aw_widen (cc' := 0) (ss' := 0) (leb rfl) (leb rfl) ?_
  refine aw_aload_n 68 dX4_chainVoice_67 rfl 1 rfl rfl ?_
  obtain ⟨g27, h⟩ := h
  obtain ⟨g28, h⟩ := h
  refine aw_getR 71 dX4_chainVoice_68 fl_RX4_41 rfl g27 g28 rfl ?_
  obtain ⟨g31, h⟩ := h
  refine aw_callV (M' := M_X2_hasTooLong) 74 405 2 (hR X25 l0 5) [] [] dX4_chainVoice_71 lk_RX4_405 mv_X2_hasTooLong mp_X2_hasTooLong rfl ⟨leb rfl, leb rfl⟩ rfl (ltb rfl) g31 rfl (leb rfl) (leb rfl) (leb rfl) rfl (am_X2_hasTooLong hG h) (kkI fun v30 X29 h => ?_) (kxN KrI.no)
  refine aw_widen (cc' := 0) (ss' := 0) (leb rfl) (leb rfl) ?_
  refine aw_if_eq 88 77 dX4_chainVoice_74 rfl rfl (fun c32 => ?_) (fun c32 => ?_)
  · replace h := h.1 c32
    refine aw_lload 90 dX4_chainVoice_88 0 rfl rfl ?_
    refine aw_aload_n 91 dX4_chainVoice_90 rfl 1 rfl rfl ?_
    obtain ⟨g33, h⟩ := h
    obtain ⟨g34, h⟩ := h
    refine aw_getR 94 dX4_chainVoice_91 fl_RX4_41 rfl g33 g34 rfl ?_
    obtain ⟨g37, h⟩ := h
    refine aw_callV (M' := M_X2_goThrough) 97 301 2 (hR X29 l0 5) [] [.long _] dX4_chainVoice_94 lk_RX4_301 mv_X2_goThrough mp_X2_goThrough rfl ⟨leb rfl, leb rfl⟩ rfl (ltb rfl) g37 rfl (leb rfl) (leb rfl) (leb rfl) rfl (am_X2_goThrough hG h) (kkI fun v36 X35 h => ?_) (kxN KrI.no)
    refine aw_widen (cc' := 0) (ss' := 0) (leb rfl) (leb rfl) ?_
    refine aw_iconst 98 (v := 1) dX4_chainVoice_97 kI_1 rfl ?_
    refine aw_iadd 99 dX4_chainVoice_98 rfl ?_
    refine aw_i2l 100 dX4_chainVoice_99 rfl ?_
    refine aw_callS (M' := M_X4_chain) 103 367 [.long _, .long _] [] dX4_chainVoice_100 lk_RX4_367 ms_X4_chain mp_X4_chain rfl ⟨leb rfl, leb rfl⟩ rfl (leb rfl) (leb rfl) (leb rfl) rfl (am_X4_chain hG h) (kkL fun v39 X38 h => ?_) (kxN KrL.no)
    refine aw_widen (cc' := 0) (ss' := 0) (leb rfl) (leb rfl) ?_
    refine aw_aload_n 104 dX4_chainVoice_103 rfl 1 rfl rfl ?_
    obtain ⟨g40, h⟩ := h
    obtain ⟨g41, h⟩ := h
    refine aw_getR 107 dX4_chainVoice_104 fl_RX4_41 rfl g40 g41 rfl ?_
    obtain ⟨g44, h⟩ := h
    refine aw_callV (M' := M_X2_fillTable) 110 304 2 (hR X38 l0 5) [] [.long _] dX4_chainVoice_107 lk_RX4_304 mv_X2_fillTable mp_X2_fillTable rfl ⟨leb rfl, leb rfl⟩ rfl (ltb rfl) g44 rfl (leb rfl) (leb rfl) (leb rfl) rfl (am_X2_fillTable hG h) (kkI fun v43 X42 h => ?_) (kxN KrI.no)
    refine aw_widen (cc' := 0) (ss' := 0) (leb rfl) (leb rfl) ?_
    refine aw_iconst 111 (v := 1) dX4_chainVoice_110 kI_1 rfl ?_
    refine aw_iadd 112 dX4_chainVoice_111 rfl ?_
    refine aw_i2l 113 dX4_chainVoice_112 rfl ?_
    refine aw_callS (M' := M_X4_chain) 116 367 [.long _, .long _] [] dX4_chainVoice_113 lk_RX4_367 ms_X4_chain mp_X4_chain rfl ⟨leb rfl, leb rfl⟩ rfl (leb rfl) (leb rfl) (leb rfl) rfl (am_X4_chain hG h) (kkL fun v46 X45 h => ?_) (kxN KrL.no)
    refine aw_widen (cc' := 0) (ss' := 0) (leb rfl) (leb rfl) ?_
    exact aw_lreturn dX4_chainVoice_116 rfl (leb rfl) (leb rfl) ⟨_, rfl, h⟩
  · replace h := h.2 c32
    refine aw_lload 79 dX4_chainVoice_77 0 rfl rfl ?_
    refine aw_lconst 80 (v := 0) dX4_chainVoice_79 kL_0 rfl ?_
    refine aw_callS (M' := M_X4_chain) 83 367 [.long _, .long _] [] dX4_chainVoice_80 lk_RX4_367 ms_X4_chain mp_X4_chain rfl ⟨leb rfl, leb rfl⟩ rfl (leb rfl) (leb rfl) (leb rfl) rfl (am_X4_chain hG h) (kkL fun v48 X47 h => ?_) (kxN KrL.no)
    refine aw_widen (cc' := 0) (ss' := 0) (leb rfl) (leb rfl) ?_
    refine aw_lconst 84 (v := 0) dX4_chainVoice_83 kL_0 rfl ?_
    refine aw_callS (M' := M_X4_chain) 87 367 [.long _, .long _] [] dX4_chainVoice_84 lk_RX4_367 ms_X4_chain mp_X4_chain rfl ⟨leb rfl, leb rfl⟩ rfl (leb rfl) (leb rfl) (leb rfl) rfl (am_X4_chain hG h) (kkL fun v50 X49 h => ?_) (kxN KrL.no)
    refine aw_widen (cc' := 0) (ss' := 0) (leb rfl) (leb rfl) ?_
    exact aw_lreturn dX4_chainVoice_87 rfl (leb rfl) (leb rfl) ⟨_, rfl, h⟩)
set_option maxRecDepth 20000 in
theorem aw_X4_chainReel_34 {G : GG} (hG : G.1.stackTraces = false)  {l0 : Nat} {l3 : Int32} {l4 : Int64} {l6 : Int32} {X : XH} {K : Int64 → XH → Prop}  (h : w_X4_chainReel_34  l0 l3 l4 l6 X K) : AW G M_X4_chainReel 34 [(0, .ref l0), (3, .int l3), (4, .long l4), (6, .int l6)] [] X 0 0 (KrL K) :=
  h (fun l0 l3 l4 l6 X => AW G M_X4_chainReel 34 [(0, .ref l0), (3, .int l3), (4, .long l4), (6, .int l6)] [] X 0 0 (KrL K)) (fun l0 l3 l4 l6 X h => by
    refine aw_iload 36 dX4_chainReel_34 3 rfl rfl ?_
    refine aw_iconst 37 (v := 3) dX4_chainReel_36 kI_3 rfl ?_
    refine aw_icmp_ge 116 40 dX4_chainReel_37 rfl rfl (fun c1 => ?_) (fun c1 => ?_)
    · replace h := h.1 c1
      refine aw_lload 118 dX4_chainReel_116 2 rfl rfl ?_
      exact aw_lreturn dX4_chainReel_118 rfl (leb rfl) (leb rfl) ⟨_, rfl, h⟩
    · replace h := h.2 c1
      refine aw_lload 42 dX4_chainReel_40 2 rfl rfl ?_
      refine aw_aload_n 43 dX4_chainReel_42 rfl 0 rfl rfl ?_
      obtain ⟨g2, h⟩ := h
      obtain ⟨g3, h⟩ := h
      refine aw_getR 46 dX4_chainReel_43 fl_RX4_10 rfl g2 g3 rfl ?_
      refine aw_iload_n 47 dX4_chainReel_46 rfl 1 rfl rfl ?_
      refine aw_iload 49 dX4_chainReel_47 3 rfl rfl ?_
      obtain ⟨g6, h⟩ := h
      refine aw_callV (M' := M_X3_isWholeReel) 52 201 3 (hR X l0 0) [.int _, .int _] [.long _] dX4_chainReel_49 lk_RX4_201 mv_X3_isWholeReel mp_X3_isWholeReel rfl ⟨leb rfl, leb rfl⟩ rfl (ltb rfl) g6 rfl (leb rfl) (leb rfl) (leb rfl) rfl (am_X3_isWholeReel hG h) (kkI fun v5 X4 h => ?_) (kxN KrI.no)
      refine aw_widen (cc' := 0) (ss' := 0) (leb rfl) (leb rfl) ?_
      refine aw_callS (M' := M_X4_chainFlag) 55 397 [.long _, .int _] [] dX4_chainReel_52 lk_RX4_397 ms_X4_chainFlag mp_X4_chainFlag rfl ⟨leb rfl, leb rfl⟩ rfl (leb rfl) (leb rfl) (leb rfl) rfl (am_X4_chainFlag hG h) (kkL fun v8 X7 h => ?_) (kxN KrL.no)
      refine aw_widen (cc' := 0) (ss' := 0) (leb rfl) (leb rfl) ?_
      refine aw_lstore 57 (lv' := [(4, _), (0, _), (3, _), (6, _)]) dX4_chainReel_55 (ltb rfl) rfl rfl ?_
      refine aw_lload 59 dX4_chainReel_57 0 rfl rfl ?_
      refine aw_aload_n 60 dX4_chainReel_59 rfl 1 rfl rfl ?_
      obtain ⟨g9, h⟩ := h
      obtain ⟨g10, h⟩ := h
      refine aw_getR 63 dX4_chainReel_60 fl_RX4_10 rfl g9 g10 rfl ?_
      refine aw_iload_n 64 dX4_chainReel_63 rfl 2 rfl rfl ?_
      refine aw_iload 66 dX4_chainReel_64 3 rfl rfl ?_
      obtain ⟨g13, h⟩ := h
      refine aw_callV (M' := M_X3_hasMix) 69 198 3 (hR X7 l0 0) [.int _, .int _] [.long _] dX4_chainReel_66 lk_RX4_198 mv_X3_hasMix mp_X3_hasMix rfl ⟨leb rfl, leb rfl⟩ rfl (ltb rfl) g13 rfl (leb rfl) (leb rfl) (leb rfl) rfl (am_X3_hasMix hG h) (kkI fun v12 X11 h => ?_) (kxN KrI.no)
      refine aw_widen (cc' := 0) (ss' := 0) (leb rfl) (leb rfl) ?_
      refine aw_callS (M' := M_X4_chainFlag) 72 397 [.long _, .int _] [] dX4_chainReel_69 lk_RX4_397 ms_X4_chainFlag mp_X4_chainFlag rfl ⟨leb rfl, leb rfl⟩ rfl (leb rfl) (leb rfl) (leb rfl) rfl (am_X4_chainFlag hG h) (kkL fun v15 X14 h => ?_) (kxN KrL.no)
      refine aw_widen (cc' := 0) (ss' := 0) (leb rfl) (leb rfl) ?_
      refine aw_lstore 74 (lv' := [(4, _), (0, _), (3, _), (6, _)]) dX4_chainReel_72 (ltb rfl) rfl rfl ?_
      refine aw_lload 76 dX4_chainReel_74 0 rfl rfl ?_
      refine aw_aload_n 77 dX4_chainReel_76 rfl 1 rfl rfl ?_
      obtain ⟨g16, h⟩ := h
      obtain ⟨g17, h⟩ := h
      refine aw_getR 80 dX4_chainReel_77 fl_RX4_10 rfl g16 g17 rfl ?_
      refine aw_iload_n 81 dX4_chainReel_80 rfl 2 rfl rfl ?_
      refine aw_iload 83 dX4_chainReel_81 3 rfl rfl ?_
      obtain ⟨g20, h⟩ := h
      refine aw_callV (M' := M_X3_signaturesAt) 86 313 3 (hR X14 l0 0) [.int _, .int _] [.long _] dX4_chainReel_83 lk_RX4_313 mv_X3_signaturesAt mp_X3_signaturesAt rfl ⟨leb rfl, leb rfl⟩ rfl (ltb rfl) g20 rfl (leb rfl) (leb rfl) (leb rfl) rfl (am_X3_signaturesAt hG h) (kkI fun v19 X18 h => ?_) (kxN KrI.no)
      refine aw_widen (cc' := 0) (ss' := 0) (leb rfl) (leb rfl) ?_
      refine aw_i2l 87 dX4_chainReel_86 rfl ?_
      refine aw_callS (M' := M_X4_chain) 90 367 [.long _, .long _] [] dX4_chainReel_87 lk_RX4_367 ms_X4_chain mp_X4_chain rfl ⟨leb rfl, leb rfl⟩ rfl (leb rfl) (leb rfl) (leb rfl) rfl (am_X4_chain hG h) (kkL fun v22 X21 h => ?_) (kxN KrL.no)
      refine aw_widen (cc' := 0) (ss' := 0) (leb rfl) (leb rfl) ?_
      refine aw_lstore 92 (lv' := [(4, _), (0, _), (3, _), (6, _)]) dX4_chainReel_90 (ltb rfl) rfl rfl ?_
      refine aw_lload 94 dX4_chainReel_92 0 rfl rfl ?_
      refine aw_aload_n 95 dX4_chainReel_94 rfl 1 rfl rfl ?_
      obtain ⟨g23, h⟩ := h
      obtain ⟨g24, h⟩ := h
      refine aw_getR 98 dX4_chainReel_95 fl_RX4_10 rfl g23 g24 rfl ?_
      refine aw_iload_n 99 dX4_chainReel_98 rfl 2 rfl rfl ?_
      refine aw_iload 101 dX4_chainReel_99 3 rfl rfl ?_
      obtain ⟨g27, h⟩ := h
      refine aw_callV (M' := M_X3_signaturesMissing) 104 223 3 (hR X21 l0 0) [.int _, .int _] [.long _] dX4_chainReel_101 lk_RX4_223 mv_X3_signaturesMissing mp_X3_signaturesMissing rfl ⟨leb rfl, leb rfl⟩ rfl (ltb rfl) g27 rfl (leb rfl) (leb rfl) (leb rfl) rfl (am_X3_signaturesMissing hG h) (kkI fun v26 X25 h => ?_) (kxN KrI.no)
      refine aw_widen (cc' := 0) (ss' := 0) (leb rfl) (leb rfl) ?_
      refine aw_i2l 105 dX4_chainReel_104 rfl ?_
      refine aw_callS (M' := M_X4_chain) 108 367 [.long _, .long _] [] dX4_chainReel_105 lk_RX4_367 ms_X4_chain mp_X4_chain rfl ⟨leb rfl, leb rfl⟩ rfl (leb rfl) (leb rfl) (leb rfl) rfl (am_X4_chain hG h) (kkL fun v29 X28 h => ?_) (kxN KrL.no)
      refine aw_widen (cc' := 0) (ss' := 0) (leb rfl) (leb rfl) ?_
      refine aw_lstore 110 (lv' := [(4, _), (0, _), (3, _), (6, _)]) dX4_chainReel_108 (ltb rfl) rfl rfl ?_
      refine aw_iinc 113 (v := 1) (lv' := [(6, _), (4, _), (0, _), (3, _)]) dX4_chainReel_110 3 rfl kI_1 (ltb rfl) rfl rfl ?_
      refine aw_goto 34 dX4_chainReel_113 rfl ?_
      exact aw_pick [2, 3, 1, 0] rfl h)
set_option maxRecDepth 20000 in
theorem am_X4_chainReel {G : GG} (hG : G.1.stackTraces = false) {l0 : Nat} {l1 : Int64} {l3 : Int32} {X : XH} {K : Int64 → XH → Prop} (h : w_X4_chainReel l0 l1 l3 X K) : AM G M_X4_chainReel X [.ref l0, .long l1, .int l3] (KrL K) := AM_of (by decide +kernel) rfl (leb rfl) hG (by
  show AW G M_X4_chainReel 0 [(0, .ref l0), (1, .long l1), (3, .int l3)] [] X 0 0 _
  unfold w_X4_chainReel at h
  refine aw_lload_n 1 dX4_chainReel_0 rfl 1 rfl rfl ?_
  refine aw_aload_n 2 dX4_chainReel_1 rfl 0 rfl rfl ?_
  obtain ⟨g1, h⟩ := h
  obtain ⟨g2, h⟩ := h
  refine aw_getR 5 dX4_chainReel_2 fl_RX4_10 rfl g1 g2 rfl ?_
  refine aw_iload_n 6 dX4_chainReel_5 rfl 2 rfl rfl ?_
  obtain ⟨g5, h⟩ := h
  refine aw_callV (M' := M_X3_clausesOn) 9 307 3 (hR X l0 0) [.int _] [.long _] dX4_chainReel_6 lk_RX4_307 mv_X3_clausesOn mp_X3_clausesOn rfl ⟨leb rfl, leb rfl⟩ rfl (ltb rfl) g5 rfl (leb rfl) (leb rfl) (leb rfl) rfl (am_X3_clausesOn hG h) (kkI fun v4 X3 h => ?_) (kxN KrI.no)
  refine aw_widen (cc' := 0) (ss' := 0) (leb rfl) (leb rfl) ?_
  refine aw_i2l 10 dX4_chainReel_9 rfl ?_
  refine aw_callS (M' := M_X4_chain) 13 367 [.long _, .long _] [] dX4_chainReel_10 lk_RX4_367 ms_X4_chain mp_X4_chain rfl ⟨leb rfl, leb rfl⟩ rfl (leb rfl) (leb rfl) (leb rfl) rfl (am_X4_chain hG h) (kkL fun v7 X6 h => ?_) (kxN KrL.no)
  refine aw_widen (cc' := 0) (ss' := 0) (leb rfl) (leb rfl) ?_
  refine aw_lstore 15 (lv' := [(4, _), (0, _), (1, _), (3, _)]) dX4_chainReel_13 (ltb rfl) rfl rfl ?_
  refine aw_lload 17 dX4_chainReel_15 0 rfl rfl ?_
  refine aw_aload_n 18 dX4_chainReel_17 rfl 1 rfl rfl ?_
  obtain ⟨g8, h⟩ := h
  obtain ⟨g9, h⟩ := h
  refine aw_getR 21 dX4_chainReel_18 fl_RX4_10 rfl g8 g9 rfl ?_
  refine aw_iload_n 22 dX4_chainReel_21 rfl 3 rfl rfl ?_
  obtain ⟨g12, h⟩ := h
  refine aw_callV (M' := M_X3_lipsOn) 25 310 3 (hR X6 l0 0) [.int _] [.long _] dX4_chainReel_22 lk_RX4_310 mv_X3_lipsOn mp_X3_lipsOn rfl ⟨leb rfl, leb rfl⟩ rfl (ltb rfl) g12 rfl (leb rfl) (leb rfl) (leb rfl) rfl (am_X3_lipsOn hG h) (kkI fun v11 X10 h => ?_) (kxN KrI.no)
  refine aw_widen (cc' := 0) (ss' := 0) (leb rfl) (leb rfl) ?_
  refine aw_i2l 26 dX4_chainReel_25 rfl ?_
  refine aw_callS (M' := M_X4_chain) 29 367 [.long _, .long _] [] dX4_chainReel_26 lk_RX4_367 ms_X4_chain mp_X4_chain rfl ⟨leb rfl, leb rfl⟩ rfl (leb rfl) (leb rfl) (leb rfl) rfl (am_X4_chain hG h) (kkL fun v14 X13 h => ?_) (kxN KrL.no)
  refine aw_widen (cc' := 0) (ss' := 0) (leb rfl) (leb rfl) ?_
  refine aw_lstore 31 (lv' := [(4, _), (0, _), (1, _), (3, _)]) dX4_chainReel_29 (ltb rfl) rfl rfl ?_
  refine aw_iconst 32 (v := 0) dX4_chainReel_31 kI_0 rfl ?_
  refine aw_istore 34 (lv' := [(6, _), (4, _), (0, _), (1, _), (3, _)]) dX4_chainReel_32 (ltb rfl) rfl rfl ?_
  exact aw_pick [2, 4, 1, 0] rfl (aw_X4_chainReel_34 hG  h))
set_option maxRecDepth 20000 in
theorem aw_X4_bitsOf_45 {G : GG} (hG : G.1.stackTraces = false)  {l2 : UInt64} {l4 : Int64} {X : XH} {K : Int64 → XH → Prop}  (h : w_X4_bitsOf_45  l2 l4 X K) : AW G M_X4_bitsOf 45 [(2, .double l2), (4, .long l4)] [] X 0 0 (KrL K) := by
  unfold w_X4_bitsOf_45 at h
  refine aw_dload_n 46 dX4_bitsOf_45 rfl 0 rfl rfl ?_
  refine aw_dconst1 47 dX4_bitsOf_46 rfl ?_
  obtain ⟨g1, h⟩ := h
  refine aw_dsub 48 dX4_bitsOf_47 g1 rfl ?_
  refine aw_ldc2d 51 (v := 4841369599423283200) dX4_bitsOf_48 (tk3 (i := 44) (by decide +kernel) rfl) rfl ?_
  obtain ⟨g2, h⟩ := h
  refine aw_dmul 52 dX4_bitsOf_51 g2 rfl ?_
  refine aw_d2l 53 dX4_bitsOf_52 rfl ?_
  refine aw_lstore 55 (lv' := [(6, _), (2, _), (4, _)]) dX4_bitsOf_53 (ltb rfl) rfl rfl ?_
  refine aw_lload 57 dX4_bitsOf_55 2 rfl rfl ?_
  refine aw_ldc2 60 (v := 1023) dX4_bitsOf_57 (tk3 (i := 43) (by decide +kernel) rfl) rfl ?_
  refine aw_ladd 61 dX4_bitsOf_60 rfl ?_
  refine aw_bipush 63 (v := 52) dX4_bitsOf_61 kB_52 rfl ?_
  refine aw_lshl 64 dX4_bitsOf_63 rfl ?_
  refine aw_lload 66 dX4_bitsOf_64 0 rfl rfl ?_
  refine aw_lor 67 dX4_bitsOf_66 rfl ?_
  exact aw_lreturn dX4_bitsOf_67 rfl (leb rfl) (leb rfl) ⟨_, rfl, h⟩
set_option maxRecDepth 20000 in
theorem aw_X4_bitsOf_13 {G : GG} (hG : G.1.stackTraces = false)  {l2 : UInt64} {l4 : Int64} {X : XH} {K : Int64 → XH → Prop}  (h : w_X4_bitsOf_13  l2 l4 X K) : AW G M_X4_bitsOf 13 [(2, .double l2), (4, .long l4)] [] X 0 0 (KrL K) :=
  h (fun l2 l4 X => AW G M_X4_bitsOf 13 [(2, .double l2), (4, .long l4)] [] X 0 0 (KrL K)) (fun l2 l4 X h => by
    refine aw_dload_n 14 dX4_bitsOf_13 rfl 0 rfl rfl ?_
    refine aw_ldc2d 17 (v := 4611686018427387904) dX4_bitsOf_14 (tk3 (i := 42) (by decide +kernel) rfl) rfl ?_
    refine aw_dcmp 18 dX4_bitsOf_17 rfl ?_
    refine aw_if_lt 45 21 dX4_bitsOf_18 rfl rfl (fun c1 => ?_) (fun c1 => ?_)
    · replace h := h.1 c1
      exact aw_pick [0, 1] rfl (aw_X4_bitsOf_45 hG  h)
    · replace h := h.2 c1
      refine aw_lload 23 dX4_bitsOf_21 1 rfl rfl ?_
      refine aw_ldc2 26 (v := 1023) dX4_bitsOf_23 (tk3 (i := 43) (by decide +kernel) rfl) rfl ?_
      refine aw_lcmp 27 dX4_bitsOf_26 rfl ?_
      refine aw_if_ge 45 30 dX4_bitsOf_27 rfl rfl (fun c2 => ?_) (fun c2 => ?_)
      · replace h := h.1 c2
        exact aw_pick [0, 1] rfl (aw_X4_bitsOf_45 hG  h)
      · replace h := h.2 c2
        refine aw_dload_n 31 dX4_bitsOf_30 rfl 0 rfl rfl ?_
        refine aw_ldc2d 34 (v := 4611686018427387904) dX4_bitsOf_31 (tk3 (i := 42) (by decide +kernel) rfl) rfl ?_
        obtain ⟨g3, h⟩ := h
        refine aw_ddiv 35 dX4_bitsOf_34 g3 rfl ?_
        refine aw_dstore_n 36 (lv' := [(2, _), (4, _)]) dX4_bitsOf_35 rfl (ltb rfl) rfl rfl ?_
        refine aw_lload 38 dX4_bitsOf_36 1 rfl rfl ?_
        refine aw_lconst 39 (v := 1) dX4_bitsOf_38 kL_1 rfl ?_
        refine aw_ladd 40 dX4_bitsOf_39 rfl ?_
        refine aw_lstore 42 (lv' := [(4, _), (2, _)]) dX4_bitsOf_40 (ltb rfl) rfl rfl ?_
        refine aw_goto 13 dX4_bitsOf_42 rfl ?_
        exact aw_pick [1, 0] rfl h)
set_option maxRecDepth 20000 in
theorem am_X4_bitsOf {G : GG} (hG : G.1.stackTraces = false) {l0 : UInt64} {X : XH} {K : Int64 → XH → Prop} (h : w_X4_bitsOf l0 X K) : AM G M_X4_bitsOf X [.double l0] (KrL K) := AM_of (by decide +kernel) rfl (leb rfl) hG (by
  show AW G M_X4_bitsOf 0 [(0, .double l0)] [] X 0 0 _
  unfold w_X4_bitsOf at h
  refine aw_dload_n 1 dX4_bitsOf_0 rfl 0 rfl rfl ?_
  refine aw_dconst1 2 dX4_bitsOf_1 rfl ?_
  refine aw_dcmp 3 dX4_bitsOf_2 rfl ?_
  refine aw_if_ge 8 6 dX4_bitsOf_3 rfl rfl (fun c1 => ?_) (fun c1 => ?_)
  · replace h := h.1 c1
    refine aw_dload_n 9 dX4_bitsOf_8 rfl 0 rfl rfl ?_
    refine aw_dstore_n 10 (lv' := [(2, _), (0, _)]) dX4_bitsOf_9 rfl (ltb rfl) rfl rfl ?_
    refine aw_lconst 11 (v := 0) dX4_bitsOf_10 kL_0 rfl ?_
    refine aw_lstore 13 (lv' := [(4, _), (2, _), (0, _)]) dX4_bitsOf_11 (ltb rfl) rfl rfl ?_
    exact aw_pick [1, 0] rfl (aw_X4_bitsOf_13 hG  h)
  · replace h := h.2 c1
    refine aw_lconst 7 (v := 0) dX4_bitsOf_6 kL_0 rfl ?_
    exact aw_lreturn dX4_bitsOf_7 rfl (leb rfl) (leb rfl) ⟨_, rfl, h⟩)
set_option maxRecDepth 20000 in
theorem am_X4_chainTongue {G : GG} (hG : G.1.stackTraces = false) {l0 : Nat} {l1 : Int64} {l3 : Int32} {X : XH} {K : Int64 → XH → Prop} (h : w_X4_chainTongue l0 l1 l3 X K) : AM G M_X4_chainTongue X [.ref l0, .long l1, .int l3] (KrL K) := AM_of (by decide +kernel) rfl (leb rfl) hG (by
  show AW G M_X4_chainTongue 0 [(0, .ref l0), (1, .long l1), (3, .int l3)] [] X 0 0 _
  unfold w_X4_chainTongue at h
  refine aw_lload_n 1 dX4_chainTongue_0 rfl 1 rfl rfl ?_
  refine aw_aload_n 2 dX4_chainTongue_1 rfl 0 rfl rfl ?_
  obtain ⟨g1, h⟩ := h
  obtain ⟨g2, h⟩ := h
  refine aw_getR 5 dX4_chainTongue_2 fl_RX4_10 rfl g1 g2 rfl ?_
  refine aw_iload_n 6 dX4_chainTongue_5 rfl 2 rfl rfl ?_
  obtain ⟨g5, h⟩ := h
  refine aw_callV (M' := M_X3_annexTotal) 9 145 3 (hR X l0 0) [.int _] [.long _] dX4_chainTongue_6 lk_RX4_145 mv_X3_annexTotal mp_X3_annexTotal rfl ⟨leb rfl, leb rfl⟩ rfl (ltb rfl) g5 rfl (leb rfl) (leb rfl) (leb rfl) rfl (am_X3_annexTotal hG h) (kkI fun v4 X3 h => ?_) (kxN KrI.no)
  refine aw_widen (cc' := 0) (ss' := 0) (leb rfl) (leb rfl) ?_
  refine aw_i2l 10 dX4_chainTongue_9 rfl ?_
  refine aw_callS (M' := M_X4_chain) 13 367 [.long _, .long _] [] dX4_chainTongue_10 lk_RX4_367 ms_X4_chain mp_X4_chain rfl ⟨leb rfl, leb rfl⟩ rfl (leb rfl) (leb rfl) (leb rfl) rfl (am_X4_chain hG h) (kkL fun v7 X6 h => ?_) (kxN KrL.no)
  refine aw_widen (cc' := 0) (ss' := 0) (leb rfl) (leb rfl) ?_
  refine aw_lstore 15 (lv' := [(4, _), (0, _), (1, _), (3, _)]) dX4_chainTongue_13 (ltb rfl) rfl rfl ?_
  refine aw_lload 17 dX4_chainTongue_15 0 rfl rfl ?_
  refine aw_aload_n 18 dX4_chainTongue_17 rfl 1 rfl rfl ?_
  obtain ⟨g8, h⟩ := h
  obtain ⟨g9, h⟩ := h
  refine aw_getR 21 dX4_chainTongue_18 fl_RX4_10 rfl g8 g9 rfl ?_
  refine aw_iload_n 22 dX4_chainTongue_21 rfl 3 rfl rfl ?_
  obtain ⟨g12, h⟩ := h
  refine aw_callV (M' := M_X3_takenTotal) 25 316 3 (hR X6 l0 0) [.int _] [.long _] dX4_chainTongue_22 lk_RX4_316 mv_X3_takenTotal mp_X3_takenTotal rfl ⟨leb rfl, leb rfl⟩ rfl (ltb rfl) g12 rfl (leb rfl) (leb rfl) (leb rfl) rfl (am_X3_takenTotal hG h) (kkI fun v11 X10 h => ?_) (kxN KrI.no)
  refine aw_widen (cc' := 0) (ss' := 0) (leb rfl) (leb rfl) ?_
  refine aw_i2l 26 dX4_chainTongue_25 rfl ?_
  refine aw_callS (M' := M_X4_chain) 29 367 [.long _, .long _] [] dX4_chainTongue_26 lk_RX4_367 ms_X4_chain mp_X4_chain rfl ⟨leb rfl, leb rfl⟩ rfl (leb rfl) (leb rfl) (leb rfl) rfl (am_X4_chain hG h) (kkL fun v14 X13 h => ?_) (kxN KrL.no)
  refine aw_widen (cc' := 0) (ss' := 0) (leb rfl) (leb rfl) ?_
  refine aw_lstore 31 (lv' := [(4, _), (0, _), (1, _), (3, _)]) dX4_chainTongue_29 (ltb rfl) rfl rfl ?_
  refine aw_lload 33 dX4_chainTongue_31 0 rfl rfl ?_
  refine aw_aload_n 34 dX4_chainTongue_33 rfl 1 rfl rfl ?_
  obtain ⟨g15, h⟩ := h
  obtain ⟨g16, h⟩ := h
  refine aw_getR 37 dX4_chainTongue_34 fl_RX4_10 rfl g15 g16 rfl ?_
  refine aw_iload_n 38 dX4_chainTongue_37 rfl 3 rfl rfl ?_
  obtain ⟨g19, h⟩ := h
  refine aw_callV (M' := M_X3_readyTotal) 41 319 3 (hR X13 l0 0) [.int _] [.long _] dX4_chainTongue_38 lk_RX4_319 mv_X3_readyTotal mp_X3_readyTotal rfl ⟨leb rfl, leb rfl⟩ rfl (ltb rfl) g19 rfl (leb rfl) (leb rfl) (leb rfl) rfl (am_X3_readyTotal hG h) (kkI fun v18 X17 h => ?_) (kxN KrI.no)
  refine aw_widen (cc' := 0) (ss' := 0) (leb rfl) (leb rfl) ?_
  refine aw_i2l 42 dX4_chainTongue_41 rfl ?_
  refine aw_callS (M' := M_X4_chain) 45 367 [.long _, .long _] [] dX4_chainTongue_42 lk_RX4_367 ms_X4_chain mp_X4_chain rfl ⟨leb rfl, leb rfl⟩ rfl (leb rfl) (leb rfl) (leb rfl) rfl (am_X4_chain hG h) (kkL fun v21 X20 h => ?_) (kxN KrL.no)
  refine aw_widen (cc' := 0) (ss' := 0) (leb rfl) (leb rfl) ?_
  refine aw_lstore 47 (lv' := [(4, _), (0, _), (1, _), (3, _)]) dX4_chainTongue_45 (ltb rfl) rfl rfl ?_
  refine aw_lload 49 dX4_chainTongue_47 0 rfl rfl ?_
  refine aw_aload_n 50 dX4_chainTongue_49 rfl 1 rfl rfl ?_
  obtain ⟨g22, h⟩ := h
  obtain ⟨g23, h⟩ := h
  refine aw_getR 53 dX4_chainTongue_50 fl_RX4_10 rfl g22 g23 rfl ?_
  refine aw_iload_n 54 dX4_chainTongue_53 rfl 3 rfl rfl ?_
  obtain ⟨g26, h⟩ := h
  refine aw_callV (M' := M_X3_readyOfAllVoices) 57 322 3 (hR X20 l0 0) [.int _] [.long _] dX4_chainTongue_54 lk_RX4_322 mv_X3_readyOfAllVoices mp_X3_readyOfAllVoices rfl ⟨leb rfl, leb rfl⟩ rfl (ltb rfl) g26 rfl (leb rfl) (leb rfl) (leb rfl) rfl (am_X3_readyOfAllVoices hG h) (kkI fun v25 X24 h => ?_) (kxN KrI.no)
  refine aw_widen (cc' := 0) (ss' := 0) (leb rfl) (leb rfl) ?_
  refine aw_i2l 58 dX4_chainTongue_57 rfl ?_
  refine aw_callS (M' := M_X4_chain) 61 367 [.long _, .long _] [] dX4_chainTongue_58 lk_RX4_367 ms_X4_chain mp_X4_chain rfl ⟨leb rfl, leb rfl⟩ rfl (leb rfl) (leb rfl) (leb rfl) rfl (am_X4_chain hG h) (kkL fun v28 X27 h => ?_) (kxN KrL.no)
  refine aw_widen (cc' := 0) (ss' := 0) (leb rfl) (leb rfl) ?_
  refine aw_lstore 63 (lv' := [(4, _), (0, _), (1, _), (3, _)]) dX4_chainTongue_61 (ltb rfl) rfl rfl ?_
  refine aw_lload 65 dX4_chainTongue_63 0 rfl rfl ?_
  refine aw_aload_n 66 dX4_chainTongue_65 rfl 1 rfl rfl ?_
  obtain ⟨g29, h⟩ := h
  obtain ⟨g30, h⟩ := h
  refine aw_getR 69 dX4_chainTongue_66 fl_RX4_10 rfl g29 g30 rfl ?_
  refine aw_iload_n 70 dX4_chainTongue_69 rfl 3 rfl rfl ?_
  obtain ⟨g33, h⟩ := h
  refine aw_callV (M' := M_X3_hasRatification) 73 325 3 (hR X27 l0 0) [.int _] [.long _] dX4_chainTongue_70 lk_RX4_325 mv_X3_hasRatification mp_X3_hasRatification rfl ⟨leb rfl, leb rfl⟩ rfl (ltb rfl) g33 rfl (leb rfl) (leb rfl) (leb rfl) rfl (am_X3_hasRatification hG h) (kkI fun v32 X31 h => ?_) (kxN KrI.no)
  refine aw_widen (cc' := 0) (ss' := 0) (leb rfl) (leb rfl) ?_
  refine aw_callS (M' := M_X4_chainFlag) 76 397 [.long _, .int _] [] dX4_chainTongue_73 lk_RX4_397 ms_X4_chainFlag mp_X4_chainFlag rfl ⟨leb rfl, leb rfl⟩ rfl (leb rfl) (leb rfl) (leb rfl) rfl (am_X4_chainFlag hG h) (kkL fun v35 X34 h => ?_) (kxN KrL.no)
  refine aw_widen (cc' := 0) (ss' := 0) (leb rfl) (leb rfl) ?_
  refine aw_lstore 78 (lv' := [(4, _), (0, _), (1, _), (3, _)]) dX4_chainTongue_76 (ltb rfl) rfl rfl ?_
  refine aw_lload 80 dX4_chainTongue_78 0 rfl rfl ?_
  refine aw_aload_n 81 dX4_chainTongue_80 rfl 1 rfl rfl ?_
  obtain ⟨g36, h⟩ := h
  obtain ⟨g37, h⟩ := h
  refine aw_getR 84 dX4_chainTongue_81 fl_RX4_10 rfl g36 g37 rfl ?_
  refine aw_iload_n 85 dX4_chainTongue_84 rfl 3 rfl rfl ?_
  obtain ⟨g40, h⟩ := h
  refine aw_callV (M' := M_X3_misfitTotal) 88 328 3 (hR X34 l0 0) [.int _] [.long _] dX4_chainTongue_85 lk_RX4_328 mv_X3_misfitTotal mp_X3_misfitTotal rfl ⟨leb rfl, leb rfl⟩ rfl (ltb rfl) g40 rfl (leb rfl) (leb rfl) (leb rfl) rfl (am_X3_misfitTotal hG h) (kkI fun v39 X38 h => ?_) (kxN KrI.no)
  refine aw_widen (cc' := 0) (ss' := 0) (leb rfl) (leb rfl) ?_
  refine aw_i2l 89 dX4_chainTongue_88 rfl ?_
  refine aw_callS (M' := M_X4_chain) 92 367 [.long _, .long _] [] dX4_chainTongue_89 lk_RX4_367 ms_X4_chain mp_X4_chain rfl ⟨leb rfl, leb rfl⟩ rfl (leb rfl) (leb rfl) (leb rfl) rfl (am_X4_chain hG h) (kkL fun v42 X41 h => ?_) (kxN KrL.no)
  refine aw_widen (cc' := 0) (ss' := 0) (leb rfl) (leb rfl) ?_
  refine aw_lstore 94 (lv' := [(4, _), (0, _), (1, _), (3, _)]) dX4_chainTongue_92 (ltb rfl) rfl rfl ?_
  refine aw_lload 96 dX4_chainTongue_94 0 rfl rfl ?_
  refine aw_aload_n 97 dX4_chainTongue_96 rfl 1 rfl rfl ?_
  obtain ⟨g43, h⟩ := h
  obtain ⟨g44, h⟩ := h
  refine aw_getR 100 dX4_chainTongue_97 fl_RX4_10 rfl g43 g44 rfl ?_
  refine aw_iload_n 101 dX4_chainTongue_100 rfl 3 rfl rfl ?_
  obtain ⟨g47, h⟩ := h
  refine aw_callV (M' := M_X3_longestToTake) 104 350 3 (hR X41 l0 0) [.int _] [.long _] dX4_chainTongue_101 lk_RX4_350 mv_X3_longestToTake mp_X3_longestToTake rfl ⟨leb rfl, leb rfl⟩ rfl (ltb rfl) g47 rfl (leb rfl) (leb rfl) (leb rfl) rfl (am_X3_longestToTake hG h) (kkI fun v46 X45 h => ?_) (kxN KrI.no)
  refine aw_widen (cc' := 0) (ss' := 0) (leb rfl) (leb rfl) ?_
  refine aw_iconst 105 (v := 1) dX4_chainTongue_104 kI_1 rfl ?_
  refine aw_iadd 106 dX4_chainTongue_105 rfl ?_
  refine aw_i2l 107 dX4_chainTongue_106 rfl ?_
  refine aw_callS (M' := M_X4_chain) 110 367 [.long _, .long _] [] dX4_chainTongue_107 lk_RX4_367 ms_X4_chain mp_X4_chain rfl ⟨leb rfl, leb rfl⟩ rfl (leb rfl) (leb rfl) (leb rfl) rfl (am_X4_chain hG h) (kkL fun v49 X48 h => ?_) (kxN KrL.no)
  refine aw_widen (cc' := 0) (ss' := 0) (leb rfl) (leb rfl) ?_
  refine aw_lstore 112 (lv' := [(4, _), (0, _), (1, _), (3, _)]) dX4_chainTongue_110 (ltb rfl) rfl rfl ?_
  refine aw_lload 114 dX4_chainTongue_112 0 rfl rfl ?_
  refine aw_aload_n 115 dX4_chainTongue_114 rfl 1 rfl rfl ?_
  obtain ⟨g50, h⟩ := h
  obtain ⟨g51, h⟩ := h
  refine aw_getR 118 dX4_chainTongue_115 fl_RX4_10 rfl g50 g51 rfl ?_
  refine aw_iload_n 119 dX4_chainTongue_118 rfl 3 rfl rfl ?_
  obtain ⟨g54, h⟩ := h
  refine aw_callV (M' := M_X3_meanHundredths) 122 361 3 (hR X48 l0 0) [.int _] [.long _] dX4_chainTongue_119 lk_RX4_361 mv_X3_meanHundredths mp_X3_meanHundredths rfl ⟨leb rfl, leb rfl⟩ rfl (ltb rfl) g54 rfl (leb rfl) (leb rfl) (leb rfl) rfl (am_X3_meanHundredths hG h) (kkD fun v53 X52 h => ?_) (kxN KrD.no)
  refine aw_widen (cc' := 0) (ss' := 0) (leb rfl) (leb rfl) ?_
  refine aw_callS (M' := M_X4_bitsOf) 125 408 [.double _] [.long _] dX4_chainTongue_122 lk_RX4_408 ms_X4_bitsOf mp_X4_bitsOf rfl ⟨leb rfl, leb rfl⟩ rfl (leb rfl) (leb rfl) (leb rfl) rfl (am_X4_bitsOf hG h) (kkL fun v56 X55 h => ?_) (kxN KrL.no)
  refine aw_widen (cc' := 0) (ss' := 0) (leb rfl) (leb rfl) ?_
  refine aw_callS (M' := M_X4_chain) 128 367 [.long _, .long _] [] dX4_chainTongue_125 lk_RX4_367 ms_X4_chain mp_X4_chain rfl ⟨leb rfl, leb rfl⟩ rfl (leb rfl) (leb rfl) (leb rfl) rfl (am_X4_chain hG h) (kkL fun v58 X57 h => ?_) (kxN KrL.no)
  refine aw_widen (cc' := 0) (ss' := 0) (leb rfl) (leb rfl) ?_
  exact aw_lreturn dX4_chainTongue_128 rfl (leb rfl) (leb rfl) ⟨_, rfl, h⟩)
set_option maxRecDepth 20000 in
theorem aw_X4_chainAccounts_94 {G : GG} (hG : G.1.stackTraces = false)  {l0 : Nat} {l3 : Int64} {l5 : Int32} {X : XH} {K : Int64 → XH → Prop}  (h : w_X4_chainAccounts_94  l0 l3 l5 X K) : AW G M_X4_chainAccounts 94 [(0, .ref l0), (3, .long l3), (5, .int l5)] [] X 0 0 (KrL K) :=
  h (fun l0 l3 l5 X => AW G M_X4_chainAccounts 94 [(0, .ref l0), (3, .long l3), (5, .int l5)] [] X 0 0 (KrL K)) (fun l0 l3 l5 X h => by
    refine aw_iload 96 dX4_chainAccounts_94 2 rfl rfl ?_
    refine aw_iconst 97 (v := 2) dX4_chainAccounts_96 kI_2 rfl ?_
    refine aw_icmp_ge 117 100 dX4_chainAccounts_97 rfl rfl (fun c1 => ?_) (fun c1 => ?_)
    · replace h := h.1 c1
      refine aw_lload_n 118 dX4_chainAccounts_117 rfl 1 rfl rfl ?_
      exact aw_lreturn dX4_chainAccounts_118 rfl (leb rfl) (leb rfl) ⟨_, rfl, h⟩
    · replace h := h.2 c1
      refine aw_lload_n 101 dX4_chainAccounts_100 rfl 1 rfl rfl ?_
      refine aw_aload_n 102 dX4_chainAccounts_101 rfl 0 rfl rfl ?_
      refine aw_iload 104 dX4_chainAccounts_102 2 rfl rfl ?_
      obtain ⟨g4, h⟩ := h
      refine aw_callV (M' := M_X4_hasSnapshot) 107 272 4 l0 [.int _] [.long _] dX4_chainAccounts_104 lk_RX4_272 mv_X4_hasSnapshot mp_X4_hasSnapshot rfl ⟨leb rfl, leb rfl⟩ rfl (ltb rfl) g4 rfl (leb rfl) (leb rfl) (leb rfl) rfl (am_X4_hasSnapshot hG h) (kkI fun v3 X2 h => ?_) (kxN KrI.no)
      refine aw_widen (cc' := 0) (ss' := 0) (leb rfl) (leb rfl) ?_
      refine aw_callS (M' := M_X4_chainFlag) 110 397 [.long _, .int _] [] dX4_chainAccounts_107 lk_RX4_397 ms_X4_chainFlag mp_X4_chainFlag rfl ⟨leb rfl, leb rfl⟩ rfl (leb rfl) (leb rfl) (leb rfl) rfl (am_X4_chainFlag hG h) (kkL fun v6 X5 h => ?_) (kxN KrL.no)
      refine aw_widen (cc' := 0) (ss' := 0) (leb rfl) (leb rfl) ?_
      refine aw_lstore_n 111 (lv' := [(3, _), (0, _), (5, _)]) dX4_chainAccounts_110 rfl (ltb rfl) rfl rfl ?_
      refine aw_iinc 114 (v := 1) (lv' := [(5, _), (3, _), (0, _)]) dX4_chainAccounts_111 2 rfl kI_1 (ltb rfl) rfl rfl ?_
      refine aw_goto 94 dX4_chainAccounts_114 rfl ?_
      exact aw_pick [2, 1, 0] rfl h)
set_option maxRecDepth 20000 in
theorem am_X4_chainAccounts {G : GG} (hG : G.1.stackTraces = false) {l0 : Nat} {l1 : Int64} {X : XH} {K : Int64 → XH → Prop} (h : w_X4_chainAccounts l0 l1 X K) : AM G M_X4_chainAccounts X [.ref l0, .long l1] (KrL K) := AM_of (by decide +kernel) rfl (leb rfl) hG (by
  show AW G M_X4_chainAccounts 0 [(0, .ref l0), (1, .long l1)] [] X 0 0 _
  unfold w_X4_chainAccounts at h
  refine aw_lload_n 1 dX4_chainAccounts_0 rfl 1 rfl rfl ?_
  refine aw_aload_n 2 dX4_chainAccounts_1 rfl 0 rfl rfl ?_
  obtain ⟨g1, h⟩ := h
  obtain ⟨g2, h⟩ := h
  refine aw_getR 5 dX4_chainAccounts_2 fl_RX4_10 rfl g1 g2 rfl ?_
  obtain ⟨g3, h⟩ := h
  refine aw_getI 8 dX4_chainAccounts_5 fl_RX4_187 rfl g3 rfl ?_
  refine aw_i2l 9 dX4_chainAccounts_8 rfl ?_
  refine aw_callS (M' := M_X4_chain) 12 367 [.long _, .long _] [] dX4_chainAccounts_9 lk_RX4_367 ms_X4_chain mp_X4_chain rfl ⟨leb rfl, leb rfl⟩ rfl (leb rfl) (leb rfl) (leb rfl) rfl (am_X4_chain hG h) (kkL fun v5 X4 h => ?_) (kxN KrL.no)
  refine aw_widen (cc' := 0) (ss' := 0) (leb rfl) (leb rfl) ?_
  refine aw_lstore_n 13 (lv' := [(3, _), (0, _), (1, _)]) dX4_chainAccounts_12 rfl (ltb rfl) rfl rfl ?_
  refine aw_lload_n 14 dX4_chainAccounts_13 rfl 0 rfl rfl ?_
  refine aw_aload_n 15 dX4_chainAccounts_14 rfl 1 rfl rfl ?_
  obtain ⟨g6, h⟩ := h
  obtain ⟨g7, h⟩ := h
  refine aw_getR 18 dX4_chainAccounts_15 fl_RX4_10 rfl g6 g7 rfl ?_
  obtain ⟨g8, h⟩ := h
  refine aw_getI 21 dX4_chainAccounts_18 fl_RX4_331 rfl g8 rfl ?_
  refine aw_i2l 22 dX4_chainAccounts_21 rfl ?_
  refine aw_callS (M' := M_X4_chain) 25 367 [.long _, .long _] [] dX4_chainAccounts_22 lk_RX4_367 ms_X4_chain mp_X4_chain rfl ⟨leb rfl, leb rfl⟩ rfl (leb rfl) (leb rfl) (leb rfl) rfl (am_X4_chain hG h) (kkL fun v10 X9 h => ?_) (kxN KrL.no)
  refine aw_widen (cc' := 0) (ss' := 0) (leb rfl) (leb rfl) ?_
  refine aw_lstore_n 26 (lv' := [(3, _), (0, _), (1, _)]) dX4_chainAccounts_25 rfl (ltb rfl) rfl rfl ?_
  refine aw_lload_n 27 dX4_chainAccounts_26 rfl 0 rfl rfl ?_
  refine aw_aload_n 28 dX4_chainAccounts_27 rfl 1 rfl rfl ?_
  obtain ⟨g11, h⟩ := h
  obtain ⟨g12, h⟩ := h
  refine aw_getR 31 dX4_chainAccounts_28 fl_RX4_10 rfl g11 g12 rfl ?_
  obtain ⟨g13, h⟩ := h
  refine aw_getI 34 dX4_chainAccounts_31 fl_RX4_334 rfl g13 rfl ?_
  refine aw_i2l 35 dX4_chainAccounts_34 rfl ?_
  refine aw_callS (M' := M_X4_chain) 38 367 [.long _, .long _] [] dX4_chainAccounts_35 lk_RX4_367 ms_X4_chain mp_X4_chain rfl ⟨leb rfl, leb rfl⟩ rfl (leb rfl) (leb rfl) (leb rfl) rfl (am_X4_chain hG h) (kkL fun v15 X14 h => ?_) (kxN KrL.no)
  refine aw_widen (cc' := 0) (ss' := 0) (leb rfl) (leb rfl) ?_
  refine aw_lstore_n 39 (lv' := [(3, _), (0, _), (1, _)]) dX4_chainAccounts_38 rfl (ltb rfl) rfl rfl ?_
  refine aw_lload_n 40 dX4_chainAccounts_39 rfl 0 rfl rfl ?_
  refine aw_aload_n 41 dX4_chainAccounts_40 rfl 1 rfl rfl ?_
  obtain ⟨g16, h⟩ := h
  obtain ⟨g17, h⟩ := h
  refine aw_getR 44 dX4_chainAccounts_41 fl_RX4_10 rfl g16 g17 rfl ?_
  obtain ⟨g18, h⟩ := h
  refine aw_getI 47 dX4_chainAccounts_44 fl_RX4_337 rfl g18 rfl ?_
  refine aw_i2l 48 dX4_chainAccounts_47 rfl ?_
  refine aw_callS (M' := M_X4_chain) 51 367 [.long _, .long _] [] dX4_chainAccounts_48 lk_RX4_367 ms_X4_chain mp_X4_chain rfl ⟨leb rfl, leb rfl⟩ rfl (leb rfl) (leb rfl) (leb rfl) rfl (am_X4_chain hG h) (kkL fun v20 X19 h => ?_) (kxN KrL.no)
  refine aw_widen (cc' := 0) (ss' := 0) (leb rfl) (leb rfl) ?_
  refine aw_lstore_n 52 (lv' := [(3, _), (0, _), (1, _)]) dX4_chainAccounts_51 rfl (ltb rfl) rfl rfl ?_
  refine aw_lload_n 53 dX4_chainAccounts_52 rfl 0 rfl rfl ?_
  refine aw_aload_n 54 dX4_chainAccounts_53 rfl 1 rfl rfl ?_
  obtain ⟨g21, h⟩ := h
  obtain ⟨g22, h⟩ := h
  refine aw_getR 57 dX4_chainAccounts_54 fl_RX4_10 rfl g21 g22 rfl ?_
  obtain ⟨g25, h⟩ := h
  refine aw_callV (M' := M_X3_mostTakenTongue) 60 355 3 (hR X19 l0 0) [] [.long _] dX4_chainAccounts_57 lk_RX4_355 mv_X3_mostTakenTongue mp_X3_mostTakenTongue rfl ⟨leb rfl, leb rfl⟩ rfl (ltb rfl) g25 rfl (leb rfl) (leb rfl) (leb rfl) rfl (am_X3_mostTakenTongue hG h) (kkI fun v24 X23 h => ?_) (kxN KrI.no)
  refine aw_widen (cc' := 0) (ss' := 0) (leb rfl) (leb rfl) ?_
  refine aw_i2l 61 dX4_chainAccounts_60 rfl ?_
  refine aw_callS (M' := M_X4_chain) 64 367 [.long _, .long _] [] dX4_chainAccounts_61 lk_RX4_367 ms_X4_chain mp_X4_chain rfl ⟨leb rfl, leb rfl⟩ rfl (leb rfl) (leb rfl) (leb rfl) rfl (am_X4_chain hG h) (kkL fun v27 X26 h => ?_) (kxN KrL.no)
  refine aw_widen (cc' := 0) (ss' := 0) (leb rfl) (leb rfl) ?_
  refine aw_lstore_n 65 (lv' := [(3, _), (0, _), (1, _)]) dX4_chainAccounts_64 rfl (ltb rfl) rfl rfl ?_
  refine aw_lload_n 66 dX4_chainAccounts_65 rfl 0 rfl rfl ?_
  refine aw_aload_n 67 dX4_chainAccounts_66 rfl 1 rfl rfl ?_
  obtain ⟨g28, h⟩ := h
  obtain ⟨g29, h⟩ := h
  refine aw_getR 70 dX4_chainAccounts_67 fl_RX4_10 rfl g28 g29 rfl ?_
  obtain ⟨g32, h⟩ := h
  refine aw_callV (M' := M_X3_mostLipsState) 73 358 3 (hR X26 l0 0) [] [.long _] dX4_chainAccounts_70 lk_RX4_358 mv_X3_mostLipsState mp_X3_mostLipsState rfl ⟨leb rfl, leb rfl⟩ rfl (ltb rfl) g32 rfl (leb rfl) (leb rfl) (leb rfl) rfl (am_X3_mostLipsState hG h) (kkI fun v31 X30 h => ?_) (kxN KrI.no)
  refine aw_widen (cc' := 0) (ss' := 0) (leb rfl) (leb rfl) ?_
  refine aw_i2l 74 dX4_chainAccounts_73 rfl ?_
  refine aw_callS (M' := M_X4_chain) 77 367 [.long _, .long _] [] dX4_chainAccounts_74 lk_RX4_367 ms_X4_chain mp_X4_chain rfl ⟨leb rfl, leb rfl⟩ rfl (leb rfl) (leb rfl) (leb rfl) rfl (am_X4_chain hG h) (kkL fun v34 X33 h => ?_) (kxN KrL.no)
  refine aw_widen (cc' := 0) (ss' := 0) (leb rfl) (leb rfl) ?_
  refine aw_lstore_n 78 (lv' := [(3, _), (0, _), (1, _)]) dX4_chainAccounts_77 rfl (ltb rfl) rfl rfl ?_
  refine aw_lload_n 79 dX4_chainAccounts_78 rfl 0 rfl rfl ?_
  refine aw_aload_n 80 dX4_chainAccounts_79 rfl 1 rfl rfl ?_
  obtain ⟨g35, h⟩ := h
  obtain ⟨g36, h⟩ := h
  refine aw_getR 83 dX4_chainAccounts_80 fl_RX4_19 rfl g35 g36 rfl ?_
  obtain ⟨g37, h⟩ := h
  refine aw_getI 86 dX4_chainAccounts_83 fl_RX4_277 rfl g37 rfl ?_
  refine aw_i2l 87 dX4_chainAccounts_86 rfl ?_
  refine aw_callS (M' := M_X4_chain) 90 367 [.long _, .long _] [] dX4_chainAccounts_87 lk_RX4_367 ms_X4_chain mp_X4_chain rfl ⟨leb rfl, leb rfl⟩ rfl (leb rfl) (leb rfl) (leb rfl) rfl (am_X4_chain hG h) (kkL fun v39 X38 h => ?_) (kxN KrL.no)
  refine aw_widen (cc' := 0) (ss' := 0) (leb rfl) (leb rfl) ?_
  refine aw_lstore_n 91 (lv' := [(3, _), (0, _), (1, _)]) dX4_chainAccounts_90 rfl (ltb rfl) rfl rfl ?_
  refine aw_iconst 92 (v := 0) dX4_chainAccounts_91 kI_0 rfl ?_
  refine aw_istore 94 (lv' := [(5, _), (3, _), (0, _), (1, _)]) dX4_chainAccounts_92 (ltb rfl) rfl rfl ?_
  exact aw_pick [2, 1, 0] rfl (aw_X4_chainAccounts_94 hG  h))
set_option maxRecDepth 20000 in
theorem aw_X4_chainBuffer_16 {G : GG} (hG : G.1.stackTraces = false)  {l0 : Nat} {l3 : Int64} {l5 : Int32} {X : XH} {K : Int64 → XH → Prop}  (h : w_X4_chainBuffer_16  l0 l3 l5 X K) : AW G M_X4_chainBuffer 16 [(0, .ref l0), (3, .long l3), (5, .int l5)] [] X 0 0 (KrL K) :=
  h (fun l0 l3 l5 X => AW G M_X4_chainBuffer 16 [(0, .ref l0), (3, .long l3), (5, .int l5)] [] X 0 0 (KrL K)) (fun l0 l3 l5 X h => by
    refine aw_iload 18 dX4_chainBuffer_16 2 rfl rfl ?_
    refine aw_aload_n 19 dX4_chainBuffer_18 rfl 0 rfl rfl ?_
    obtain ⟨g1, h⟩ := h
    obtain ⟨g2, h⟩ := h
    refine aw_getR 22 dX4_chainBuffer_19 fl_RX4_34 rfl g1 g2 rfl ?_
    obtain ⟨g3, h⟩ := h
    refine aw_getI 25 dX4_chainBuffer_22 fl_RX4_226 rfl g3 rfl ?_
    refine aw_icmp_ge 52 28 dX4_chainBuffer_25 rfl rfl (fun c4 => ?_) (fun c4 => ?_)
    · replace h := h.1 c4
      refine aw_lload_n 53 dX4_chainBuffer_52 rfl 1 rfl rfl ?_
      exact aw_lreturn dX4_chainBuffer_53 rfl (leb rfl) (leb rfl) ⟨_, rfl, h⟩
    · replace h := h.2 c4
      refine aw_lload_n 29 dX4_chainBuffer_28 rfl 1 rfl rfl ?_
      refine aw_aload_n 30 dX4_chainBuffer_29 rfl 0 rfl rfl ?_
      refine aw_getR 33 dX4_chainBuffer_30 fl_RX4_34 rfl g1 g2 rfl ?_
      obtain ⟨g5, h⟩ := h
      refine aw_getR 36 dX4_chainBuffer_33 fl_RX4_412 rfl g3 g5 rfl ?_
      refine aw_iload 38 dX4_chainBuffer_36 2 rfl rfl ?_
      refine aw_callS (M' := M_X4_at) 41 256 [.ref _, .int _] [.long _] dX4_chainBuffer_38 lk_RX4_256 ms_X4_at mp_X4_at rfl ⟨leb rfl, leb rfl⟩ rfl (leb rfl) (leb rfl) (leb rfl) rfl (am_X4_at hG h) (kkI fun v7 X6 h => ?_) (kxN KrI.no)
      refine aw_widen (cc' := 0) (ss' := 0) (leb rfl) (leb rfl) ?_
      refine aw_i2l 42 dX4_chainBuffer_41 rfl ?_
      refine aw_callS (M' := M_X4_chain) 45 367 [.long _, .long _] [] dX4_chainBuffer_42 lk_RX4_367 ms_X4_chain mp_X4_chain rfl ⟨leb rfl, leb rfl⟩ rfl (leb rfl) (leb rfl) (leb rfl) rfl (am_X4_chain hG h) (kkL fun v9 X8 h => ?_) (kxN KrL.no)
      refine aw_widen (cc' := 0) (ss' := 0) (leb rfl) (leb rfl) ?_
      refine aw_lstore_n 46 (lv' := [(3, _), (0, _), (5, _)]) dX4_chainBuffer_45 rfl (ltb rfl) rfl rfl ?_
      refine aw_iinc 49 (v := 1) (lv' := [(5, _), (3, _), (0, _)]) dX4_chainBuffer_46 2 rfl kI_1 (ltb rfl) rfl rfl ?_
      refine aw_goto 16 dX4_chainBuffer_49 rfl ?_
      exact aw_pick [2, 1, 0] rfl h)
set_option maxRecDepth 20000 in
theorem am_X4_chainBuffer {G : GG} (hG : G.1.stackTraces = false) {l0 : Nat} {l1 : Int64} {X : XH} {K : Int64 → XH → Prop} (h : w_X4_chainBuffer l0 l1 X K) : AM G M_X4_chainBuffer X [.ref l0, .long l1] (KrL K) := AM_of (by decide +kernel) rfl (leb rfl) hG (by
  show AW G M_X4_chainBuffer 0 [(0, .ref l0), (1, .long l1)] [] X 0 0 _
  unfold w_X4_chainBuffer at h
  refine aw_lload_n 1 dX4_chainBuffer_0 rfl 1 rfl rfl ?_
  refine aw_aload_n 2 dX4_chainBuffer_1 rfl 0 rfl rfl ?_
  obtain ⟨g1, h⟩ := h
  obtain ⟨g2, h⟩ := h
  refine aw_getR 5 dX4_chainBuffer_2 fl_RX4_34 rfl g1 g2 rfl ?_
  obtain ⟨g3, h⟩ := h
  refine aw_getI 8 dX4_chainBuffer_5 fl_RX4_226 rfl g3 rfl ?_
  refine aw_i2l 9 dX4_chainBuffer_8 rfl ?_
  refine aw_callS (M' := M_X4_chain) 12 367 [.long _, .long _] [] dX4_chainBuffer_9 lk_RX4_367 ms_X4_chain mp_X4_chain rfl ⟨leb rfl, leb rfl⟩ rfl (leb rfl) (leb rfl) (leb rfl) rfl (am_X4_chain hG h) (kkL fun v5 X4 h => ?_) (kxN KrL.no)
  refine aw_widen (cc' := 0) (ss' := 0) (leb rfl) (leb rfl) ?_
  refine aw_lstore_n 13 (lv' := [(3, _), (0, _), (1, _)]) dX4_chainBuffer_12 rfl (ltb rfl) rfl rfl ?_
  refine aw_iconst 14 (v := 0) dX4_chainBuffer_13 kI_0 rfl ?_
  refine aw_istore 16 (lv' := [(5, _), (3, _), (0, _), (1, _)]) dX4_chainBuffer_14 (ltb rfl) rfl rfl ?_
  exact aw_pick [2, 1, 0] rfl (aw_X4_chainBuffer_16 hG  h))
end XWK10
