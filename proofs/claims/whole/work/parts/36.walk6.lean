/-! the walks of methods, as predicates -/
section XWK6
set_option maxRecDepth 20000 in
theorem am_X5_part {G : GG} (hG : G.1.stackTraces = false) {l0 : Nat} {X : XH} {K : XH → Prop} (h : w_X5_part l0 X K) : AM G M_X5_part X [.ref l0] (KrV K) := AM_of (by decide +kernel) rfl (leb rfl) hG (by
  show AW G M_X5_part 0 [(0, .ref l0)] [] X 0 0 _
  unfold w_X5_part at h
  refine aw_aload_n 1 dX5_part_0 rfl 0 rfl rfl ?_
  refine aw_aload_n 2 dX5_part_1 rfl 0 rfl rfl ?_
  refine aw_bipush 4 (v := 48) dX5_part_2 kB_48 rfl ?_
  refine aw_bipush 6 (v := 51) dX5_part_4 kB_51 rfl ?_
  obtain ⟨g3, h⟩ := h
  refine aw_callV (M' := M_X5_within) 9 139 5 l0 [.int _, .int _] [.ref _] dX5_part_6 lk_RX5_139 mv_X5_within mp_X5_within rfl ⟨leb rfl, leb rfl⟩ rfl (ltb rfl) g3 rfl (leb rfl) (leb rfl) (leb rfl) rfl (am_X5_within hG h) (kkI fun v2 X1 h => ?_) (kxN KrI.no)
  refine aw_widen (cc' := 0) (ss' := 0) (leb rfl) (leb rfl) ?_
  obtain ⟨g4, h⟩ := h
  refine aw_putI 12 dX5_part_9 fl_RX5_142 rfl rfl rfl rfl g4 rfl ?_
  refine aw_aload_n 13 dX5_part_12 rfl 0 rfl rfl ?_
  refine aw_aload_n 14 dX5_part_13 rfl 0 rfl rfl ?_
  refine aw_bipush 16 (v := 65) dX5_part_14 kB_65 rfl ?_
  refine aw_bipush 18 (v := 69) dX5_part_16 kB_69 rfl ?_
  refine aw_callV (M' := M_X5_within) 21 139 5 l0 [.int _, .int _] [.ref _] dX5_part_18 lk_RX5_139 mv_X5_within mp_X5_within rfl ⟨leb rfl, leb rfl⟩ rfl (ltb rfl) g4 rfl (leb rfl) (leb rfl) (leb rfl) rfl (am_X5_within hG h) (kkI fun v6 X5 h => ?_) (kxN KrI.no)
  refine aw_widen (cc' := 0) (ss' := 0) (leb rfl) (leb rfl) ?_
  obtain ⟨g7, h⟩ := h
  refine aw_putI 24 dX5_part_21 fl_RX5_145 rfl rfl rfl rfl g7 rfl ?_
  refine aw_aload_n 25 dX5_part_24 rfl 0 rfl rfl ?_
  refine aw_aload_n 26 dX5_part_25 rfl 0 rfl rfl ?_
  refine aw_iconst 27 (v := 4) dX5_part_26 kI_4 rfl ?_
  refine aw_bipush 29 (v := 60) dX5_part_27 kB_60 rfl ?_
  refine aw_callV (M' := M_X5_number) 32 148 5 l0 [.int _, .int _] [.ref _] dX5_part_29 lk_RX5_148 mv_X5_number mp_X5_number rfl ⟨leb rfl, leb rfl⟩ rfl (ltb rfl) g7 rfl (leb rfl) (leb rfl) (leb rfl) rfl (am_X5_number hG h) (kkI fun v9 X8 h => ?_) (kxN KrI.no)
  refine aw_widen (cc' := 0) (ss' := 0) (leb rfl) (leb rfl) ?_
  obtain ⟨g10, h⟩ := h
  refine aw_putI 35 dX5_part_32 fl_RX5_151 rfl rfl rfl rfl g10 rfl ?_
  refine aw_aload_n 36 dX5_part_35 rfl 0 rfl rfl ?_
  refine aw_iconst 37 (v := 0) dX5_part_36 kI_0 rfl ?_
  refine aw_putI 40 dX5_part_37 fl_RX5_154 rfl rfl rfl rfl g10 rfl ?_
  refine aw_aload_n 41 dX5_part_40 rfl 0 rfl rfl ?_
  refine aw_getI 44 dX5_part_41 fl_RX5_135 rfl g10 rfl ?_
  refine aw_if_ne 77 47 dX5_part_44 rfl rfl (fun c11 => ?_) (fun c11 => ?_)
  · replace h := h.1 c11
    exact aw_return dX5_part_77 rfl (leb rfl) (leb rfl) ⟨rfl, h⟩
  · replace h := h.2 c11
    refine aw_aload_n 48 dX5_part_47 rfl 0 rfl rfl ?_
    refine aw_callV (M' := M_X5_next) 51 131 5 l0 [] [] dX5_part_48 lk_RX5_131 mv_X5_next mp_X5_next rfl ⟨leb rfl, leb rfl⟩ rfl (ltb rfl) g10 rfl (leb rfl) (leb rfl) (leb rfl) rfl (am_X5_next hG h) (kkI fun v13 X12 h => ?_) (kxN KrI.no)
    refine aw_widen (cc' := 0) (ss' := 0) (leb rfl) (leb rfl) ?_
    refine aw_bipush 53 (v := 126) dX5_part_51 kB_126 rfl ?_
    refine aw_icmp_ne 77 56 dX5_part_53 rfl rfl (fun c14 => ?_) (fun c14 => ?_)
    · replace h := h.1 c14
      exact aw_return dX5_part_77 rfl (leb rfl) (leb rfl) ⟨rfl, h⟩
    · replace h := h.2 c14
      refine aw_aload_n 57 dX5_part_56 rfl 0 rfl rfl ?_
      refine aw_dup 58 dX5_part_57 rfl rfl ?_
      obtain ⟨g15, h⟩ := h
      refine aw_getI 61 dX5_part_58 fl_RX5_128 rfl g15 rfl ?_
      refine aw_iconst 62 (v := 1) dX5_part_61 kI_1 rfl ?_
      refine aw_iadd 63 dX5_part_62 rfl ?_
      refine aw_putI 66 dX5_part_63 fl_RX5_128 rfl rfl rfl rfl g15 rfl ?_
      refine aw_aload_n 67 dX5_part_66 rfl 0 rfl rfl ?_
      refine aw_aload_n 68 dX5_part_67 rfl 0 rfl rfl ?_
      refine aw_iconst 69 (v := 1) dX5_part_68 kI_1 rfl ?_
      refine aw_bipush 71 (v := 20) dX5_part_69 kB_20 rfl ?_
      refine aw_callV (M' := M_X5_number) 74 148 5 l0 [.int _, .int _] [.ref _] dX5_part_71 lk_RX5_148 mv_X5_number mp_X5_number rfl ⟨leb rfl, leb rfl⟩ rfl (ltb rfl) g15 rfl (leb rfl) (leb rfl) (leb rfl) rfl (am_X5_number hG h) (kkI fun v17 X16 h => ?_) (kxN KrI.no)
      refine aw_widen (cc' := 0) (ss' := 0) (leb rfl) (leb rfl) ?_
      obtain ⟨g18, h⟩ := h
      refine aw_putI 77 dX5_part_74 fl_RX5_154 rfl rfl rfl rfl g18 rfl ?_
      exact aw_return dX5_part_77 rfl (leb rfl) (leb rfl) ⟨rfl, h⟩)
set_option maxRecDepth 20000 in
theorem aw_X5_isWhole_43 {G : GG} (hG : G.1.stackTraces = false) {P12 : Nat → Int32 → XH → Prop} {l0 : Nat} {s0 : Int32} {X : XH} {K : Int32 → XH → Prop} (hO12 : ∀ (l0 : Nat) (l1 : Int32) (X : XH), P12 l0 l1 X → AW G M_X5_isWhole 12 [(0, .ref l0), (1, .int l1)] [] X 0 0 (KrI K)) (h : w_X5_isWhole_43 P12 l0 s0 X K) : AW G M_X5_isWhole 43 [(0, .ref l0)] [.int s0] X 0 0 (KrI K) := by
  unfold w_X5_isWhole_43 at h
  refine aw_istore_n 44 (lv' := [(1, _), (0, _)]) dX5_isWhole_43 rfl (ltb rfl) rfl rfl ?_
  refine aw_iload_n 45 dX5_isWhole_44 rfl 0 rfl rfl ?_
  refine aw_if_eq 12 48 dX5_isWhole_45 rfl rfl (fun c1 => ?_) (fun c1 => ?_)
  · replace h := h.1 c1
    exact aw_pick [1, 0] rfl (hO12 _ _ _ h)
  · replace h := h.2 c1
    refine aw_aload_n 49 dX5_isWhole_48 rfl 1 rfl rfl ?_
    refine aw_bipush 51 (v := 59) dX5_isWhole_49 kB_59 rfl ?_
    refine aw_bipush 53 (v := 59) dX5_isWhole_51 kB_59 rfl ?_
    obtain ⟨g4, h⟩ := h
    refine aw_callV (M' := M_X5_within) 56 139 5 l0 [.int _, .int _] [] dX5_isWhole_53 lk_RX5_139 mv_X5_within mp_X5_within rfl ⟨leb rfl, leb rfl⟩ rfl (ltb rfl) g4 rfl (leb rfl) (leb rfl) (leb rfl) rfl (am_X5_within hG h) (kkI fun v3 X2 h => ?_) (kxN KrI.no)
    refine aw_widen (cc' := 0) (ss' := 0) (leb rfl) (leb rfl) ?_
    refine aw_istore_n 57 (lv' := [(2, _), (1, _), (0, _)]) dX5_isWhole_56 rfl (ltb rfl) rfl rfl ?_
    refine aw_aload_n 58 dX5_isWhole_57 rfl 2 rfl rfl ?_
    obtain ⟨g5, h⟩ := h
    refine aw_getI 61 dX5_isWhole_58 fl_RX5_135 rfl g5 rfl ?_
    refine aw_if_ne 68 64 dX5_isWhole_61 rfl rfl (fun c6 => ?_) (fun c6 => ?_)
    · replace h := h.1 c6
      refine aw_iconst 69 (v := 0) dX5_isWhole_68 kI_0 rfl ?_
      refine aw_istore_n 70 (lv' := [(1, _), (2, _), (0, _)]) dX5_isWhole_69 rfl (ltb rfl) rfl rfl ?_
      refine aw_goto 12 dX5_isWhole_70 rfl ?_
      exact aw_pick [2, 0] rfl (hO12 _ _ _ h)
    · replace h := h.2 c6
      refine aw_iconst 65 (v := 1) dX5_isWhole_64 kI_1 rfl ?_
      refine aw_goto 69 dX5_isWhole_65 rfl ?_
      refine aw_istore_n 70 (lv' := [(1, _), (2, _), (0, _)]) dX5_isWhole_69 rfl (ltb rfl) rfl rfl ?_
      refine aw_goto 12 dX5_isWhole_70 rfl ?_
      exact aw_pick [2, 0] rfl (hO12 _ _ _ h)
set_option maxRecDepth 20000 in
theorem aw_X5_isWhole_12 {G : GG} (hG : G.1.stackTraces = false)  {l0 : Nat} {l1 : Int32} {X : XH} {K : Int32 → XH → Prop}  (h : w_X5_isWhole_12  l0 l1 X K) : AW G M_X5_isWhole 12 [(0, .ref l0), (1, .int l1)] [] X 0 0 (KrI K) :=
  h (fun l0 l1 X => AW G M_X5_isWhole 12 [(0, .ref l0), (1, .int l1)] [] X 0 0 (KrI K)) (fun l0 l1 X h => by
    refine aw_iload_n 13 dX5_isWhole_12 rfl 1 rfl rfl ?_
    refine aw_if_eq 73 16 dX5_isWhole_13 rfl rfl (fun c1 => ?_) (fun c1 => ?_)
    · replace h := h.1 c1
      refine aw_aload_n 74 dX5_isWhole_73 rfl 0 rfl rfl ?_
      obtain ⟨g2, h⟩ := h
      refine aw_getI 77 dX5_isWhole_74 fl_RX5_135 rfl g2 rfl ?_
      refine aw_if_ne 84 80 dX5_isWhole_77 rfl rfl (fun c3 => ?_) (fun c3 => ?_)
      · replace h := h.1 c3
        refine aw_iconst 85 (v := 0) dX5_isWhole_84 kI_0 rfl ?_
        exact aw_ireturn (ty := .boolean) dX5_isWhole_85 rfl rfl (leb rfl) (leb rfl) ⟨_, rfl, h⟩
      · replace h := h.2 c3
        refine aw_iconst 81 (v := 1) dX5_isWhole_80 kI_1 rfl ?_
        refine aw_goto 85 dX5_isWhole_81 rfl ?_
        exact aw_ireturn (ty := .boolean) dX5_isWhole_85 rfl rfl (leb rfl) (leb rfl) ⟨_, rfl, h⟩
    · replace h := h.2 c1
      refine aw_aload_n 17 dX5_isWhole_16 rfl 0 rfl rfl ?_
      obtain ⟨g5, h⟩ := h
      refine aw_callV (M' := M_X5_part) 20 157 5 l0 [] [] dX5_isWhole_17 lk_RX5_157 mv_X5_part mp_X5_part rfl ⟨leb rfl, leb rfl⟩ rfl (ltb rfl) g5 rfl (leb rfl) (leb rfl) (leb rfl) rfl (am_X5_part hG h) (kkV fun X4 h => ?_) (kxN KrV.no)
      refine aw_widen (cc' := 0) (ss' := 0) (leb rfl) (leb rfl) ?_
      refine aw_aload_n 21 dX5_isWhole_20 rfl 0 rfl rfl ?_
      obtain ⟨g6, h⟩ := h
      refine aw_getI 24 dX5_isWhole_21 fl_RX5_135 rfl g6 rfl ?_
      refine aw_if_ne 42 27 dX5_isWhole_24 rfl rfl (fun c7 => ?_) (fun c7 => ?_)
      · replace h := h.1 c7
        refine aw_iconst 43 (v := 0) dX5_isWhole_42 kI_0 rfl ?_
        exact aw_pick [0] rfl (aw_X5_isWhole_43 hG (fun _ _ _ h => h) h)
      · replace h := h.2 c7
        refine aw_aload_n 28 dX5_isWhole_27 rfl 0 rfl rfl ?_
        refine aw_getI 31 dX5_isWhole_28 fl_RX5_128 rfl g6 rfl ?_
        refine aw_aload_n 32 dX5_isWhole_31 rfl 0 rfl rfl ?_
        refine aw_getI 35 dX5_isWhole_32 fl_RX5_125 rfl g6 rfl ?_
        refine aw_icmp_ge 42 38 dX5_isWhole_35 rfl rfl (fun c8 => ?_) (fun c8 => ?_)
        · replace h := h.1 c8
          refine aw_iconst 43 (v := 0) dX5_isWhole_42 kI_0 rfl ?_
          exact aw_pick [0] rfl (aw_X5_isWhole_43 hG (fun _ _ _ h => h) h)
        · replace h := h.2 c8
          refine aw_iconst 39 (v := 1) dX5_isWhole_38 kI_1 rfl ?_
          refine aw_goto 43 dX5_isWhole_39 rfl ?_
          exact aw_pick [0] rfl (aw_X5_isWhole_43 hG (fun _ _ _ h => h) h))
set_option maxRecDepth 20000 in
theorem am_X5_isWhole {G : GG} (hG : G.1.stackTraces = false) {l0 : Nat} {X : XH} {K : Int32 → XH → Prop} (h : w_X5_isWhole l0 X K) : AM G M_X5_isWhole X [.ref l0] (KrI K) := AM_of (by decide +kernel) rfl (leb rfl) hG (by
  show AW G M_X5_isWhole 0 [(0, .ref l0)] [] X 0 0 _
  unfold w_X5_isWhole at h
  refine aw_aload_n 1 dX5_isWhole_0 rfl 0 rfl rfl ?_
  refine aw_iconst 2 (v := 0) dX5_isWhole_1 kI_0 rfl ?_
  obtain ⟨g1, h⟩ := h
  refine aw_putI 5 dX5_isWhole_2 fl_RX5_128 rfl rfl rfl rfl g1 rfl ?_
  refine aw_aload_n 6 dX5_isWhole_5 rfl 0 rfl rfl ?_
  refine aw_iconst 7 (v := 0) dX5_isWhole_6 kI_0 rfl ?_
  refine aw_putI 10 dX5_isWhole_7 fl_RX5_135 rfl rfl rfl rfl g1 rfl ?_
  refine aw_iconst 11 (v := 1) dX5_isWhole_10 kI_1 rfl ?_
  refine aw_istore_n 12 (lv' := [(1, _), (0, _)]) dX5_isWhole_11 rfl (ltb rfl) rfl rfl ?_
  exact aw_pick [1, 0] rfl (aw_X5_isWhole_12 hG  h))
set_option maxRecDepth 20000 in
theorem am_X5_firstError {G : GG} (hG : G.1.stackTraces = false) {l0 : Nat} {X : XH} {K : Int32 → XH → Prop} (h : w_X5_firstError l0 X K) : AM G M_X5_firstError X [.ref l0] (KrI K) := AM_of (by decide +kernel) rfl (leb rfl) hG (by
  show AW G M_X5_firstError 0 [(0, .ref l0)] [] X 0 0 _
  unfold w_X5_firstError at h
  refine aw_aload_n 1 dX5_firstError_0 rfl 0 rfl rfl ?_
  refine aw_iconst 2 (v := 0) dX5_firstError_1 kI_0 rfl ?_
  obtain ⟨g1, h⟩ := h
  refine aw_putI 5 dX5_firstError_2 fl_RX5_26 rfl rfl rfl rfl g1 rfl ?_
  refine aw_aload_n 6 dX5_firstError_5 rfl 0 rfl rfl ?_
  refine aw_callV (M' := M_X5_isWhole) 9 160 5 l0 [] [] dX5_firstError_6 lk_RX5_160 mv_X5_isWhole mp_X5_isWhole rfl ⟨leb rfl, leb rfl⟩ rfl (ltb rfl) g1 rfl (leb rfl) (leb rfl) (leb rfl) rfl (am_X5_isWhole hG h) (kkI fun v3 X2 h => ?_) (kxN KrI.no)
  refine aw_widen (cc' := 0) (ss' := 0) (leb rfl) (leb rfl) ?_
  refine aw_if_eq 19 12 dX5_firstError_9 rfl rfl (fun c4 => ?_) (fun c4 => ?_)
  · replace h := h.1 c4
    refine aw_aload_n 20 dX5_firstError_19 rfl 0 rfl rfl ?_
    obtain ⟨g5, h⟩ := h
    refine aw_getI 23 dX5_firstError_20 fl_RX5_128 rfl g5 rfl ?_
    exact aw_ireturn (ty := .int) dX5_firstError_23 rfl rfl (leb rfl) (leb rfl) ⟨_, rfl, h⟩
  · replace h := h.2 c4
    refine aw_aload_n 13 dX5_firstError_12 rfl 0 rfl rfl ?_
    obtain ⟨g6, h⟩ := h
    refine aw_getI 16 dX5_firstError_13 fl_RX5_125 rfl g6 rfl ?_
    refine aw_goto 23 dX5_firstError_16 rfl ?_
    exact aw_ireturn (ty := .int) dX5_firstError_23 rfl rfl (leb rfl) (leb rfl) ⟨_, rfl, h⟩)
set_option maxRecDepth 20000 in
theorem aw_X0_readWhole_36 {G : GG} (hG : G.1.stackTraces = false)  {l0 : Nat} {X : XH} {K : Int32 → XH → Prop}  (h : w_X0_readWhole_36  l0 X K) : AW G M_X0_readWhole 36 [(0, .ref l0)] [] X 0 0 (KrI K) := by
  unfold w_X0_readWhole_36 at h
  refine aw_aload_n 37 dX0_readWhole_36 rfl 0 rfl rfl ?_
  obtain ⟨g1, h⟩ := h
  refine aw_getI 40 dX0_readWhole_37 fl_RX0_38 rfl g1 rfl ?_
  refine aw_iconst 41 (v := 3) dX0_readWhole_40 kI_3 rfl ?_
  refine aw_icmp_ne 63 44 dX0_readWhole_41 rfl rfl (fun c2 => ?_) (fun c2 => ?_)
  · replace h := h.1 c2
    refine aw_iconst 64 (v := 0) dX0_readWhole_63 kI_0 rfl ?_
    exact aw_ireturn (ty := .boolean) dX0_readWhole_64 rfl rfl (leb rfl) (leb rfl) ⟨_, rfl, h⟩
  · replace h := h.2 c2
    refine aw_aload_n 45 dX0_readWhole_44 rfl 0 rfl rfl ?_
    obtain ⟨g3, h⟩ := h
    refine aw_getR 48 dX0_readWhole_45 fl_RX0_24 rfl g1 g3 rfl ?_
    refine aw_aload_n 49 dX0_readWhole_48 rfl 0 rfl rfl ?_
    refine aw_getI 52 dX0_readWhole_49 fl_RX0_35 rfl g1 rfl ?_
    refine aw_callSN (M' := M_X4_at) 55 41 [.ref _, .int _] [] dX0_readWhole_52 (by decide) ms_X4_at mp_X4_at rfl ⟨leb rfl, leb rfl⟩ rfl (leb rfl) (leb rfl) (leb rfl) rfl (am_X4_at hG h) (kkI fun v5 X4 h => ?_) KrI.no
    refine aw_widen (cc' := 0) (ss' := 0) (leb rfl) (leb rfl) ?_
    refine aw_iconst 56 (v := 1) dX0_readWhole_55 kI_1 rfl ?_
    refine aw_icmp_lt 63 59 dX0_readWhole_56 rfl rfl (fun c6 => ?_) (fun c6 => ?_)
    · replace h := h.1 c6
      refine aw_iconst 64 (v := 0) dX0_readWhole_63 kI_0 rfl ?_
      exact aw_ireturn (ty := .boolean) dX0_readWhole_64 rfl rfl (leb rfl) (leb rfl) ⟨_, rfl, h⟩
    · replace h := h.2 c6
      refine aw_iconst 60 (v := 1) dX0_readWhole_59 kI_1 rfl ?_
      refine aw_goto 64 dX0_readWhole_60 rfl ?_
      exact aw_ireturn (ty := .boolean) dX0_readWhole_64 rfl rfl (leb rfl) (leb rfl) ⟨_, rfl, h⟩
set_option maxRecDepth 20000 in
theorem am_X0_readWhole {G : GG} (hG : G.1.stackTraces = false) {l0 : Nat} {X : XH} {K : Int32 → XH → Prop} (h : w_X0_readWhole l0 X K) : AM G M_X0_readWhole X [.ref l0] (KrI K) := AM_of (by decide +kernel) rfl (leb rfl) hG (by
  show AW G M_X0_readWhole 0 [(0, .ref l0)] [] X 0 0 _
  unfold w_X0_readWhole at h
  refine aw_aload_n 1 dX0_readWhole_0 rfl 0 rfl rfl ?_
  obtain ⟨g3, h⟩ := h
  refine aw_callV (M' := M_X0_readToError) 4 49 0 l0 [] [] dX0_readWhole_1 lk_RX0_49 mv_X0_readToError mp_X0_readToError rfl ⟨leb rfl, leb rfl⟩ rfl (ltb rfl) g3 rfl (leb rfl) (leb rfl) (leb rfl) rfl (am_X0_readToError hG h) (kkI fun v2 X1 h => ?_) (kxN KrI.no)
  refine aw_widen (cc' := 0) (ss' := 0) (leb rfl) (leb rfl) ?_
  refine aw_aload_n 5 dX0_readWhole_4 rfl 0 rfl rfl ?_
  obtain ⟨g4, h⟩ := h
  refine aw_getI 8 dX0_readWhole_5 fl_RX0_27 rfl g4 rfl ?_
  refine aw_icmp_ge 13 11 dX0_readWhole_8 rfl rfl (fun c5 => ?_) (fun c5 => ?_)
  · replace h := h.1 c5
    refine aw_aload_n 14 dX0_readWhole_13 rfl 0 rfl rfl ?_
    refine aw_getI 17 dX0_readWhole_14 fl_RX0_38 rfl g4 rfl ?_
    refine aw_iconst 18 (v := 2) dX0_readWhole_17 kI_2 rfl ?_
    refine aw_icmp_ne 36 21 dX0_readWhole_18 rfl rfl (fun c6 => ?_) (fun c6 => ?_)
    · replace h := h.1 c6
      exact aw_pick [0] rfl (aw_X0_readWhole_36 hG  h)
    · replace h := h.2 c6
      refine aw_aload_n 22 dX0_readWhole_21 rfl 0 rfl rfl ?_
      obtain ⟨g7, h⟩ := h
      refine aw_getR 25 dX0_readWhole_22 fl_RX0_21 rfl g4 g7 rfl ?_
      refine aw_aload_n 26 dX0_readWhole_25 rfl 0 rfl rfl ?_
      refine aw_getI 29 dX0_readWhole_26 fl_RX0_35 rfl g4 rfl ?_
      refine aw_callSN (M' := M_X4_at) 32 41 [.ref _, .int _] [] dX0_readWhole_29 (by decide) ms_X4_at mp_X4_at rfl ⟨leb rfl, leb rfl⟩ rfl (leb rfl) (leb rfl) (leb rfl) rfl (am_X4_at hG h) (kkI fun v9 X8 h => ?_) KrI.no
      refine aw_widen (cc' := 0) (ss' := 0) (leb rfl) (leb rfl) ?_
      refine aw_iconst 33 (v := 4) dX0_readWhole_32 kI_4 rfl ?_
      refine aw_icmp_ge 59 36 dX0_readWhole_33 rfl rfl (fun c10 => ?_) (fun c10 => ?_)
      · replace h := h.1 c10
        refine aw_iconst 60 (v := 1) dX0_readWhole_59 kI_1 rfl ?_
        refine aw_goto 64 dX0_readWhole_60 rfl ?_
        exact aw_ireturn (ty := .boolean) dX0_readWhole_64 rfl rfl (leb rfl) (leb rfl) ⟨_, rfl, h⟩
      · replace h := h.2 c10
        exact aw_pick [0] rfl (aw_X0_readWhole_36 hG  h)
  · replace h := h.2 c5
    refine aw_iconst 12 (v := 0) dX0_readWhole_11 kI_0 rfl ?_
    exact aw_ireturn (ty := .boolean) dX0_readWhole_12 rfl rfl (leb rfl) (leb rfl) ⟨_, rfl, h⟩)
set_option maxRecDepth 20000 in
theorem aw_X0_hasSighBeyondLips_2 {G : GG} (hG : G.1.stackTraces = false)  {l0 : Nat} {l1 : Int32} {l2 : Int32} {X : XH} {K : Int32 → XH → Prop}  (h : w_X0_hasSighBeyondLips_2  l0 l1 l2 X K) : AW G M_X0_hasSighBeyondLips 2 [(0, .ref l0), (1, .int l1), (2, .int l2)] [] X 0 0 (KrI K) :=
  h (fun l0 l1 l2 X => AW G M_X0_hasSighBeyondLips 2 [(0, .ref l0), (1, .int l1), (2, .int l2)] [] X 0 0 (KrI K)) (fun l0 l1 l2 X h => by
    refine aw_iload_n 3 dX0_hasSighBeyondLips_2 rfl 2 rfl rfl ?_
    refine aw_iload_n 4 dX0_hasSighBeyondLips_3 rfl 1 rfl rfl ?_
    refine aw_icmp_ge 34 7 dX0_hasSighBeyondLips_4 rfl rfl (fun c1 => ?_) (fun c1 => ?_)
    · replace h := h.1 c1
      refine aw_iconst 35 (v := 0) dX0_hasSighBeyondLips_34 kI_0 rfl ?_
      exact aw_ireturn (ty := .boolean) dX0_hasSighBeyondLips_35 rfl rfl (leb rfl) (leb rfl) ⟨_, rfl, h⟩
    · replace h := h.2 c1
      refine aw_aload_n 8 dX0_hasSighBeyondLips_7 rfl 0 rfl rfl ?_
      obtain ⟨g2, h⟩ := h
      obtain ⟨g3, h⟩ := h
      refine aw_getR 11 dX0_hasSighBeyondLips_8 fl_RX0_24 rfl g2 g3 rfl ?_
      refine aw_iload_n 12 dX0_hasSighBeyondLips_11 rfl 2 rfl rfl ?_
      refine aw_callSN (M' := M_X4_at) 15 41 [.ref _, .int _] [] dX0_hasSighBeyondLips_12 (by decide) ms_X4_at mp_X4_at rfl ⟨leb rfl, leb rfl⟩ rfl (leb rfl) (leb rfl) (leb rfl) rfl (am_X4_at hG h) (kkI fun v5 X4 h => ?_) KrI.no
      refine aw_widen (cc' := 0) (ss' := 0) (leb rfl) (leb rfl) ?_
      refine aw_aload_n 16 dX0_hasSighBeyondLips_15 rfl 0 rfl rfl ?_
      obtain ⟨g6, h⟩ := h
      obtain ⟨g7, h⟩ := h
      refine aw_getR 19 dX0_hasSighBeyondLips_16 fl_RX0_21 rfl g6 g7 rfl ?_
      refine aw_iload_n 20 dX0_hasSighBeyondLips_19 rfl 2 rfl rfl ?_
      refine aw_callSN (M' := M_X4_at) 23 41 [.ref _, .int _] [.int _] dX0_hasSighBeyondLips_20 (by decide) ms_X4_at mp_X4_at rfl ⟨leb rfl, leb rfl⟩ rfl (leb rfl) (leb rfl) (leb rfl) rfl (am_X4_at hG h) (kkI fun v9 X8 h => ?_) KrI.no
      refine aw_widen (cc' := 0) (ss' := 0) (leb rfl) (leb rfl) ?_
      refine aw_icmp_le 28 26 dX0_hasSighBeyondLips_23 rfl rfl (fun c10 => ?_) (fun c10 => ?_)
      · replace h := h.1 c10
        refine aw_iinc 31 (v := 1) (lv' := [(2, _), (0, _), (1, _)]) dX0_hasSighBeyondLips_28 2 rfl kI_1 (ltb rfl) rfl rfl ?_
        refine aw_goto 2 dX0_hasSighBeyondLips_31 rfl ?_
        exact aw_pick [1, 2, 0] rfl h
      · replace h := h.2 c10
        refine aw_iconst 27 (v := 1) dX0_hasSighBeyondLips_26 kI_1 rfl ?_
        exact aw_ireturn (ty := .boolean) dX0_hasSighBeyondLips_27 rfl rfl (leb rfl) (leb rfl) ⟨_, rfl, h⟩)
set_option maxRecDepth 20000 in
theorem am_X0_hasSighBeyondLips {G : GG} (hG : G.1.stackTraces = false) {l0 : Nat} {l1 : Int32} {X : XH} {K : Int32 → XH → Prop} (h : w_X0_hasSighBeyondLips l0 l1 X K) : AM G M_X0_hasSighBeyondLips X [.ref l0, .int l1] (KrI K) := AM_of (by decide +kernel) rfl (leb rfl) hG (by
  show AW G M_X0_hasSighBeyondLips 0 [(0, .ref l0), (1, .int l1)] [] X 0 0 _
  unfold w_X0_hasSighBeyondLips at h
  refine aw_iconst 1 (v := 0) dX0_hasSighBeyondLips_0 kI_0 rfl ?_
  refine aw_istore_n 2 (lv' := [(2, _), (0, _), (1, _)]) dX0_hasSighBeyondLips_1 rfl (ltb rfl) rfl rfl ?_
  exact aw_pick [1, 2, 0] rfl (aw_X0_hasSighBeyondLips_2 hG  h))
set_option maxRecDepth 20000 in
theorem aw_X4_load_78 {G : GG} (hG : G.1.stackTraces = false)  {l0 : Nat} {l1 : Int32} {l2 : Int32} {X : XH} {K : Int32 → XH → Prop} {KX : String → XH → Prop}  (h : w_X4_load_78  l0 l1 l2 X K KX) : AW G M_X4_load 78 [(0, .ref l0), (1, .int l1), (2, .int l2)] [] X 0 0 (KxT (KrI K) KX) :=
  h (fun l0 l1 l2 X => AW G M_X4_load 78 [(0, .ref l0), (1, .int l1), (2, .int l2)] [] X 0 0 (KxT (KrI K) KX)) (fun l0 l1 l2 X h => by
    refine aw_iload_n 79 dX4_load_78 rfl 2 rfl rfl ?_
    refine aw_iload_n 80 dX4_load_79 rfl 1 rfl rfl ?_
    refine aw_icmp_ge 141 83 dX4_load_80 rfl rfl (fun c1 => ?_) (fun c1 => ?_)
    · replace h := h.1 c1
      refine aw_aload_n 142 dX4_load_141 rfl 0 rfl rfl ?_
      obtain ⟨g2, h⟩ := h
      obtain ⟨g3, h⟩ := h
      refine aw_getR 145 dX4_load_142 fl_RX4_34 rfl g2 g3 rfl ?_
      refine aw_iconst 146 (v := 0) dX4_load_145 kI_0 rfl ?_
      obtain ⟨g4, h⟩ := h
      refine aw_putI 149 dX4_load_146 fl_RX4_226 rfl rfl rfl rfl g4 rfl ?_
      refine aw_aload_n 150 dX4_load_149 rfl 0 rfl rfl ?_
      obtain ⟨g5, h⟩ := h
      refine aw_getR 153 dX4_load_150 fl_RX4_10 rfl g2 g5 rfl ?_
      obtain ⟨g6, h⟩ := h
      refine aw_getI 156 dX4_load_153 fl_RX4_56 rfl g6 rfl ?_
      exact aw_ireturn (ty := .int) dX4_load_156 rfl rfl (leb rfl) (leb rfl) (Or.inl ⟨_, rfl, h⟩)
    · replace h := h.2 c1
      refine aw_aload_n 84 dX4_load_83 rfl 0 rfl rfl ?_
      obtain ⟨g7, h⟩ := h
      obtain ⟨g8, h⟩ := h
      refine aw_getR 87 dX4_load_84 fl_RX4_10 rfl g7 g8 rfl ?_
      refine aw_aload_n 88 dX4_load_87 rfl 0 rfl rfl ?_
      obtain ⟨g9, h⟩ := h
      refine aw_getR 91 dX4_load_88 fl_RX4_34 rfl g7 g9 rfl ?_
      obtain ⟨g10, h⟩ := h
      obtain ⟨g11, h⟩ := h
      refine aw_getR 94 dX4_load_91 fl_RX4_255 rfl g10 g11 rfl ?_
      refine aw_iload_n 95 dX4_load_94 rfl 2 rfl rfl ?_
      refine aw_callS (M' := M_X4_at) 98 256 [.ref _, .int _] [.ref _] dX4_load_95 lk_RX4_256 ms_X4_at mp_X4_at rfl ⟨leb rfl, leb rfl⟩ rfl (leb rfl) (leb rfl) (leb rfl) rfl (am_X4_at hG h) (kkI fun v13 X12 h => ?_) (kxN KrI.no)
      refine aw_widen (cc' := 0) (ss' := 0) (leb rfl) (leb rfl) ?_
      refine aw_aload_n 99 dX4_load_98 rfl 0 rfl rfl ?_
      obtain ⟨g14, h⟩ := h
      obtain ⟨g15, h⟩ := h
      refine aw_getR 102 dX4_load_99 fl_RX4_34 rfl g14 g15 rfl ?_
      obtain ⟨g16, h⟩ := h
      obtain ⟨g17, h⟩ := h
      refine aw_getR 105 dX4_load_102 fl_RX4_260 rfl g16 g17 rfl ?_
      refine aw_iload_n 106 dX4_load_105 rfl 2 rfl rfl ?_
      refine aw_callS (M' := M_X4_at) 109 256 [.ref _, .int _] [.int _, .ref _] dX4_load_106 lk_RX4_256 ms_X4_at mp_X4_at rfl ⟨leb rfl, leb rfl⟩ rfl (leb rfl) (leb rfl) (leb rfl) rfl (am_X4_at hG h) (kkI fun v19 X18 h => ?_) (kxN KrI.no)
      refine aw_widen (cc' := 0) (ss' := 0) (leb rfl) (leb rfl) ?_
      refine aw_aload_n 110 dX4_load_109 rfl 0 rfl rfl ?_
      obtain ⟨g20, h⟩ := h
      obtain ⟨g21, h⟩ := h
      refine aw_getR 113 dX4_load_110 fl_RX4_34 rfl g20 g21 rfl ?_
      obtain ⟨g22, h⟩ := h
      obtain ⟨g23, h⟩ := h
      refine aw_getR 116 dX4_load_113 fl_RX4_263 rfl g22 g23 rfl ?_
      refine aw_iload_n 117 dX4_load_116 rfl 2 rfl rfl ?_
      refine aw_callS (M' := M_X4_at) 120 256 [.ref _, .int _] [.int _, .int _, .ref _] dX4_load_117 lk_RX4_256 ms_X4_at mp_X4_at rfl ⟨leb rfl, leb rfl⟩ rfl (leb rfl) (leb rfl) (leb rfl) rfl (am_X4_at hG h) (kkI fun v25 X24 h => ?_) (kxN KrI.no)
      refine aw_widen (cc' := 0) (ss' := 0) (leb rfl) (leb rfl) ?_
      refine aw_aload_n 121 dX4_load_120 rfl 0 rfl rfl ?_
      obtain ⟨g26, h⟩ := h
      obtain ⟨g27, h⟩ := h
      refine aw_getR 124 dX4_load_121 fl_RX4_34 rfl g26 g27 rfl ?_
      obtain ⟨g28, h⟩ := h
      obtain ⟨g29, h⟩ := h
      refine aw_getR 127 dX4_load_124 fl_RX4_264 rfl g28 g29 rfl ?_
      refine aw_iload_n 128 dX4_load_127 rfl 2 rfl rfl ?_
      refine aw_callS (M' := M_X4_at) 131 256 [.ref _, .int _] [.int _, .int _, .int _, .ref _] dX4_load_128 lk_RX4_256 ms_X4_at mp_X4_at rfl ⟨leb rfl, leb rfl⟩ rfl (leb rfl) (leb rfl) (leb rfl) rfl (am_X4_at hG h) (kkI fun v31 X30 h => ?_) (kxN KrI.no)
      refine aw_widen (cc' := 0) (ss' := 0) (leb rfl) (leb rfl) ?_
      obtain ⟨g34, h⟩ := h
      refine aw_callV (M' := M_X3_add) 134 71 3 (hR X l0 0) [.int _, .int _, .int _, .int _] [] dX4_load_131 lk_RX4_71 mv_X3_add mp_X3_add rfl ⟨leb rfl, leb rfl⟩ rfl (ltb rfl) g34 rfl (leb rfl) (leb rfl) (leb rfl) rfl (am_X3_add hG h) (kkI fun v33 X32 h => ?_) (kxN KrI.no)
      refine aw_widen (cc' := 0) (ss' := 0) (leb rfl) (leb rfl) ?_
      refine aw_pop 135 dX4_load_134 rfl rfl ?_
      refine aw_iinc 138 (v := 1) (lv' := [(2, _), (0, _), (1, _)]) dX4_load_135 2 rfl kI_1 (ltb rfl) rfl rfl ?_
      refine aw_goto 78 dX4_load_138 rfl ?_
      exact aw_pick [1, 2, 0] rfl h)
set_option maxRecDepth 20000 in
theorem am_X4_load {G : GG} (hG : G.1.stackTraces = false) {l0 : Nat} {X : XH} {K : Int32 → XH → Prop} {KX : String → XH → Prop} (h : w_X4_load l0 X K KX) : AM G M_X4_load X [.ref l0] (KxT (KrI K) KX) := AM_of (by decide +kernel) rfl (leb rfl) hG (by
  show AW G M_X4_load 0 [(0, .ref l0)] [] X 0 0 _
  unfold w_X4_load at h
  refine aw_aload_n 1 dX4_load_0 rfl 0 rfl rfl ?_
  obtain ⟨g1, h⟩ := h
  obtain ⟨g2, h⟩ := h
  refine aw_getR 4 dX4_load_1 fl_RX4_34 rfl g1 g2 rfl ?_
  obtain ⟨g5, h⟩ := h
  refine aw_callV (M' := M_X0_readWhole) 7 238 0 (hR X l0 4) [] [] dX4_load_4 lk_RX4_238 mv_X0_readWhole mp_X0_readWhole rfl ⟨leb rfl, leb rfl⟩ rfl (ltb rfl) g5 rfl (leb rfl) (leb rfl) (leb rfl) rfl (am_X0_readWhole hG h) (kkI fun v4 X3 h => ?_) (kxN KrI.no)
  refine aw_widen (cc' := 0) (ss' := 0) (leb rfl) (leb rfl) ?_
  refine aw_if_ne 20 10 dX4_load_7 rfl rfl (fun c6 => ?_) (fun c6 => ?_)
  · replace h := h.1 c6
    refine aw_aload_n 21 dX4_load_20 rfl 0 rfl rfl ?_
    obtain ⟨g7, h⟩ := h
    obtain ⟨g8, h⟩ := h
    refine aw_getR 24 dX4_load_21 fl_RX4_34 rfl g7 g8 rfl ?_
    obtain ⟨g9, h⟩ := h
    refine aw_getI 27 dX4_load_24 fl_RX4_247 rfl g9 rfl ?_
    refine aw_iconst 28 (v := 1) dX4_load_27 kI_1 rfl ?_
    refine aw_iadd 29 dX4_load_28 rfl ?_
    refine aw_istore_n 30 (lv' := [(1, _), (0, _)]) dX4_load_29 rfl (ltb rfl) rfl rfl ?_
    refine aw_aload_n 31 dX4_load_30 rfl 1 rfl rfl ?_
    obtain ⟨g10, h⟩ := h
    refine aw_getR 34 dX4_load_31 fl_RX4_10 rfl g7 g10 rfl ?_
    obtain ⟨g11, h⟩ := h
    refine aw_getI 37 dX4_load_34 fl_RX4_56 rfl g11 rfl ?_
    refine aw_iload_n 38 dX4_load_37 rfl 0 rfl rfl ?_
    refine aw_iadd 39 dX4_load_38 rfl ?_
    refine aw_bipush 41 (v := 24) dX4_load_39 kB_24 rfl ?_
    refine aw_icmp_gt 55 44 dX4_load_41 rfl rfl (fun c12 => ?_) (fun c12 => ?_)
    · replace h := h.1 c12
      exact aw_throw xcS 60 253 64 rfl th_xcS (by decide) (Or.inl ⟨dX4_load_55, dX4_load_58, dX4_load_59, dX4_load_61, dX4_load_64⟩) rfl (ltb rfl) (leb rfl) (leb rfl) (leb rfl) (Or.inr ⟨_, rfl, h⟩)
    · replace h := h.2 c12
      refine aw_aload_n 45 dX4_load_44 rfl 1 rfl rfl ?_
      refine aw_getR 48 dX4_load_45 fl_RX4_34 rfl g7 g8 rfl ?_
      refine aw_iload_n 49 dX4_load_48 rfl 0 rfl rfl ?_
      refine aw_callV (M' := M_X0_hasSighBeyondLips) 52 250 0 (hR X3 l0 4) [.int _] [] dX4_load_49 lk_RX4_250 mv_X0_hasSighBeyondLips mp_X0_hasSighBeyondLips rfl ⟨leb rfl, leb rfl⟩ rfl (ltb rfl) g9 rfl (leb rfl) (leb rfl) (leb rfl) rfl (am_X0_hasSighBeyondLips hG h) (kkI fun v14 X13 h => ?_) (kxN KrI.no)
      refine aw_widen (cc' := 0) (ss' := 0) (leb rfl) (leb rfl) ?_
      refine aw_if_eq 65 55 dX4_load_52 rfl rfl (fun c15 => ?_) (fun c15 => ?_)
      · replace h := h.1 c15
        refine aw_aload_n 66 dX4_load_65 rfl 1 rfl rfl ?_
        obtain ⟨g16, h⟩ := h
        obtain ⟨g17, h⟩ := h
        refine aw_getR 69 dX4_load_66 fl_RX4_19 rfl g16 g17 rfl ?_
        refine aw_aload_n 70 dX4_load_69 rfl 1 rfl rfl ?_
        obtain ⟨g18, h⟩ := h
        refine aw_getR 73 dX4_load_70 fl_RX4_10 rfl g16 g18 rfl ?_
        obtain ⟨g20, h⟩ := h
        refine aw_callV (M' := M_X1_push) 76 67 1 (hR X13 l0 1) [.ref _] [] dX4_load_73 lk_RX4_67 mv_X1_push mp_X1_push rfl ⟨leb rfl, leb rfl⟩ rfl (ltb rfl) g20 rfl (leb rfl) (leb rfl) (leb rfl) rfl (am_X1_push hG h) (kkV fun X19 h => ?_) (kxN KrV.no)
        refine aw_widen (cc' := 0) (ss' := 0) (leb rfl) (leb rfl) ?_
        refine aw_iconst 77 (v := 0) dX4_load_76 kI_0 rfl ?_
        refine aw_istore_n 78 (lv' := [(2, _), (1, _), (0, _)]) dX4_load_77 rfl (ltb rfl) rfl rfl ?_
        exact aw_pick [2, 1, 0] rfl (aw_X4_load_78 hG  h)
      · replace h := h.2 c15
        exact aw_throw xcS 60 253 64 rfl th_xcS (by decide) (Or.inl ⟨dX4_load_55, dX4_load_58, dX4_load_59, dX4_load_61, dX4_load_64⟩) rfl (ltb rfl) (leb rfl) (leb rfl) (leb rfl) (Or.inr ⟨_, rfl, h⟩)
  · replace h := h.2 c6
    exact aw_throw xcA 242 244 246 rfl th_xcA (by decide) (Or.inl ⟨dX4_load_10, dX4_load_13, dX4_load_14, dX4_load_16, dX4_load_19⟩) rfl (ltb rfl) (leb rfl) (leb rfl) (leb rfl) (Or.inr ⟨_, rfl, h⟩))
set_option maxRecDepth 20000 in
theorem am_L_load {G : GG} (hG : G.1.stackTraces = false) {l0 : Nat} {l1 : Nat} {X : XH} {K : Int32 → XH → Prop} (h : w_L_load l0 l1 X K) : AM G M_L_load X [.ref l0, .ref l1] (KrI K) := AM_ofH (by decide +kernel) (0, 8, 11, 15) [(0, 8, 14, 17)] rfl (leb rfl) hG (by
  show AW G M_L_load 0 [(0, .ref l0), (1, .ref l1)] [] X 0 0 _
  unfold w_L_load at h
  refine aw_aload_n 1 dL_load_0 rfl 1 rfl rfl ?_
  refine aw_iconst 2 (v := 0) dL_load_1 kI_0 rfl ?_
  refine aw_aload_n 3 dL_load_2 rfl 0 rfl rfl ?_
  obtain ⟨g3, h⟩ := h
  refine aw_callV (M' := M_X4_load) 6 61 4 l0 [] [.int _, .ref _] dL_load_3 lk_RL_61 mv_X4_load mp_X4_load rfl ⟨leb rfl, leb rfl⟩ rfl (ltb rfl) g3 rfl (leb rfl) (leb rfl) (leb rfl) rfl (am_X4_load hG h) (kkT (kkI fun v2 X1 h => ?_)) (kxT KrI.no fun E X1 h => ?_)
  · refine aw_widen (cc' := 1) (ss' := 6) (leb rfl) (leb rfl) ?_
    refine aw_i2l 7 dL_load_6 rfl ?_
    obtain ⟨g4, h⟩ := h
    obtain ⟨g5, h⟩ := h
    refine aw_lastore 8 dL_load_7 g4 g5 rfl ?_
    refine aw_goto 17 dL_load_8 rfl ?_
    refine aw_iconst 18 (v := 0) dL_load_17 kI_0 rfl ?_
    exact aw_ireturn (ty := .int) dL_load_18 rfl rfl (leb rfl) (leb rfl) ⟨_, rfl, h⟩
  · obtain ⟨hE, h⟩ := h
    rcases hE with rfl | rfl
    · refine aw_atc (lv' := [(0, .ref _), (1, .ref _)]) [] (0, 8, 11, 15) [(0, 8, 14, 17)] rfl (fun z hz => nomatch hz) (by decide) (by decide) (tk3 (i := 62) (by decide +kernel) rfl) (by decide) 2 1 12 (Or.inl ⟨2, rfl, dL_load_11, rfl⟩) (ltb rfl) rfl ?_
      refine aw_widen (cc' := 1) (ss' := 6) (leb rfl) (leb rfl) ?_
      replace h := h.1 rfl
      refine aw_iconst 13 (v := 1) dL_load_12 kI_1 rfl ?_
      exact aw_ireturn (ty := .int) dL_load_13 rfl rfl (leb rfl) (leb rfl) ⟨_, rfl, h⟩
    · refine aw_atc (lv' := [(0, .ref _), (1, .ref _)]) [(0, 8, 11, 15)] (0, 8, 14, 17) [] rfl (by intro z hz; simp only [List.mem_cons, List.not_mem_nil, or_false] at hz; rcases hz with rfl <;> first | exact ⟨by decide, xcA, tk3 (i := 62) (by decide +kernel) rfl, by decide⟩) (by decide) (by decide) (tk3 (i := 63) (by decide +kernel) rfl) (by decide) 2 1 15 (Or.inl ⟨2, rfl, dL_load_14, rfl⟩) (ltb rfl) rfl ?_
      refine aw_widen (cc' := 1) (ss' := 6) (leb rfl) (leb rfl) ?_
      replace h := h.2 rfl
      refine aw_iconst 16 (v := 2) dL_load_15 kI_2 rfl ?_
      exact aw_ireturn (ty := .int) dL_load_16 rfl rfl (leb rfl) (leb rfl) ⟨_, rfl, h⟩)
set_option maxRecDepth 20000 in
theorem aw_X5_canLoad_16 {G : GG} (hG : G.1.stackTraces = false)  {l0 : Nat} {l1 : Int32} {l2 : Int32} {X : XH} {K : Int32 → XH → Prop}  (h : w_X5_canLoad_16  l0 l1 l2 X K) : AW G M_X5_canLoad 16 [(0, .ref l0), (1, .int l1), (2, .int l2)] [] X 0 0 (KrI K) :=
  h (fun l0 l1 l2 X => AW G M_X5_canLoad 16 [(0, .ref l0), (1, .int l1), (2, .int l2)] [] X 0 0 (KrI K)) (fun l0 l1 l2 X h => by
    refine aw_aload_n 17 dX5_canLoad_16 rfl 0 rfl rfl ?_
    obtain ⟨g1, h⟩ := h
    refine aw_getI 20 dX5_canLoad_17 fl_RX5_128 rfl g1 rfl ?_
    refine aw_aload_n 21 dX5_canLoad_20 rfl 0 rfl rfl ?_
    refine aw_getI 24 dX5_canLoad_21 fl_RX5_125 rfl g1 rfl ?_
    refine aw_icmp_ge 68 27 dX5_canLoad_24 rfl rfl (fun c2 => ?_) (fun c2 => ?_)
    · replace h := h.1 c2
      refine aw_iload_n 69 dX5_canLoad_68 rfl 2 rfl rfl ?_
      refine aw_if_eq 82 72 dX5_canLoad_69 rfl rfl (fun c3 => ?_) (fun c3 => ?_)
      · replace h := h.1 c3
        refine aw_iconst 83 (v := 0) dX5_canLoad_82 kI_0 rfl ?_
        exact aw_ireturn (ty := .boolean) dX5_canLoad_83 rfl rfl (leb rfl) (leb rfl) ⟨_, rfl, h⟩
      · replace h := h.2 c3
        refine aw_iload_n 73 dX5_canLoad_72 rfl 1 rfl rfl ?_
        refine aw_bipush 75 (v := 24) dX5_canLoad_73 kB_24 rfl ?_
        refine aw_icmp_gt 82 78 dX5_canLoad_75 rfl rfl (fun c4 => ?_) (fun c4 => ?_)
        · replace h := h.1 c4
          refine aw_iconst 83 (v := 0) dX5_canLoad_82 kI_0 rfl ?_
          exact aw_ireturn (ty := .boolean) dX5_canLoad_83 rfl rfl (leb rfl) (leb rfl) ⟨_, rfl, h⟩
        · replace h := h.2 c4
          refine aw_iconst 79 (v := 1) dX5_canLoad_78 kI_1 rfl ?_
          refine aw_goto 83 dX5_canLoad_79 rfl ?_
          exact aw_ireturn (ty := .boolean) dX5_canLoad_83 rfl rfl (leb rfl) (leb rfl) ⟨_, rfl, h⟩
    · replace h := h.2 c2
      refine aw_aload_n 28 dX5_canLoad_27 rfl 0 rfl rfl ?_
      refine aw_callV (M' := M_X5_part) 31 157 5 l0 [] [] dX5_canLoad_28 lk_RX5_157 mv_X5_part mp_X5_part rfl ⟨leb rfl, leb rfl⟩ rfl (ltb rfl) g1 rfl (leb rfl) (leb rfl) (leb rfl) rfl (am_X5_part hG h) (kkV fun X5 h => ?_) (kxN KrV.no)
      refine aw_widen (cc' := 0) (ss' := 0) (leb rfl) (leb rfl) ?_
      refine aw_aload_n 32 dX5_canLoad_31 rfl 0 rfl rfl ?_
      refine aw_dup 33 dX5_canLoad_32 rfl rfl ?_
      obtain ⟨g6, h⟩ := h
      refine aw_getI 36 dX5_canLoad_33 fl_RX5_128 rfl g6 rfl ?_
      refine aw_iconst 37 (v := 1) dX5_canLoad_36 kI_1 rfl ?_
      refine aw_iadd 38 dX5_canLoad_37 rfl ?_
      refine aw_putI 41 dX5_canLoad_38 fl_RX5_128 rfl rfl rfl rfl g6 rfl ?_
      refine aw_iinc 44 (v := 1) (lv' := [(1, _), (0, _), (2, _)]) dX5_canLoad_41 1 rfl kI_1 (ltb rfl) rfl rfl ?_
      refine aw_iload_n 45 dX5_canLoad_44 rfl 2 rfl rfl ?_
      refine aw_if_eq 63 48 dX5_canLoad_45 rfl rfl (fun c7 => ?_) (fun c7 => ?_)
      · replace h := h.1 c7
        refine aw_iconst 64 (v := 0) dX5_canLoad_63 kI_0 rfl ?_
        refine aw_istore_n 65 (lv' := [(2, _), (1, _), (0, _)]) dX5_canLoad_64 rfl (ltb rfl) rfl rfl ?_
        refine aw_goto 16 dX5_canLoad_65 rfl ?_
        exact aw_pick [2, 1, 0] rfl h
      · replace h := h.2 c7
        refine aw_aload_n 49 dX5_canLoad_48 rfl 1 rfl rfl ?_
        refine aw_getI 52 dX5_canLoad_49 fl_RX5_154 rfl g6 rfl ?_
        refine aw_aload_n 53 dX5_canLoad_52 rfl 1 rfl rfl ?_
        refine aw_getI 56 dX5_canLoad_53 fl_RX5_151 rfl g6 rfl ?_
        refine aw_icmp_gt 63 59 dX5_canLoad_56 rfl rfl (fun c8 => ?_) (fun c8 => ?_)
        · replace h := h.1 c8
          refine aw_iconst 64 (v := 0) dX5_canLoad_63 kI_0 rfl ?_
          refine aw_istore_n 65 (lv' := [(2, _), (1, _), (0, _)]) dX5_canLoad_64 rfl (ltb rfl) rfl rfl ?_
          refine aw_goto 16 dX5_canLoad_65 rfl ?_
          exact aw_pick [2, 1, 0] rfl h
        · replace h := h.2 c8
          refine aw_iconst 60 (v := 1) dX5_canLoad_59 kI_1 rfl ?_
          refine aw_goto 64 dX5_canLoad_60 rfl ?_
          refine aw_istore_n 65 (lv' := [(2, _), (1, _), (0, _)]) dX5_canLoad_64 rfl (ltb rfl) rfl rfl ?_
          refine aw_goto 16 dX5_canLoad_65 rfl ?_
          exact aw_pick [2, 1, 0] rfl h)
set_option maxRecDepth 20000 in
theorem am_X5_canLoad {G : GG} (hG : G.1.stackTraces = false) {l0 : Nat} {X : XH} {K : Int32 → XH → Prop} (h : w_X5_canLoad l0 X K) : AM G M_X5_canLoad X [.ref l0] (KrI K) := AM_of (by decide +kernel) rfl (leb rfl) hG (by
  show AW G M_X5_canLoad 0 [(0, .ref l0)] [] X 0 0 _
  unfold w_X5_canLoad at h
  refine aw_aload_n 1 dX5_canLoad_0 rfl 0 rfl rfl ?_
  obtain ⟨g1, h⟩ := h
  obtain ⟨g2, h⟩ := h
  refine aw_getR 4 dX5_canLoad_1 fl_RX5_7 rfl g1 g2 rfl ?_
  refine aw_sipush 7 (v := 366) dX5_canLoad_4 kS_366 rfl ?_
  obtain ⟨g3, h⟩ := h
  obtain ⟨g4, h⟩ := h
  refine aw_iaload 8 dX5_canLoad_7 g3 g4 rfl ?_
  refine aw_istore_n 9 (lv' := [(1, _), (0, _)]) dX5_canLoad_8 rfl (ltb rfl) rfl rfl ?_
  refine aw_iconst 10 (v := 1) dX5_canLoad_9 kI_1 rfl ?_
  refine aw_istore_n 11 (lv' := [(2, _), (1, _), (0, _)]) dX5_canLoad_10 rfl (ltb rfl) rfl rfl ?_
  refine aw_aload_n 12 dX5_canLoad_11 rfl 2 rfl rfl ?_
  refine aw_iconst 13 (v := 0) dX5_canLoad_12 kI_0 rfl ?_
  refine aw_putI 16 dX5_canLoad_13 fl_RX5_128 rfl rfl rfl rfl g1 rfl ?_
  exact aw_pick [2, 1, 0] rfl (aw_X5_canLoad_16 hG  h))
set_option maxRecDepth 20000 in
theorem aw_X5_load_41 {G : GG} (hG : G.1.stackTraces = false)  {l0 : Nat} {X : XH} {K : Int32 → XH → Prop}  (h : w_X5_load_41  l0 X K) : AW G M_X5_load 41 [(0, .ref l0)] [] X 0 0 (KrI K) :=
  h (fun l0 X => AW G M_X5_load 41 [(0, .ref l0)] [] X 0 0 (KrI K)) (fun l0 X h => by
    refine aw_aload_n 42 dX5_load_41 rfl 0 rfl rfl ?_
    obtain ⟨g1, h⟩ := h
    refine aw_getI 45 dX5_load_42 fl_RX5_128 rfl g1 rfl ?_
    refine aw_aload_n 46 dX5_load_45 rfl 0 rfl rfl ?_
    refine aw_getI 49 dX5_load_46 fl_RX5_125 rfl g1 rfl ?_
    refine aw_icmp_ge 89 52 dX5_load_49 rfl rfl (fun c2 => ?_) (fun c2 => ?_)
    · replace h := h.1 c2
      refine aw_aload_n 90 dX5_load_89 rfl 0 rfl rfl ?_
      refine aw_iconst 91 (v := 0) dX5_load_90 kI_0 rfl ?_
      refine aw_putI 94 dX5_load_91 fl_RX5_125 rfl rfl rfl rfl g1 rfl ?_
      refine aw_aload_n 95 dX5_load_94 rfl 0 rfl rfl ?_
      obtain ⟨g3, h⟩ := h
      refine aw_getR 98 dX5_load_95 fl_RX5_7 rfl g1 g3 rfl ?_
      refine aw_sipush 101 (v := 366) dX5_load_98 kS_366 rfl ?_
      obtain ⟨g4, h⟩ := h
      obtain ⟨g5, h⟩ := h
      refine aw_iaload 102 dX5_load_101 g4 g5 rfl ?_
      exact aw_ireturn (ty := .int) dX5_load_102 rfl rfl (leb rfl) (leb rfl) ⟨_, rfl, h⟩
    · replace h := h.2 c2
      refine aw_aload_n 53 dX5_load_52 rfl 0 rfl rfl ?_
      refine aw_callV (M' := M_X5_part) 56 157 5 l0 [] [] dX5_load_53 lk_RX5_157 mv_X5_part mp_X5_part rfl ⟨leb rfl, leb rfl⟩ rfl (ltb rfl) g1 rfl (leb rfl) (leb rfl) (leb rfl) rfl (am_X5_part hG h) (kkV fun X6 h => ?_) (kxN KrV.no)
      refine aw_widen (cc' := 0) (ss' := 0) (leb rfl) (leb rfl) ?_
      refine aw_aload_n 57 dX5_load_56 rfl 0 rfl rfl ?_
      refine aw_dup 58 dX5_load_57 rfl rfl ?_
      obtain ⟨g7, h⟩ := h
      refine aw_getI 61 dX5_load_58 fl_RX5_128 rfl g7 rfl ?_
      refine aw_iconst 62 (v := 1) dX5_load_61 kI_1 rfl ?_
      refine aw_iadd 63 dX5_load_62 rfl ?_
      refine aw_putI 66 dX5_load_63 fl_RX5_128 rfl rfl rfl rfl g7 rfl ?_
      refine aw_aload_n 67 dX5_load_66 rfl 0 rfl rfl ?_
      refine aw_aload_n 68 dX5_load_67 rfl 0 rfl rfl ?_
      refine aw_getI 71 dX5_load_68 fl_RX5_142 rfl g7 rfl ?_
      refine aw_aload_n 72 dX5_load_71 rfl 0 rfl rfl ?_
      refine aw_getI 75 dX5_load_72 fl_RX5_145 rfl g7 rfl ?_
      refine aw_aload_n 76 dX5_load_75 rfl 0 rfl rfl ?_
      refine aw_getI 79 dX5_load_76 fl_RX5_151 rfl g7 rfl ?_
      refine aw_aload_n 80 dX5_load_79 rfl 0 rfl rfl ?_
      refine aw_getI 83 dX5_load_80 fl_RX5_154 rfl g7 rfl ?_
      refine aw_callV (M' := M_X5_adds) 86 87 5 l0 [.int _, .int _, .int _, .int _] [] dX5_load_83 lk_RX5_87 mv_X5_adds mp_X5_adds rfl ⟨leb rfl, leb rfl⟩ rfl (ltb rfl) g7 rfl (leb rfl) (leb rfl) (leb rfl) rfl (am_X5_adds hG h) (kkV fun X8 h => ?_) (kxN KrV.no)
      refine aw_widen (cc' := 0) (ss' := 0) (leb rfl) (leb rfl) ?_
      refine aw_goto 41 dX5_load_86 rfl ?_
      exact aw_pick [0] rfl h)
set_option maxRecDepth 20000 in
theorem aw_X5_load_24 {G : GG} (hG : G.1.stackTraces = false)  {l0 : Nat} {s0 : Nat} {s1 : Int32} {X : XH} {K : Int32 → XH → Prop}  (h : w_X5_load_24  l0 s0 s1 X K) : AW G M_X5_load 24 [(0, .ref l0)] [.int s1, .ref s0] X 0 0 (KrI K) := by
  unfold w_X5_load_24 at h
  obtain ⟨g3, h⟩ := h
  refine aw_callV (M' := M_X5_refused) 27 81 5 s0 [.int _] [] dX5_load_24 lk_RX5_81 mv_X5_refused mp_X5_refused rfl ⟨leb rfl, leb rfl⟩ rfl (ltb rfl) g3 rfl (leb rfl) (leb rfl) (leb rfl) rfl (am_X5_refused hG h) (kkI fun v2 X1 h => ?_) (kxN KrI.no)
  refine aw_widen (cc' := 0) (ss' := 0) (leb rfl) (leb rfl) ?_
  refine aw_if_eq 32 30 dX5_load_27 rfl rfl (fun c4 => ?_) (fun c4 => ?_)
  · replace h := h.1 c4
    refine aw_aload_n 33 dX5_load_32 rfl 0 rfl rfl ?_
    obtain ⟨g6, h⟩ := h
    refine aw_callV (M' := M_X5_saves) 36 84 5 l0 [] [] dX5_load_33 lk_RX5_84 mv_X5_saves mp_X5_saves rfl ⟨leb rfl, leb rfl⟩ rfl (ltb rfl) g6 rfl (leb rfl) (leb rfl) (leb rfl) rfl (am_X5_saves hG h) (kkV fun X5 h => ?_) (kxN KrV.no)
    refine aw_widen (cc' := 0) (ss' := 0) (leb rfl) (leb rfl) ?_
    refine aw_aload_n 37 dX5_load_36 rfl 0 rfl rfl ?_
    refine aw_iconst 38 (v := 0) dX5_load_37 kI_0 rfl ?_
    obtain ⟨g7, h⟩ := h
    refine aw_putI 41 dX5_load_38 fl_RX5_128 rfl rfl rfl rfl g7 rfl ?_
    exact aw_pick [0] rfl (aw_X5_load_41 hG  h)
  · replace h := h.2 c4
    refine aw_iconst 31 (v := 0) dX5_load_30 kI_0 rfl ?_
    exact aw_ireturn (ty := .int) dX5_load_31 rfl rfl (leb rfl) (leb rfl) ⟨_, rfl, h⟩
set_option maxRecDepth 20000 in
theorem am_X5_load {G : GG} (hG : G.1.stackTraces = false) {l0 : Nat} {X : XH} {K : Int32 → XH → Prop} (h : w_X5_load l0 X K) : AM G M_X5_load X [.ref l0] (KrI K) := AM_of (by decide +kernel) rfl (leb rfl) hG (by
  show AW G M_X5_load 0 [(0, .ref l0)] [] X 0 0 _
  unfold w_X5_load at h
  refine aw_aload_n 1 dX5_load_0 rfl 0 rfl rfl ?_
  refine aw_aload_n 2 dX5_load_1 rfl 0 rfl rfl ?_
  obtain ⟨g3, h⟩ := h
  refine aw_callV (M' := M_X5_isWhole) 5 160 5 l0 [] [.ref _] dX5_load_2 lk_RX5_160 mv_X5_isWhole mp_X5_isWhole rfl ⟨leb rfl, leb rfl⟩ rfl (ltb rfl) g3 rfl (leb rfl) (leb rfl) (leb rfl) rfl (am_X5_isWhole hG h) (kkI fun v2 X1 h => ?_) (kxN KrI.no)
  refine aw_widen (cc' := 0) (ss' := 0) (leb rfl) (leb rfl) ?_
  refine aw_if_ne 12 8 dX5_load_5 rfl rfl (fun c4 => ?_) (fun c4 => ?_)
  · replace h := h.1 c4
    refine aw_aload_n 13 dX5_load_12 rfl 0 rfl rfl ?_
    obtain ⟨g7, h⟩ := h
    refine aw_callV (M' := M_X5_canLoad) 16 164 5 l0 [] [.ref _] dX5_load_13 lk_RX5_164 mv_X5_canLoad mp_X5_canLoad rfl ⟨leb rfl, leb rfl⟩ rfl (ltb rfl) g7 rfl (leb rfl) (leb rfl) (leb rfl) rfl (am_X5_canLoad hG h) (kkI fun v6 X5 h => ?_) (kxN KrI.no)
    refine aw_widen (cc' := 0) (ss' := 0) (leb rfl) (leb rfl) ?_
    refine aw_if_eq 23 19 dX5_load_16 rfl rfl (fun c8 => ?_) (fun c8 => ?_)
    · replace h := h.1 c8
      refine aw_iconst 24 (v := 2) dX5_load_23 kI_2 rfl ?_
      exact aw_pick [0] rfl (aw_X5_load_24 hG  h)
    · replace h := h.2 c8
      refine aw_iconst 20 (v := 0) dX5_load_19 kI_0 rfl ?_
      refine aw_goto 24 dX5_load_20 rfl ?_
      exact aw_pick [0] rfl (aw_X5_load_24 hG  h)
  · replace h := h.2 c4
    refine aw_iconst 9 (v := 1) dX5_load_8 kI_1 rfl ?_
    refine aw_goto 24 dX5_load_9 rfl ?_
    exact aw_pick [0] rfl (aw_X5_load_24 hG  h))
set_option maxRecDepth 20000 in
theorem aw_X5_keep_23 {G : GG} (hG : G.1.stackTraces = false)  {l0 : Nat} {l1 : Int32} {l2 : Int32} {X : XH} {K : XH → Prop}  (h : w_X5_keep_23  l0 l1 l2 X K) : AW G M_X5_keep 23 [(0, .ref l0), (1, .int l1), (2, .int l2)] [] X 0 0 (KrV K) :=
  h (fun l0 l1 l2 X => AW G M_X5_keep 23 [(0, .ref l0), (1, .int l1), (2, .int l2)] [] X 0 0 (KrV K)) (fun l0 l1 l2 X h => by
    refine aw_iload_n 24 dX5_keep_23 rfl 2 rfl rfl ?_
    refine aw_sipush 27 (v := 371) dX5_keep_24 kS_371 rfl ?_
    refine aw_icmp_ge 54 30 dX5_keep_27 rfl rfl (fun c1 => ?_) (fun c1 => ?_)
    · replace h := h.1 c1
      refine aw_aload_n 55 dX5_keep_54 rfl 0 rfl rfl ?_
      obtain ⟨g2, h⟩ := h
      obtain ⟨g3, h⟩ := h
      refine aw_getR 58 dX5_keep_55 fl_RX5_19 rfl g2 g3 rfl ?_
      refine aw_iload_n 59 dX5_keep_58 rfl 1 rfl rfl ?_
      refine aw_iconst 60 (v := 1) dX5_keep_59 kI_1 rfl ?_
      obtain ⟨g4, h⟩ := h
      obtain ⟨g5, h⟩ := h
      refine aw_bastore 61 dX5_keep_60 g4 g5 (Or.inr rfl) rfl ?_
      exact aw_return dX5_keep_61 rfl (leb rfl) (leb rfl) ⟨rfl, h⟩
    · replace h := h.2 c1
      refine aw_aload_n 31 dX5_keep_30 rfl 0 rfl rfl ?_
      obtain ⟨g6, h⟩ := h
      obtain ⟨g7, h⟩ := h
      refine aw_getR 34 dX5_keep_31 fl_RX5_16 rfl g6 g7 rfl ?_
      refine aw_sipush 37 (v := 371) dX5_keep_34 kS_371 rfl ?_
      refine aw_iload_n 38 dX5_keep_37 rfl 1 rfl rfl ?_
      refine aw_imul 39 dX5_keep_38 rfl ?_
      refine aw_iload_n 40 dX5_keep_39 rfl 2 rfl rfl ?_
      refine aw_iadd 41 dX5_keep_40 rfl ?_
      refine aw_aload_n 42 dX5_keep_41 rfl 0 rfl rfl ?_
      obtain ⟨g8, h⟩ := h
      refine aw_getR 45 dX5_keep_42 fl_RX5_7 rfl g6 g8 rfl ?_
      refine aw_iload_n 46 dX5_keep_45 rfl 2 rfl rfl ?_
      obtain ⟨g9, h⟩ := h
      obtain ⟨g10, h⟩ := h
      refine aw_iaload 47 dX5_keep_46 g9 g10 rfl ?_
      obtain ⟨g11, h⟩ := h
      obtain ⟨g12, h⟩ := h
      refine aw_iastore 48 dX5_keep_47 g11 g12 rfl ?_
      refine aw_iinc 51 (v := 1) (lv' := [(2, _), (0, _), (1, _)]) dX5_keep_48 2 rfl kI_1 (ltb rfl) rfl rfl ?_
      refine aw_goto 23 dX5_keep_51 rfl ?_
      exact aw_pick [1, 2, 0] rfl h)
set_option maxRecDepth 20000 in
theorem am_X5_keep {G : GG} (hG : G.1.stackTraces = false) {l0 : Nat} {l1 : Int32} {X : XH} {K : XH → Prop} (h : w_X5_keep l0 l1 X K) : AM G M_X5_keep X [.ref l0, .int l1] (KrV K) := AM_of (by decide +kernel) rfl (leb rfl) hG (by
  show AW G M_X5_keep 0 [(0, .ref l0), (1, .int l1)] [] X 0 0 _
  unfold w_X5_keep at h
  refine aw_aload_n 1 dX5_keep_0 rfl 0 rfl rfl ?_
  refine aw_iload_n 2 dX5_keep_1 rfl 1 rfl rfl ?_
  refine aw_iconst 3 (v := 0) dX5_keep_2 kI_0 rfl ?_
  refine aw_iconst 4 (v := 1) dX5_keep_3 kI_1 rfl ?_
  refine aw_callS (M' := M_X5_in) 7 30 [.int _, .int _, .int _] [.ref _] dX5_keep_4 lk_RX5_30 ms_X5_in mp_X5_in rfl ⟨leb rfl, leb rfl⟩ rfl (leb rfl) (leb rfl) (leb rfl) rfl (am_X5_in hG h) (kkI fun v2 X1 h => ?_) (kxN KrI.no)
  refine aw_widen (cc' := 0) (ss' := 0) (leb rfl) (leb rfl) ?_
  refine aw_if_eq 14 10 dX5_keep_7 rfl rfl (fun c3 => ?_) (fun c3 => ?_)
  · replace h := h.1 c3
    refine aw_iconst 15 (v := 1) dX5_keep_14 kI_1 rfl ?_
    obtain ⟨g6, h⟩ := h
    refine aw_callV (M' := M_X5_refused) 18 81 5 l0 [.int _] [] dX5_keep_15 lk_RX5_81 mv_X5_refused mp_X5_refused rfl ⟨leb rfl, leb rfl⟩ rfl (ltb rfl) g6 rfl (leb rfl) (leb rfl) (leb rfl) rfl (am_X5_refused hG h) (kkI fun v5 X4 h => ?_) (kxN KrI.no)
    refine aw_widen (cc' := 0) (ss' := 0) (leb rfl) (leb rfl) ?_
    refine aw_if_ne 61 21 dX5_keep_18 rfl rfl (fun c7 => ?_) (fun c7 => ?_)
    · replace h := h.1 c7
      exact aw_return dX5_keep_61 rfl (leb rfl) (leb rfl) ⟨rfl, h⟩
    · replace h := h.2 c7
      refine aw_iconst 22 (v := 0) dX5_keep_21 kI_0 rfl ?_
      refine aw_istore_n 23 (lv' := [(2, _), (0, _), (1, _)]) dX5_keep_22 rfl (ltb rfl) rfl rfl ?_
      exact aw_pick [1, 2, 0] rfl (aw_X5_keep_23 hG  h)
  · replace h := h.2 c3
    refine aw_iconst 11 (v := 0) dX5_keep_10 kI_0 rfl ?_
    refine aw_goto 15 dX5_keep_11 rfl ?_
    obtain ⟨g10, h⟩ := h
    refine aw_callV (M' := M_X5_refused) 18 81 5 l0 [.int _] [] dX5_keep_15 lk_RX5_81 mv_X5_refused mp_X5_refused rfl ⟨leb rfl, leb rfl⟩ rfl (ltb rfl) g10 rfl (leb rfl) (leb rfl) (leb rfl) rfl (am_X5_refused hG h) (kkI fun v9 X8 h => ?_) (kxN KrI.no)
    refine aw_widen (cc' := 0) (ss' := 0) (leb rfl) (leb rfl) ?_
    refine aw_if_ne 61 21 dX5_keep_18 rfl rfl (fun c11 => ?_) (fun c11 => ?_)
    · replace h := h.1 c11
      exact aw_return dX5_keep_61 rfl (leb rfl) (leb rfl) ⟨rfl, h⟩
    · replace h := h.2 c11
      refine aw_iconst 22 (v := 0) dX5_keep_21 kI_0 rfl ?_
      refine aw_istore_n 23 (lv' := [(2, _), (0, _), (1, _)]) dX5_keep_22 rfl (ltb rfl) rfl rfl ?_
      exact aw_pick [1, 2, 0] rfl (aw_X5_keep_23 hG  h))
set_option maxRecDepth 20000 in
theorem aw_X5_goBack_40 {G : GG} (hG : G.1.stackTraces = false)  {l0 : Nat} {l1 : Int32} {l2 : Int32} {X : XH} {K : XH → Prop}  (h : w_X5_goBack_40  l0 l1 l2 X K) : AW G M_X5_goBack 40 [(0, .ref l0), (1, .int l1), (2, .int l2)] [] X 0 0 (KrV K) :=
  h (fun l0 l1 l2 X => AW G M_X5_goBack 40 [(0, .ref l0), (1, .int l1), (2, .int l2)] [] X 0 0 (KrV K)) (fun l0 l1 l2 X h => by
    refine aw_iload_n 41 dX5_goBack_40 rfl 2 rfl rfl ?_
    refine aw_sipush 44 (v := 371) dX5_goBack_41 kS_371 rfl ?_
    refine aw_icmp_ge 71 47 dX5_goBack_44 rfl rfl (fun c1 => ?_) (fun c1 => ?_)
    · replace h := h.1 c1
      exact aw_return dX5_goBack_71 rfl (leb rfl) (leb rfl) ⟨rfl, h⟩
    · replace h := h.2 c1
      refine aw_aload_n 48 dX5_goBack_47 rfl 0 rfl rfl ?_
      obtain ⟨g2, h⟩ := h
      obtain ⟨g3, h⟩ := h
      refine aw_getR 51 dX5_goBack_48 fl_RX5_7 rfl g2 g3 rfl ?_
      refine aw_iload_n 52 dX5_goBack_51 rfl 2 rfl rfl ?_
      refine aw_aload_n 53 dX5_goBack_52 rfl 0 rfl rfl ?_
      obtain ⟨g4, h⟩ := h
      refine aw_getR 56 dX5_goBack_53 fl_RX5_16 rfl g2 g4 rfl ?_
      refine aw_sipush 59 (v := 371) dX5_goBack_56 kS_371 rfl ?_
      refine aw_iload_n 60 dX5_goBack_59 rfl 1 rfl rfl ?_
      refine aw_imul 61 dX5_goBack_60 rfl ?_
      refine aw_iload_n 62 dX5_goBack_61 rfl 2 rfl rfl ?_
      refine aw_iadd 63 dX5_goBack_62 rfl ?_
      obtain ⟨g5, h⟩ := h
      obtain ⟨g6, h⟩ := h
      refine aw_iaload 64 dX5_goBack_63 g5 g6 rfl ?_
      obtain ⟨g7, h⟩ := h
      obtain ⟨g8, h⟩ := h
      refine aw_iastore 65 dX5_goBack_64 g7 g8 rfl ?_
      refine aw_iinc 68 (v := 1) (lv' := [(2, _), (0, _), (1, _)]) dX5_goBack_65 2 rfl kI_1 (ltb rfl) rfl rfl ?_
      refine aw_goto 40 dX5_goBack_68 rfl ?_
      exact aw_pick [1, 2, 0] rfl h)
set_option maxRecDepth 20000 in
theorem am_X5_goBack {G : GG} (hG : G.1.stackTraces = false) {l0 : Nat} {l1 : Int32} {X : XH} {K : XH → Prop} (h : w_X5_goBack l0 l1 X K) : AM G M_X5_goBack X [.ref l0, .int l1] (KrV K) := AM_of (by decide +kernel) rfl (leb rfl) hG (by
  show AW G M_X5_goBack 0 [(0, .ref l0), (1, .int l1)] [] X 0 0 _
  unfold w_X5_goBack at h
  refine aw_aload_n 1 dX5_goBack_0 rfl 0 rfl rfl ?_
  refine aw_iload_n 2 dX5_goBack_1 rfl 1 rfl rfl ?_
  refine aw_iconst 3 (v := 0) dX5_goBack_2 kI_0 rfl ?_
  refine aw_iconst 4 (v := 1) dX5_goBack_3 kI_1 rfl ?_
  refine aw_callS (M' := M_X5_in) 7 30 [.int _, .int _, .int _] [.ref _] dX5_goBack_4 lk_RX5_30 ms_X5_in mp_X5_in rfl ⟨leb rfl, leb rfl⟩ rfl (leb rfl) (leb rfl) (leb rfl) rfl (am_X5_in hG h) (kkI fun v2 X1 h => ?_) (kxN KrI.no)
  refine aw_widen (cc' := 0) (ss' := 0) (leb rfl) (leb rfl) ?_
  refine aw_if_ne 14 10 dX5_goBack_7 rfl rfl (fun c3 => ?_) (fun c3 => ?_)
  · replace h := h.1 c3
    refine aw_aload_n 15 dX5_goBack_14 rfl 0 rfl rfl ?_
    obtain ⟨g4, h⟩ := h
    obtain ⟨g5, h⟩ := h
    refine aw_getR 18 dX5_goBack_15 fl_RX5_19 rfl g4 g5 rfl ?_
    refine aw_iload_n 19 dX5_goBack_18 rfl 1 rfl rfl ?_
    obtain ⟨g6, h⟩ := h
    obtain ⟨g7, h⟩ := h
    refine aw_baload 20 dX5_goBack_19 g6 g7 rfl ?_
    refine aw_if_eq 27 23 dX5_goBack_20 rfl rfl (fun c8 => ?_) (fun c8 => ?_)
    · replace h := h.1 c8
      refine aw_iconst 28 (v := 2) dX5_goBack_27 kI_2 rfl ?_
      refine aw_callV (M' := M_X5_refused) 31 81 5 l0 [.int _] [] dX5_goBack_28 lk_RX5_81 mv_X5_refused mp_X5_refused rfl ⟨leb rfl, leb rfl⟩ rfl (ltb rfl) g4 rfl (leb rfl) (leb rfl) (leb rfl) rfl (am_X5_refused hG h) (kkI fun v10 X9 h => ?_) (kxN KrI.no)
      refine aw_widen (cc' := 0) (ss' := 0) (leb rfl) (leb rfl) ?_
      refine aw_if_ne 71 34 dX5_goBack_31 rfl rfl (fun c11 => ?_) (fun c11 => ?_)
      · replace h := h.1 c11
        exact aw_return dX5_goBack_71 rfl (leb rfl) (leb rfl) ⟨rfl, h⟩
      · replace h := h.2 c11
        refine aw_aload_n 35 dX5_goBack_34 rfl 0 rfl rfl ?_
        obtain ⟨g13, h⟩ := h
        refine aw_callV (M' := M_X5_saves) 38 84 5 l0 [] [] dX5_goBack_35 lk_RX5_84 mv_X5_saves mp_X5_saves rfl ⟨leb rfl, leb rfl⟩ rfl (ltb rfl) g13 rfl (leb rfl) (leb rfl) (leb rfl) rfl (am_X5_saves hG h) (kkV fun X12 h => ?_) (kxN KrV.no)
        refine aw_widen (cc' := 0) (ss' := 0) (leb rfl) (leb rfl) ?_
        refine aw_iconst 39 (v := 0) dX5_goBack_38 kI_0 rfl ?_
        refine aw_istore_n 40 (lv' := [(2, _), (0, _), (1, _)]) dX5_goBack_39 rfl (ltb rfl) rfl rfl ?_
        exact aw_pick [1, 2, 0] rfl (aw_X5_goBack_40 hG  h)
    · replace h := h.2 c8
      refine aw_iconst 24 (v := 0) dX5_goBack_23 kI_0 rfl ?_
      refine aw_goto 28 dX5_goBack_24 rfl ?_
      refine aw_callV (M' := M_X5_refused) 31 81 5 l0 [.int _] [] dX5_goBack_28 lk_RX5_81 mv_X5_refused mp_X5_refused rfl ⟨leb rfl, leb rfl⟩ rfl (ltb rfl) g4 rfl (leb rfl) (leb rfl) (leb rfl) rfl (am_X5_refused hG h) (kkI fun v15 X14 h => ?_) (kxN KrI.no)
      refine aw_widen (cc' := 0) (ss' := 0) (leb rfl) (leb rfl) ?_
      refine aw_if_ne 71 34 dX5_goBack_31 rfl rfl (fun c16 => ?_) (fun c16 => ?_)
      · replace h := h.1 c16
        exact aw_return dX5_goBack_71 rfl (leb rfl) (leb rfl) ⟨rfl, h⟩
      · replace h := h.2 c16
        refine aw_aload_n 35 dX5_goBack_34 rfl 0 rfl rfl ?_
        obtain ⟨g18, h⟩ := h
        refine aw_callV (M' := M_X5_saves) 38 84 5 l0 [] [] dX5_goBack_35 lk_RX5_84 mv_X5_saves mp_X5_saves rfl ⟨leb rfl, leb rfl⟩ rfl (ltb rfl) g18 rfl (leb rfl) (leb rfl) (leb rfl) rfl (am_X5_saves hG h) (kkV fun X17 h => ?_) (kxN KrV.no)
        refine aw_widen (cc' := 0) (ss' := 0) (leb rfl) (leb rfl) ?_
        refine aw_iconst 39 (v := 0) dX5_goBack_38 kI_0 rfl ?_
        refine aw_istore_n 40 (lv' := [(2, _), (0, _), (1, _)]) dX5_goBack_39 rfl (ltb rfl) rfl rfl ?_
        exact aw_pick [1, 2, 0] rfl (aw_X5_goBack_40 hG  h)
  · replace h := h.2 c3
    refine aw_iconst 11 (v := 1) dX5_goBack_10 kI_1 rfl ?_
    refine aw_goto 28 dX5_goBack_11 rfl ?_
    obtain ⟨g21, h⟩ := h
    refine aw_callV (M' := M_X5_refused) 31 81 5 l0 [.int _] [] dX5_goBack_28 lk_RX5_81 mv_X5_refused mp_X5_refused rfl ⟨leb rfl, leb rfl⟩ rfl (ltb rfl) g21 rfl (leb rfl) (leb rfl) (leb rfl) rfl (am_X5_refused hG h) (kkI fun v20 X19 h => ?_) (kxN KrI.no)
    refine aw_widen (cc' := 0) (ss' := 0) (leb rfl) (leb rfl) ?_
    refine aw_if_ne 71 34 dX5_goBack_31 rfl rfl (fun c22 => ?_) (fun c22 => ?_)
    · replace h := h.1 c22
      exact aw_return dX5_goBack_71 rfl (leb rfl) (leb rfl) ⟨rfl, h⟩
    · replace h := h.2 c22
      refine aw_aload_n 35 dX5_goBack_34 rfl 0 rfl rfl ?_
      obtain ⟨g24, h⟩ := h
      refine aw_callV (M' := M_X5_saves) 38 84 5 l0 [] [] dX5_goBack_35 lk_RX5_84 mv_X5_saves mp_X5_saves rfl ⟨leb rfl, leb rfl⟩ rfl (ltb rfl) g24 rfl (leb rfl) (leb rfl) (leb rfl) rfl (am_X5_saves hG h) (kkV fun X23 h => ?_) (kxN KrV.no)
      refine aw_widen (cc' := 0) (ss' := 0) (leb rfl) (leb rfl) ?_
      refine aw_iconst 39 (v := 0) dX5_goBack_38 kI_0 rfl ?_
      refine aw_istore_n 40 (lv' := [(2, _), (0, _), (1, _)]) dX5_goBack_39 rfl (ltb rfl) rfl rfl ?_
      exact aw_pick [1, 2, 0] rfl (aw_X5_goBack_40 hG  h))
set_option maxRecDepth 20000 in
theorem am_X1_popInto {G : GG} (hG : G.1.stackTraces = false) {l0 : Nat} {l1 : Nat} {X : XH} {K : XH → Prop} (h : w_X1_popInto l0 l1 X K) : AM G M_X1_popInto X [.ref l0, .ref l1] (KrV K) := AM_of (by decide +kernel) rfl (leb rfl) hG (by
  show AW G M_X1_popInto 0 [(0, .ref l0), (1, .ref l1)] [] X 0 0 _
  unfold w_X1_popInto at h
  refine aw_aload_n 1 dX1_popInto_0 rfl 0 rfl rfl ?_
  obtain ⟨g1, h⟩ := h
  refine aw_getI 4 dX1_popInto_1 fl_RX1_18 rfl g1 rfl ?_
  refine aw_if_le 36 7 dX1_popInto_4 rfl rfl (fun c2 => ?_) (fun c2 => ?_)
  · replace h := h.1 c2
    exact aw_return dX1_popInto_36 rfl (leb rfl) (leb rfl) ⟨rfl, h⟩
  · replace h := h.2 c2
    refine aw_aload_n 8 dX1_popInto_7 rfl 1 rfl rfl ?_
    refine aw_ifnull 11 dX1_popInto_8 rfl ?_
    refine aw_aload_n 12 dX1_popInto_11 rfl 0 rfl rfl ?_
    refine aw_dup 13 dX1_popInto_12 rfl rfl ?_
    refine aw_getI 16 dX1_popInto_13 fl_RX1_18 rfl g1 rfl ?_
    refine aw_iconst 17 (v := 1) dX1_popInto_16 kI_1 rfl ?_
    refine aw_isub 18 dX1_popInto_17 rfl ?_
    refine aw_putI 21 dX1_popInto_18 fl_RX1_18 rfl rfl rfl rfl g1 rfl ?_
    refine aw_aload_n 22 dX1_popInto_21 rfl 1 rfl rfl ?_
    refine aw_aload_n 23 dX1_popInto_22 rfl 0 rfl rfl ?_
    obtain ⟨g3, h⟩ := h
    refine aw_getR 26 dX1_popInto_23 fl_RX1_11 rfl g1 g3 rfl ?_
    refine aw_aload_n 27 dX1_popInto_26 rfl 0 rfl rfl ?_
    refine aw_getI 30 dX1_popInto_27 fl_RX1_18 rfl g1 rfl ?_
    refine aw_callSN (M' := M_X4_treatyAt) 33 25 [.ref _, .int _] [.ref _] dX1_popInto_30 (by decide) ms_X4_treatyAt mp_X4_treatyAt rfl ⟨leb rfl, leb rfl⟩ rfl (leb rfl) (leb rfl) (leb rfl) rfl (am_X4_treatyAt hG h) (kkR fun v5 X4 h => ?_) KrR.no
    refine aw_widen (cc' := 0) (ss' := 0) (leb rfl) (leb rfl) ?_
    obtain ⟨g7, h⟩ := h
    refine aw_callV (M' := M_X3_becomeLike) 36 29 3 l1 [.ref _] [] dX1_popInto_33 lk_RX1_29 mv_X3_becomeLike mp_X3_becomeLike rfl ⟨leb rfl, leb rfl⟩ rfl (ltb rfl) g7 rfl (leb rfl) (leb rfl) (leb rfl) rfl (am_X3_becomeLike hG h) (kkV fun X6 h => ?_) (kxN KrV.no)
    refine aw_widen (cc' := 0) (ss' := 0) (leb rfl) (leb rfl) ?_
    exact aw_return dX1_popInto_36 rfl (leb rfl) (leb rfl) ⟨rfl, h⟩)
set_option maxRecDepth 20000 in
theorem am_X4_undo {G : GG} (hG : G.1.stackTraces = false) {l0 : Nat} {X : XH} {K : XH → Prop} {KX : String → XH → Prop} (h : w_X4_undo l0 X K KX) : AM G M_X4_undo X [.ref l0] (KxT (KrV K) KX) := AM_of (by decide +kernel) rfl (leb rfl) hG (by
  show AW G M_X4_undo 0 [(0, .ref l0)] [] X 0 0 _
  unfold w_X4_undo at h
  refine aw_aload_n 1 dX4_undo_0 rfl 0 rfl rfl ?_
  obtain ⟨g1, h⟩ := h
  obtain ⟨g2, h⟩ := h
  refine aw_getR 4 dX4_undo_1 fl_RX4_19 rfl g1 g2 rfl ?_
  obtain ⟨g3, h⟩ := h
  refine aw_getI 7 dX4_undo_4 fl_RX4_277 rfl g3 rfl ?_
  refine aw_if_gt 21 10 dX4_undo_7 rfl rfl (fun c4 => ?_) (fun c4 => ?_)
  · replace h := h.1 c4
    refine aw_aload_n 22 dX4_undo_21 rfl 0 rfl rfl ?_
    refine aw_getR 25 dX4_undo_22 fl_RX4_19 rfl g1 g2 rfl ?_
    refine aw_aload_n 26 dX4_undo_25 rfl 0 rfl rfl ?_
    obtain ⟨g5, h⟩ := h
    refine aw_getR 29 dX4_undo_26 fl_RX4_10 rfl g1 g5 rfl ?_
    refine aw_callV (M' := M_X1_popInto) 32 280 1 (hR X l0 1) [.ref _] [] dX4_undo_29 lk_RX4_280 mv_X1_popInto mp_X1_popInto rfl ⟨leb rfl, leb rfl⟩ rfl (ltb rfl) g3 rfl (leb rfl) (leb rfl) (leb rfl) rfl (am_X1_popInto hG h) (kkV fun X6 h => ?_) (kxN KrV.no)
    refine aw_widen (cc' := 0) (ss' := 0) (leb rfl) (leb rfl) ?_
    exact aw_return dX4_undo_32 rfl (leb rfl) (leb rfl) (Or.inl ⟨rfl, h⟩)
  · replace h := h.2 c4
    exact aw_throw xcS 60 278 64 rfl th_xcS (by decide) (Or.inr ⟨dX4_undo_10, dX4_undo_13, dX4_undo_14, dX4_undo_17, dX4_undo_20⟩) rfl (ltb rfl) (leb rfl) (leb rfl) (leb rfl) (Or.inr ⟨_, rfl, h⟩))
set_option maxRecDepth 20000 in
theorem am_L_undo {G : GG} (hG : G.1.stackTraces = false) {l0 : Nat} {X : XH} {K : Int32 → XH → Prop} (h : w_L_undo l0 X K) : AM G M_L_undo X [.ref l0] (KrI K) := AM_ofH (by decide +kernel) (0, 4, 7, 17) [] rfl (leb rfl) hG (by
  show AW G M_L_undo 0 [(0, .ref l0)] [] X 0 0 _
  unfold w_L_undo at h
  refine aw_aload_n 1 dL_undo_0 rfl 0 rfl rfl ?_
  obtain ⟨g2, h⟩ := h
  refine aw_callV (M' := M_X4_undo) 4 71 4 l0 [] [] dL_undo_1 lk_RL_71 mv_X4_undo mp_X4_undo rfl ⟨leb rfl, leb rfl⟩ rfl (ltb rfl) g2 rfl (leb rfl) (leb rfl) (leb rfl) rfl (am_X4_undo hG h) (kkT (kkV fun X1 h => ?_)) (kxT KrV.no fun E X1 h => ?_)
  · refine aw_widen (cc' := 1) (ss' := 6) (leb rfl) (leb rfl) ?_
    refine aw_goto 10 dL_undo_4 rfl ?_
    refine aw_iconst 11 (v := 0) dL_undo_10 kI_0 rfl ?_
    exact aw_ireturn (ty := .int) dL_undo_11 rfl rfl (leb rfl) (leb rfl) ⟨_, rfl, h⟩
  · obtain ⟨hE, h⟩ := h
    rcases hE with rfl
    refine aw_atc (lv' := [(0, .ref _)]) [] (0, 4, 7, 17) [] rfl (fun z hz => nomatch hz) (by decide) (by decide) (tk3 (i := 63) (by decide +kernel) rfl) (by decide) 1 1 8 (Or.inl ⟨1, rfl, dL_undo_7, rfl⟩) (ltb rfl) rfl ?_
    refine aw_widen (cc' := 1) (ss' := 6) (leb rfl) (leb rfl) ?_
    replace h := h rfl
    refine aw_iconst 9 (v := 1) dL_undo_8 kI_1 rfl ?_
    exact aw_ireturn (ty := .int) dL_undo_9 rfl rfl (leb rfl) (leb rfl) ⟨_, rfl, h⟩)
set_option maxRecDepth 20000 in
theorem aw_X5_undo_31 {G : GG} (hG : G.1.stackTraces = false)  {l0 : Nat} {l1 : Int32} {X : XH} {K : XH → Prop}  (h : w_X5_undo_31  l0 l1 X K) : AW G M_X5_undo 31 [(0, .ref l0), (1, .int l1)] [] X 0 0 (KrV K) :=
  h (fun l0 l1 X => AW G M_X5_undo 31 [(0, .ref l0), (1, .int l1)] [] X 0 0 (KrV K)) (fun l0 l1 X h => by
    refine aw_iload_n 32 dX5_undo_31 rfl 1 rfl rfl ?_
    refine aw_sipush 35 (v := 371) dX5_undo_32 kS_371 rfl ?_
    refine aw_icmp_ge 65 38 dX5_undo_35 rfl rfl (fun c1 => ?_) (fun c1 => ?_)
    · replace h := h.1 c1
      exact aw_return dX5_undo_65 rfl (leb rfl) (leb rfl) ⟨rfl, h⟩
    · replace h := h.2 c1
      refine aw_aload_n 39 dX5_undo_38 rfl 0 rfl rfl ?_
      obtain ⟨g2, h⟩ := h
      obtain ⟨g3, h⟩ := h
      refine aw_getR 42 dX5_undo_39 fl_RX5_7 rfl g2 g3 rfl ?_
      refine aw_iload_n 43 dX5_undo_42 rfl 1 rfl rfl ?_
      refine aw_aload_n 44 dX5_undo_43 rfl 0 rfl rfl ?_
      obtain ⟨g4, h⟩ := h
      refine aw_getR 47 dX5_undo_44 fl_RX5_13 rfl g2 g4 rfl ?_
      refine aw_sipush 50 (v := 371) dX5_undo_47 kS_371 rfl ?_
      refine aw_aload_n 51 dX5_undo_50 rfl 0 rfl rfl ?_
      refine aw_getI 54 dX5_undo_51 fl_RX5_41 rfl g2 rfl ?_
      refine aw_imul 55 dX5_undo_54 rfl ?_
      refine aw_iload_n 56 dX5_undo_55 rfl 1 rfl rfl ?_
      refine aw_iadd 57 dX5_undo_56 rfl ?_
      obtain ⟨g5, h⟩ := h
      obtain ⟨g6, h⟩ := h
      refine aw_iaload 58 dX5_undo_57 g5 g6 rfl ?_
      obtain ⟨g7, h⟩ := h
      obtain ⟨g8, h⟩ := h
      refine aw_iastore 59 dX5_undo_58 g7 g8 rfl ?_
      refine aw_iinc 62 (v := 1) (lv' := [(1, _), (0, _)]) dX5_undo_59 1 rfl kI_1 (ltb rfl) rfl rfl ?_
      refine aw_goto 31 dX5_undo_62 rfl ?_
      exact aw_pick [1, 0] rfl h)
set_option maxRecDepth 20000 in
theorem aw_X5_undo_13 {G : GG} (hG : G.1.stackTraces = false)  {l0 : Nat} {s0 : Nat} {s1 : Int32} {X : XH} {K : XH → Prop}  (h : w_X5_undo_13  l0 s0 s1 X K) : AW G M_X5_undo 13 [(0, .ref l0)] [.int s1, .ref s0] X 0 0 (KrV K) := by
  unfold w_X5_undo_13 at h
  obtain ⟨g3, h⟩ := h
  refine aw_callV (M' := M_X5_refused) 16 81 5 s0 [.int _] [] dX5_undo_13 lk_RX5_81 mv_X5_refused mp_X5_refused rfl ⟨leb rfl, leb rfl⟩ rfl (ltb rfl) g3 rfl (leb rfl) (leb rfl) (leb rfl) rfl (am_X5_refused hG h) (kkI fun v2 X1 h => ?_) (kxN KrI.no)
  refine aw_widen (cc' := 0) (ss' := 0) (leb rfl) (leb rfl) ?_
  refine aw_if_ne 65 19 dX5_undo_16 rfl rfl (fun c4 => ?_) (fun c4 => ?_)
  · replace h := h.1 c4
    exact aw_return dX5_undo_65 rfl (leb rfl) (leb rfl) ⟨rfl, h⟩
  · replace h := h.2 c4
    refine aw_aload_n 20 dX5_undo_19 rfl 0 rfl rfl ?_
    refine aw_dup 21 dX5_undo_20 rfl rfl ?_
    obtain ⟨g5, h⟩ := h
    refine aw_getI 24 dX5_undo_21 fl_RX5_41 rfl g5 rfl ?_
    refine aw_iconst 25 (v := 1) dX5_undo_24 kI_1 rfl ?_
    refine aw_isub 26 dX5_undo_25 rfl ?_
    refine aw_putI 29 dX5_undo_26 fl_RX5_41 rfl rfl rfl rfl g5 rfl ?_
    refine aw_iconst 30 (v := 0) dX5_undo_29 kI_0 rfl ?_
    refine aw_istore_n 31 (lv' := [(1, _), (0, _)]) dX5_undo_30 rfl (ltb rfl) rfl rfl ?_
    exact aw_pick [1, 0] rfl (aw_X5_undo_31 hG  h)
set_option maxRecDepth 20000 in
theorem am_X5_undo {G : GG} (hG : G.1.stackTraces = false) {l0 : Nat} {X : XH} {K : XH → Prop} (h : w_X5_undo l0 X K) : AM G M_X5_undo X [.ref l0] (KrV K) := AM_of (by decide +kernel) rfl (leb rfl) hG (by
  show AW G M_X5_undo 0 [(0, .ref l0)] [] X 0 0 _
  unfold w_X5_undo at h
  refine aw_aload_n 1 dX5_undo_0 rfl 0 rfl rfl ?_
  refine aw_aload_n 2 dX5_undo_1 rfl 0 rfl rfl ?_
  obtain ⟨g1, h⟩ := h
  refine aw_getI 5 dX5_undo_2 fl_RX5_41 rfl g1 rfl ?_
  refine aw_if_ne 12 8 dX5_undo_5 rfl rfl (fun c2 => ?_) (fun c2 => ?_)
  · replace h := h.1 c2
    refine aw_iconst 13 (v := 0) dX5_undo_12 kI_0 rfl ?_
    exact aw_pick [0] rfl (aw_X5_undo_13 hG  h)
  · replace h := h.2 c2
    refine aw_iconst 9 (v := 1) dX5_undo_8 kI_1 rfl ?_
    refine aw_goto 13 dX5_undo_9 rfl ?_
    exact aw_pick [0] rfl (aw_X5_undo_13 hG  h))
set_option maxRecDepth 20000 in
theorem am_X4_savedStates {G : GG} (hG : G.1.stackTraces = false) {l0 : Nat} {X : XH} {K : Int32 → XH → Prop} (h : w_X4_savedStates l0 X K) : AM G M_X4_savedStates X [.ref l0] (KrI K) := AM_of (by decide +kernel) rfl (leb rfl) hG (by
  show AW G M_X4_savedStates 0 [(0, .ref l0)] [] X 0 0 _
  unfold w_X4_savedStates at h
  refine aw_aload_n 1 dX4_savedStates_0 rfl 0 rfl rfl ?_
  obtain ⟨g1, h⟩ := h
  obtain ⟨g2, h⟩ := h
  refine aw_getR 4 dX4_savedStates_1 fl_RX4_19 rfl g1 g2 rfl ?_
  obtain ⟨g3, h⟩ := h
  refine aw_getI 7 dX4_savedStates_4 fl_RX4_277 rfl g3 rfl ?_
  exact aw_ireturn (ty := .int) dX4_savedStates_7 rfl rfl (leb rfl) (leb rfl) ⟨_, rfl, h⟩)
set_option maxRecDepth 20000 in
theorem am_X5_told {G : GG} (hG : G.1.stackTraces = false) {l0 : Nat} {l1 : Int32} {X : XH} {K : Int32 → XH → Prop} (h : w_X5_told l0 l1 X K) : AM G M_X5_told X [.ref l0, .int l1] (KrI K) := AM_of (by decide +kernel) rfl (leb rfl) hG (by
  show AW G M_X5_told 0 [(0, .ref l0), (1, .int l1)] [] X 0 0 _
  unfold w_X5_told at h
  refine aw_aload_n 1 dX5_told_0 rfl 0 rfl rfl ?_
  refine aw_iconst 2 (v := 0) dX5_told_1 kI_0 rfl ?_
  obtain ⟨g1, h⟩ := h
  refine aw_putI 5 dX5_told_2 fl_RX5_26 rfl rfl rfl rfl g1 rfl ?_
  refine aw_iload_n 6 dX5_told_5 rfl 1 rfl rfl ?_
  exact aw_ireturn (ty := .int) dX5_told_6 rfl rfl (leb rfl) (leb rfl) ⟨_, rfl, h⟩)
set_option maxRecDepth 20000 in
theorem am_X5_savedStates {G : GG} (hG : G.1.stackTraces = false) {l0 : Nat} {X : XH} {K : Int32 → XH → Prop} (h : w_X5_savedStates l0 X K) : AM G M_X5_savedStates X [.ref l0] (KrI K) := AM_of (by decide +kernel) rfl (leb rfl) hG (by
  show AW G M_X5_savedStates 0 [(0, .ref l0)] [] X 0 0 _
  unfold w_X5_savedStates at h
  refine aw_aload_n 1 dX5_savedStates_0 rfl 0 rfl rfl ?_
  refine aw_aload_n 2 dX5_savedStates_1 rfl 0 rfl rfl ?_
  obtain ⟨g1, h⟩ := h
  refine aw_getI 5 dX5_savedStates_2 fl_RX5_41 rfl g1 rfl ?_
  refine aw_callV (M' := M_X5_told) 8 167 5 l0 [.int _] [] dX5_savedStates_5 lk_RX5_167 mv_X5_told mp_X5_told rfl ⟨leb rfl, leb rfl⟩ rfl (ltb rfl) g1 rfl (leb rfl) (leb rfl) (leb rfl) rfl (am_X5_told hG h) (kkI fun v3 X2 h => ?_) (kxN KrI.no)
  refine aw_widen (cc' := 0) (ss' := 0) (leb rfl) (leb rfl) ?_
  exact aw_ireturn (ty := .int) dX5_savedStates_8 rfl rfl (leb rfl) (leb rfl) ⟨_, rfl, h⟩)
set_option maxRecDepth 20000 in
theorem am_X4_clauses {G : GG} (hG : G.1.stackTraces = false) {l0 : Nat} {X : XH} {K : Int32 → XH → Prop} (h : w_X4_clauses l0 X K) : AM G M_X4_clauses X [.ref l0] (KrI K) := AM_of (by decide +kernel) rfl (leb rfl) hG (by
  show AW G M_X4_clauses 0 [(0, .ref l0)] [] X 0 0 _
  unfold w_X4_clauses at h
  refine aw_aload_n 1 dX4_clauses_0 rfl 0 rfl rfl ?_
  obtain ⟨g1, h⟩ := h
  obtain ⟨g2, h⟩ := h
  refine aw_getR 4 dX4_clauses_1 fl_RX4_10 rfl g1 g2 rfl ?_
  obtain ⟨g3, h⟩ := h
  refine aw_getI 7 dX4_clauses_4 fl_RX4_56 rfl g3 rfl ?_
  exact aw_ireturn (ty := .int) dX4_clauses_7 rfl rfl (leb rfl) (leb rfl) ⟨_, rfl, h⟩)
set_option maxRecDepth 20000 in
theorem am_X5_clauses {G : GG} (hG : G.1.stackTraces = false) {l0 : Nat} {X : XH} {K : Int32 → XH → Prop} (h : w_X5_clauses l0 X K) : AM G M_X5_clauses X [.ref l0] (KrI K) := AM_of (by decide +kernel) rfl (leb rfl) hG (by
  show AW G M_X5_clauses 0 [(0, .ref l0)] [] X 0 0 _
  unfold w_X5_clauses at h
  refine aw_aload_n 1 dX5_clauses_0 rfl 0 rfl rfl ?_
  refine aw_aload_n 2 dX5_clauses_1 rfl 0 rfl rfl ?_
  obtain ⟨g1, h⟩ := h
  obtain ⟨g2, h⟩ := h
  refine aw_getR 5 dX5_clauses_2 fl_RX5_7 rfl g1 g2 rfl ?_
  refine aw_sipush 8 (v := 366) dX5_clauses_5 kS_366 rfl ?_
  obtain ⟨g3, h⟩ := h
  obtain ⟨g4, h⟩ := h
  refine aw_iaload 9 dX5_clauses_8 g3 g4 rfl ?_
  refine aw_callV (M' := M_X5_told) 12 167 5 l0 [.int _] [] dX5_clauses_9 lk_RX5_167 mv_X5_told mp_X5_told rfl ⟨leb rfl, leb rfl⟩ rfl (ltb rfl) g1 rfl (leb rfl) (leb rfl) (leb rfl) rfl (am_X5_told hG h) (kkI fun v6 X5 h => ?_) (kxN KrI.no)
  refine aw_widen (cc' := 0) (ss' := 0) (leb rfl) (leb rfl) ?_
  exact aw_ireturn (ty := .int) dX5_clauses_12 rfl rfl (leb rfl) (leb rfl) ⟨_, rfl, h⟩)
set_option maxRecDepth 20000 in
theorem am_X4_reelOf {G : GG} (hG : G.1.stackTraces = false) {l0 : Nat} {l1 : Int32} {X : XH} {K : Int32 → XH → Prop} {KX : String → XH → Prop} (h : w_X4_reelOf l0 l1 X K KX) : AM G M_X4_reelOf X [.ref l0, .int l1] (KxT (KrI K) KX) := AM_of (by decide +kernel) rfl (leb rfl) hG (by
  show AW G M_X4_reelOf 0 [(0, .ref l0), (1, .int l1)] [] X 0 0 _
  unfold w_X4_reelOf at h
  refine aw_aload_n 1 dX4_reelOf_0 rfl 0 rfl rfl ?_
  refine aw_iload_n 2 dX4_reelOf_1 rfl 1 rfl rfl ?_
  obtain ⟨g2, h⟩ := h
  refine aw_callV (M' := M_X4_checkClause) 5 75 4 l0 [.int _] [] dX4_reelOf_2 lk_RX4_75 mv_X4_checkClause mp_X4_checkClause rfl ⟨leb rfl, leb rfl⟩ rfl (ltb rfl) g2 rfl (leb rfl) (leb rfl) (leb rfl) rfl (am_X4_checkClause hG h) (kkT (kkV fun X1 h => ?_)) (kxT KrV.no fun E X h => at_out rfl (leb rfl) (leb rfl) (Or.inr ⟨_, rfl, h⟩))
  refine aw_widen (cc' := 1) (ss' := 6) (leb rfl) (leb rfl) ?_
  refine aw_aload_n 6 dX4_reelOf_5 rfl 0 rfl rfl ?_
  obtain ⟨g3, h⟩ := h
  obtain ⟨g4, h⟩ := h
  refine aw_getR 9 dX4_reelOf_6 fl_RX4_10 rfl g3 g4 rfl ?_
  refine aw_iload_n 10 dX4_reelOf_9 rfl 1 rfl rfl ?_
  obtain ⟨g7, h⟩ := h
  refine aw_callV (M' := M_X3_reelAt) 13 104 3 (hR X1 l0 0) [.int _] [] dX4_reelOf_10 lk_RX4_104 mv_X3_reelAt mp_X3_reelAt rfl ⟨leb rfl, leb rfl⟩ rfl (ltb rfl) g7 rfl (leb rfl) (leb rfl) (leb rfl) rfl (am_X3_reelAt hG h) (kkI fun v6 X5 h => ?_) (kxN KrI.no)
  refine aw_widen (cc' := 1) (ss' := 6) (leb rfl) (leb rfl) ?_
  exact aw_ireturn (ty := .int) dX4_reelOf_13 rfl rfl (leb rfl) (leb rfl) (Or.inl ⟨_, rfl, h⟩))
set_option maxRecDepth 20000 in
theorem am_L_reelOf {G : GG} (hG : G.1.stackTraces = false) {l0 : Nat} {l1 : Int32} {l2 : Nat} {X : XH} {K : Int32 → XH → Prop} (h : w_L_reelOf l0 l1 l2 X K) : AM G M_L_reelOf X [.ref l0, .int l1, .ref l2] (KrI K) := AM_ofH (by decide +kernel) (0, 9, 12, 13) [] rfl (leb rfl) hG (by
  show AW G M_L_reelOf 0 [(0, .ref l0), (1, .int l1), (2, .ref l2)] [] X 0 0 _
  unfold w_L_reelOf at h
  refine aw_aload_n 1 dL_reelOf_0 rfl 2 rfl rfl ?_
  refine aw_iconst 2 (v := 0) dL_reelOf_1 kI_0 rfl ?_
  refine aw_aload_n 3 dL_reelOf_2 rfl 0 rfl rfl ?_
  refine aw_iload_n 4 dL_reelOf_3 rfl 1 rfl rfl ?_
  obtain ⟨g3, h⟩ := h
  refine aw_callV (M' := M_X4_reelOf) 7 74 4 l0 [.int _] [.int _, .ref _] dL_reelOf_4 lk_RL_74 mv_X4_reelOf mp_X4_reelOf rfl ⟨leb rfl, leb rfl⟩ rfl (ltb rfl) g3 rfl (leb rfl) (leb rfl) (leb rfl) rfl (am_X4_reelOf hG h) (kkT (kkI fun v2 X1 h => ?_)) (kxT KrI.no fun E X1 h => ?_)
  · refine aw_widen (cc' := 1) (ss' := 6) (leb rfl) (leb rfl) ?_
    refine aw_i2l 8 dL_reelOf_7 rfl ?_
    obtain ⟨g4, h⟩ := h
    obtain ⟨g5, h⟩ := h
    refine aw_lastore 9 dL_reelOf_8 g4 g5 rfl ?_
    refine aw_goto 15 dL_reelOf_9 rfl ?_
    refine aw_iconst 16 (v := 0) dL_reelOf_15 kI_0 rfl ?_
    exact aw_ireturn (ty := .int) dL_reelOf_16 rfl rfl (leb rfl) (leb rfl) ⟨_, rfl, h⟩
  · obtain ⟨hE, h⟩ := h
    rcases hE with rfl
    refine aw_atc (lv' := [(0, .ref _), (1, .int _), (2, .ref _)]) [] (0, 9, 12, 13) [] rfl (fun z hz => nomatch hz) (by decide) (by decide) (tk3 (i := 61) (by decide +kernel) rfl) (by decide) 3 1 13 (Or.inl ⟨3, rfl, dL_reelOf_12, rfl⟩) (ltb rfl) rfl ?_
    refine aw_widen (cc' := 1) (ss' := 6) (leb rfl) (leb rfl) ?_
    replace h := h rfl
    refine aw_iconst 14 (v := 1) dL_reelOf_13 kI_1 rfl ?_
    exact aw_ireturn (ty := .int) dL_reelOf_14 rfl rfl (leb rfl) (leb rfl) ⟨_, rfl, h⟩)
set_option maxRecDepth 20000 in
theorem aw_X5_ofClause_14 {G : GG} (hG : G.1.stackTraces = false)  {l0 : Nat} {l1 : Int32} {l2 : Int32} {s0 : Nat} {s1 : Int32} {X : XH} {K : Int32 → XH → Prop}  (h : w_X5_ofClause_14  l0 l1 l2 s0 s1 X K) : AW G M_X5_ofClause 14 [(0, .ref l0), (1, .int l1), (2, .int l2)] [.int s1, .ref s0] X 0 0 (KrI K) := by
  unfold w_X5_ofClause_14 at h
  obtain ⟨g3, h⟩ := h
  refine aw_callV (M' := M_X5_refused) 17 81 5 s0 [.int _] [] dX5_ofClause_14 lk_RX5_81 mv_X5_refused mp_X5_refused rfl ⟨leb rfl, leb rfl⟩ rfl (ltb rfl) g3 rfl (leb rfl) (leb rfl) (leb rfl) rfl (am_X5_refused hG h) (kkI fun v2 X1 h => ?_) (kxN KrI.no)
  refine aw_widen (cc' := 0) (ss' := 0) (leb rfl) (leb rfl) ?_
  refine aw_if_eq 24 20 dX5_ofClause_17 rfl rfl (fun c4 => ?_) (fun c4 => ?_)
  · replace h := h.1 c4
    refine aw_aload_n 25 dX5_ofClause_24 rfl 0 rfl rfl ?_
    obtain ⟨g5, h⟩ := h
    obtain ⟨g6, h⟩ := h
    refine aw_getR 28 dX5_ofClause_25 fl_RX5_7 rfl g5 g6 rfl ?_
    refine aw_iload_n 29 dX5_ofClause_28 rfl 1 rfl rfl ?_
    refine aw_iload_n 30 dX5_ofClause_29 rfl 2 rfl rfl ?_
    refine aw_callS (M' := M_X5_at) 33 44 [.int _, .int _] [.ref _] dX5_ofClause_30 lk_RX5_44 ms_X5_at mp_X5_at rfl ⟨leb rfl, leb rfl⟩ rfl (leb rfl) (leb rfl) (leb rfl) rfl (am_X5_at hG h) (kkI fun v8 X7 h => ?_) (kxN KrI.no)
    refine aw_widen (cc' := 0) (ss' := 0) (leb rfl) (leb rfl) ?_
    obtain ⟨g9, h⟩ := h
    obtain ⟨g10, h⟩ := h
    refine aw_iaload 34 dX5_ofClause_33 g9 g10 rfl ?_
    exact aw_ireturn (ty := .int) dX5_ofClause_34 rfl rfl (leb rfl) (leb rfl) ⟨_, rfl, h⟩
  · replace h := h.2 c4
    refine aw_iconst 21 (v := 0) dX5_ofClause_20 kI_0 rfl ?_
    refine aw_goto 34 dX5_ofClause_21 rfl ?_
    exact aw_ireturn (ty := .int) dX5_ofClause_34 rfl rfl (leb rfl) (leb rfl) ⟨_, rfl, h⟩
set_option maxRecDepth 20000 in
theorem am_X5_ofClause {G : GG} (hG : G.1.stackTraces = false) {l0 : Nat} {l1 : Int32} {l2 : Int32} {X : XH} {K : Int32 → XH → Prop} (h : w_X5_ofClause l0 l1 l2 X K) : AM G M_X5_ofClause X [.ref l0, .int l1, .int l2] (KrI K) := AM_of (by decide +kernel) rfl (leb rfl) hG (by
  show AW G M_X5_ofClause 0 [(0, .ref l0), (1, .int l1), (2, .int l2)] [] X 0 0 _
  unfold w_X5_ofClause at h
  refine aw_aload_n 1 dX5_ofClause_0 rfl 0 rfl rfl ?_
  refine aw_aload_n 2 dX5_ofClause_1 rfl 0 rfl rfl ?_
  refine aw_iload_n 3 dX5_ofClause_2 rfl 1 rfl rfl ?_
  obtain ⟨g3, h⟩ := h
  refine aw_callV (M' := M_X5_isClause) 6 34 5 l0 [.int _] [.ref _] dX5_ofClause_3 lk_RX5_34 mv_X5_isClause mp_X5_isClause rfl ⟨leb rfl, leb rfl⟩ rfl (ltb rfl) g3 rfl (leb rfl) (leb rfl) (leb rfl) rfl (am_X5_isClause hG h) (kkI fun v2 X1 h => ?_) (kxN KrI.no)
  refine aw_widen (cc' := 0) (ss' := 0) (leb rfl) (leb rfl) ?_
  refine aw_if_eq 13 9 dX5_ofClause_6 rfl rfl (fun c4 => ?_) (fun c4 => ?_)
  · replace h := h.1 c4
    refine aw_iconst 14 (v := 1) dX5_ofClause_13 kI_1 rfl ?_
    exact aw_pick [0, 1, 2] rfl (aw_X5_ofClause_14 hG  h)
  · replace h := h.2 c4
    refine aw_iconst 10 (v := 0) dX5_ofClause_9 kI_0 rfl ?_
    refine aw_goto 14 dX5_ofClause_10 rfl ?_
    exact aw_pick [0, 1, 2] rfl (aw_X5_ofClause_14 hG  h))
set_option maxRecDepth 20000 in
theorem am_X5_reelOf {G : GG} (hG : G.1.stackTraces = false) {l0 : Nat} {l1 : Int32} {X : XH} {K : Int32 → XH → Prop} (h : w_X5_reelOf l0 l1 X K) : AM G M_X5_reelOf X [.ref l0, .int l1] (KrI K) := AM_of (by decide +kernel) rfl (leb rfl) hG (by
  show AW G M_X5_reelOf 0 [(0, .ref l0), (1, .int l1)] [] X 0 0 _
  unfold w_X5_reelOf at h
  refine aw_aload_n 1 dX5_reelOf_0 rfl 0 rfl rfl ?_
  refine aw_iload_n 2 dX5_reelOf_1 rfl 1 rfl rfl ?_
  refine aw_iconst 3 (v := 0) dX5_reelOf_2 kI_0 rfl ?_
  obtain ⟨g3, h⟩ := h
  refine aw_callV (M' := M_X5_ofClause) 6 170 5 l0 [.int _, .int _] [] dX5_reelOf_3 lk_RX5_170 mv_X5_ofClause mp_X5_ofClause rfl ⟨leb rfl, leb rfl⟩ rfl (ltb rfl) g3 rfl (leb rfl) (leb rfl) (leb rfl) rfl (am_X5_ofClause hG h) (kkI fun v2 X1 h => ?_) (kxN KrI.no)
  refine aw_widen (cc' := 0) (ss' := 0) (leb rfl) (leb rfl) ?_
  exact aw_ireturn (ty := .int) dX5_reelOf_6 rfl rfl (leb rfl) (leb rfl) ⟨_, rfl, h⟩)
set_option maxRecDepth 20000 in
theorem am_X4_speakerOf {G : GG} (hG : G.1.stackTraces = false) {l0 : Nat} {l1 : Int32} {X : XH} {K : Int32 → XH → Prop} {KX : String → XH → Prop} (h : w_X4_speakerOf l0 l1 X K KX) : AM G M_X4_speakerOf X [.ref l0, .int l1] (KxT (KrI K) KX) := AM_of (by decide +kernel) rfl (leb rfl) hG (by
  show AW G M_X4_speakerOf 0 [(0, .ref l0), (1, .int l1)] [] X 0 0 _
  unfold w_X4_speakerOf at h
  refine aw_aload_n 1 dX4_speakerOf_0 rfl 0 rfl rfl ?_
  refine aw_iload_n 2 dX4_speakerOf_1 rfl 1 rfl rfl ?_
  obtain ⟨g2, h⟩ := h
  refine aw_callV (M' := M_X4_checkClause) 5 75 4 l0 [.int _] [] dX4_speakerOf_2 lk_RX4_75 mv_X4_checkClause mp_X4_checkClause rfl ⟨leb rfl, leb rfl⟩ rfl (ltb rfl) g2 rfl (leb rfl) (leb rfl) (leb rfl) rfl (am_X4_checkClause hG h) (kkT (kkV fun X1 h => ?_)) (kxT KrV.no fun E X h => at_out rfl (leb rfl) (leb rfl) (Or.inr ⟨_, rfl, h⟩))
  refine aw_widen (cc' := 1) (ss' := 6) (leb rfl) (leb rfl) ?_
  refine aw_aload_n 6 dX4_speakerOf_5 rfl 0 rfl rfl ?_
  obtain ⟨g3, h⟩ := h
  obtain ⟨g4, h⟩ := h
  refine aw_getR 9 dX4_speakerOf_6 fl_RX4_10 rfl g3 g4 rfl ?_
  refine aw_iload_n 10 dX4_speakerOf_9 rfl 1 rfl rfl ?_
  obtain ⟨g7, h⟩ := h
  refine aw_callV (M' := M_X3_speakerAt) 13 172 3 (hR X1 l0 0) [.int _] [] dX4_speakerOf_10 lk_RX4_172 mv_X3_speakerAt mp_X3_speakerAt rfl ⟨leb rfl, leb rfl⟩ rfl (ltb rfl) g7 rfl (leb rfl) (leb rfl) (leb rfl) rfl (am_X3_speakerAt hG h) (kkI fun v6 X5 h => ?_) (kxN KrI.no)
  refine aw_widen (cc' := 1) (ss' := 6) (leb rfl) (leb rfl) ?_
  exact aw_ireturn (ty := .int) dX4_speakerOf_13 rfl rfl (leb rfl) (leb rfl) (Or.inl ⟨_, rfl, h⟩))
set_option maxRecDepth 20000 in
theorem am_L_speakerOf {G : GG} (hG : G.1.stackTraces = false) {l0 : Nat} {l1 : Int32} {l2 : Nat} {X : XH} {K : Int32 → XH → Prop} (h : w_L_speakerOf l0 l1 l2 X K) : AM G M_L_speakerOf X [.ref l0, .int l1, .ref l2] (KrI K) := AM_ofH (by decide +kernel) (0, 9, 12, 13) [] rfl (leb rfl) hG (by
  show AW G M_L_speakerOf 0 [(0, .ref l0), (1, .int l1), (2, .ref l2)] [] X 0 0 _
  unfold w_L_speakerOf at h
  refine aw_aload_n 1 dL_speakerOf_0 rfl 2 rfl rfl ?_
  refine aw_iconst 2 (v := 0) dL_speakerOf_1 kI_0 rfl ?_
  refine aw_aload_n 3 dL_speakerOf_2 rfl 0 rfl rfl ?_
  refine aw_iload_n 4 dL_speakerOf_3 rfl 1 rfl rfl ?_
  obtain ⟨g3, h⟩ := h
  refine aw_callV (M' := M_X4_speakerOf) 7 77 4 l0 [.int _] [.int _, .ref _] dL_speakerOf_4 lk_RL_77 mv_X4_speakerOf mp_X4_speakerOf rfl ⟨leb rfl, leb rfl⟩ rfl (ltb rfl) g3 rfl (leb rfl) (leb rfl) (leb rfl) rfl (am_X4_speakerOf hG h) (kkT (kkI fun v2 X1 h => ?_)) (kxT KrI.no fun E X1 h => ?_)
  · refine aw_widen (cc' := 1) (ss' := 6) (leb rfl) (leb rfl) ?_
    refine aw_i2l 8 dL_speakerOf_7 rfl ?_
    obtain ⟨g4, h⟩ := h
    obtain ⟨g5, h⟩ := h
    refine aw_lastore 9 dL_speakerOf_8 g4 g5 rfl ?_
    refine aw_goto 15 dL_speakerOf_9 rfl ?_
    refine aw_iconst 16 (v := 0) dL_speakerOf_15 kI_0 rfl ?_
    exact aw_ireturn (ty := .int) dL_speakerOf_16 rfl rfl (leb rfl) (leb rfl) ⟨_, rfl, h⟩
  · obtain ⟨hE, h⟩ := h
    rcases hE with rfl
    refine aw_atc (lv' := [(0, .ref _), (1, .int _), (2, .ref _)]) [] (0, 9, 12, 13) [] rfl (fun z hz => nomatch hz) (by decide) (by decide) (tk3 (i := 61) (by decide +kernel) rfl) (by decide) 3 1 13 (Or.inl ⟨3, rfl, dL_speakerOf_12, rfl⟩) (ltb rfl) rfl ?_
    refine aw_widen (cc' := 1) (ss' := 6) (leb rfl) (leb rfl) ?_
    replace h := h rfl
    refine aw_iconst 14 (v := 1) dL_speakerOf_13 kI_1 rfl ?_
    exact aw_ireturn (ty := .int) dL_speakerOf_14 rfl rfl (leb rfl) (leb rfl) ⟨_, rfl, h⟩)
set_option maxRecDepth 20000 in
theorem am_X5_speakerOf {G : GG} (hG : G.1.stackTraces = false) {l0 : Nat} {l1 : Int32} {X : XH} {K : Int32 → XH → Prop} (h : w_X5_speakerOf l0 l1 X K) : AM G M_X5_speakerOf X [.ref l0, .int l1] (KrI K) := AM_of (by decide +kernel) rfl (leb rfl) hG (by
  show AW G M_X5_speakerOf 0 [(0, .ref l0), (1, .int l1)] [] X 0 0 _
  unfold w_X5_speakerOf at h
  refine aw_aload_n 1 dX5_speakerOf_0 rfl 0 rfl rfl ?_
  refine aw_iload_n 2 dX5_speakerOf_1 rfl 1 rfl rfl ?_
  refine aw_iconst 3 (v := 1) dX5_speakerOf_2 kI_1 rfl ?_
  obtain ⟨g3, h⟩ := h
  refine aw_callV (M' := M_X5_ofClause) 6 170 5 l0 [.int _, .int _] [] dX5_speakerOf_3 lk_RX5_170 mv_X5_ofClause mp_X5_ofClause rfl ⟨leb rfl, leb rfl⟩ rfl (ltb rfl) g3 rfl (leb rfl) (leb rfl) (leb rfl) rfl (am_X5_ofClause hG h) (kkI fun v2 X1 h => ?_) (kxN KrI.no)
  refine aw_widen (cc' := 0) (ss' := 0) (leb rfl) (leb rfl) ?_
  exact aw_ireturn (ty := .int) dX5_speakerOf_6 rfl rfl (leb rfl) (leb rfl) ⟨_, rfl, h⟩)
set_option maxRecDepth 20000 in
theorem am_X4_lipsOf {G : GG} (hG : G.1.stackTraces = false) {l0 : Nat} {l1 : Int32} {X : XH} {K : Int32 → XH → Prop} {KX : String → XH → Prop} (h : w_X4_lipsOf l0 l1 X K KX) : AM G M_X4_lipsOf X [.ref l0, .int l1] (KxT (KrI K) KX) := AM_of (by decide +kernel) rfl (leb rfl) hG (by
  show AW G M_X4_lipsOf 0 [(0, .ref l0), (1, .int l1)] [] X 0 0 _
  unfold w_X4_lipsOf at h
  refine aw_aload_n 1 dX4_lipsOf_0 rfl 0 rfl rfl ?_
  refine aw_iload_n 2 dX4_lipsOf_1 rfl 1 rfl rfl ?_
  obtain ⟨g2, h⟩ := h
  refine aw_callV (M' := M_X4_checkClause) 5 75 4 l0 [.int _] [] dX4_lipsOf_2 lk_RX4_75 mv_X4_checkClause mp_X4_checkClause rfl ⟨leb rfl, leb rfl⟩ rfl (ltb rfl) g2 rfl (leb rfl) (leb rfl) (leb rfl) rfl (am_X4_checkClause hG h) (kkT (kkV fun X1 h => ?_)) (kxT KrV.no fun E X h => at_out rfl (leb rfl) (leb rfl) (Or.inr ⟨_, rfl, h⟩))
  refine aw_widen (cc' := 1) (ss' := 6) (leb rfl) (leb rfl) ?_
  refine aw_aload_n 6 dX4_lipsOf_5 rfl 0 rfl rfl ?_
  obtain ⟨g3, h⟩ := h
  obtain ⟨g4, h⟩ := h
  refine aw_getR 9 dX4_lipsOf_6 fl_RX4_10 rfl g3 g4 rfl ?_
  refine aw_iload_n 10 dX4_lipsOf_9 rfl 1 rfl rfl ?_
  obtain ⟨g7, h⟩ := h
  refine aw_callV (M' := M_X3_lipsAt) 13 88 3 (hR X1 l0 0) [.int _] [] dX4_lipsOf_10 lk_RX4_88 mv_X3_lipsAt mp_X3_lipsAt rfl ⟨leb rfl, leb rfl⟩ rfl (ltb rfl) g7 rfl (leb rfl) (leb rfl) (leb rfl) rfl (am_X3_lipsAt hG h) (kkI fun v6 X5 h => ?_) (kxN KrI.no)
  refine aw_widen (cc' := 1) (ss' := 6) (leb rfl) (leb rfl) ?_
  exact aw_ireturn (ty := .int) dX4_lipsOf_13 rfl rfl (leb rfl) (leb rfl) (Or.inl ⟨_, rfl, h⟩))
set_option maxRecDepth 20000 in
theorem am_L_lipsOf {G : GG} (hG : G.1.stackTraces = false) {l0 : Nat} {l1 : Int32} {l2 : Nat} {X : XH} {K : Int32 → XH → Prop} (h : w_L_lipsOf l0 l1 l2 X K) : AM G M_L_lipsOf X [.ref l0, .int l1, .ref l2] (KrI K) := AM_ofH (by decide +kernel) (0, 9, 12, 13) [] rfl (leb rfl) hG (by
  show AW G M_L_lipsOf 0 [(0, .ref l0), (1, .int l1), (2, .ref l2)] [] X 0 0 _
  unfold w_L_lipsOf at h
  refine aw_aload_n 1 dL_lipsOf_0 rfl 2 rfl rfl ?_
  refine aw_iconst 2 (v := 0) dL_lipsOf_1 kI_0 rfl ?_
  refine aw_aload_n 3 dL_lipsOf_2 rfl 0 rfl rfl ?_
  refine aw_iload_n 4 dL_lipsOf_3 rfl 1 rfl rfl ?_
  obtain ⟨g3, h⟩ := h
  refine aw_callV (M' := M_X4_lipsOf) 7 80 4 l0 [.int _] [.int _, .ref _] dL_lipsOf_4 lk_RL_80 mv_X4_lipsOf mp_X4_lipsOf rfl ⟨leb rfl, leb rfl⟩ rfl (ltb rfl) g3 rfl (leb rfl) (leb rfl) (leb rfl) rfl (am_X4_lipsOf hG h) (kkT (kkI fun v2 X1 h => ?_)) (kxT KrI.no fun E X1 h => ?_)
  · refine aw_widen (cc' := 1) (ss' := 6) (leb rfl) (leb rfl) ?_
    refine aw_i2l 8 dL_lipsOf_7 rfl ?_
    obtain ⟨g4, h⟩ := h
    obtain ⟨g5, h⟩ := h
    refine aw_lastore 9 dL_lipsOf_8 g4 g5 rfl ?_
    refine aw_goto 15 dL_lipsOf_9 rfl ?_
    refine aw_iconst 16 (v := 0) dL_lipsOf_15 kI_0 rfl ?_
    exact aw_ireturn (ty := .int) dL_lipsOf_16 rfl rfl (leb rfl) (leb rfl) ⟨_, rfl, h⟩
  · obtain ⟨hE, h⟩ := h
    rcases hE with rfl
    refine aw_atc (lv' := [(0, .ref _), (1, .int _), (2, .ref _)]) [] (0, 9, 12, 13) [] rfl (fun z hz => nomatch hz) (by decide) (by decide) (tk3 (i := 61) (by decide +kernel) rfl) (by decide) 3 1 13 (Or.inl ⟨3, rfl, dL_lipsOf_12, rfl⟩) (ltb rfl) rfl ?_
    refine aw_widen (cc' := 1) (ss' := 6) (leb rfl) (leb rfl) ?_
    replace h := h rfl
    refine aw_iconst 14 (v := 1) dL_lipsOf_13 kI_1 rfl ?_
    exact aw_ireturn (ty := .int) dL_lipsOf_14 rfl rfl (leb rfl) (leb rfl) ⟨_, rfl, h⟩)
set_option maxRecDepth 20000 in
theorem am_X5_lipsOf {G : GG} (hG : G.1.stackTraces = false) {l0 : Nat} {l1 : Int32} {X : XH} {K : Int32 → XH → Prop} (h : w_X5_lipsOf l0 l1 X K) : AM G M_X5_lipsOf X [.ref l0, .int l1] (KrI K) := AM_of (by decide +kernel) rfl (leb rfl) hG (by
  show AW G M_X5_lipsOf 0 [(0, .ref l0), (1, .int l1)] [] X 0 0 _
  unfold w_X5_lipsOf at h
  refine aw_aload_n 1 dX5_lipsOf_0 rfl 0 rfl rfl ?_
  refine aw_iload_n 2 dX5_lipsOf_1 rfl 1 rfl rfl ?_
  refine aw_iconst 3 (v := 2) dX5_lipsOf_2 kI_2 rfl ?_
  obtain ⟨g3, h⟩ := h
  refine aw_callV (M' := M_X5_ofClause) 6 170 5 l0 [.int _, .int _] [] dX5_lipsOf_3 lk_RX5_170 mv_X5_ofClause mp_X5_ofClause rfl ⟨leb rfl, leb rfl⟩ rfl (ltb rfl) g3 rfl (leb rfl) (leb rfl) (leb rfl) rfl (am_X5_ofClause hG h) (kkI fun v2 X1 h => ?_) (kxN KrI.no)
  refine aw_widen (cc' := 0) (ss' := 0) (leb rfl) (leb rfl) ?_
  exact aw_ireturn (ty := .int) dX5_lipsOf_6 rfl rfl (leb rfl) (leb rfl) ⟨_, rfl, h⟩)
set_option maxRecDepth 20000 in
theorem am_X4_sighOf {G : GG} (hG : G.1.stackTraces = false) {l0 : Nat} {l1 : Int32} {X : XH} {K : Int32 → XH → Prop} {KX : String → XH → Prop} (h : w_X4_sighOf l0 l1 X K KX) : AM G M_X4_sighOf X [.ref l0, .int l1] (KxT (KrI K) KX) := AM_of (by decide +kernel) rfl (leb rfl) hG (by
  show AW G M_X4_sighOf 0 [(0, .ref l0), (1, .int l1)] [] X 0 0 _
  unfold w_X4_sighOf at h
  refine aw_aload_n 1 dX4_sighOf_0 rfl 0 rfl rfl ?_
  refine aw_iload_n 2 dX4_sighOf_1 rfl 1 rfl rfl ?_
  obtain ⟨g2, h⟩ := h
  refine aw_callV (M' := M_X4_checkClause) 5 75 4 l0 [.int _] [] dX4_sighOf_2 lk_RX4_75 mv_X4_checkClause mp_X4_checkClause rfl ⟨leb rfl, leb rfl⟩ rfl (ltb rfl) g2 rfl (leb rfl) (leb rfl) (leb rfl) rfl (am_X4_checkClause hG h) (kkT (kkV fun X1 h => ?_)) (kxT KrV.no fun E X h => at_out rfl (leb rfl) (leb rfl) (Or.inr ⟨_, rfl, h⟩))
  refine aw_widen (cc' := 1) (ss' := 6) (leb rfl) (leb rfl) ?_
  refine aw_aload_n 6 dX4_sighOf_5 rfl 0 rfl rfl ?_
  obtain ⟨g3, h⟩ := h
  obtain ⟨g4, h⟩ := h
  refine aw_getR 9 dX4_sighOf_6 fl_RX4_10 rfl g3 g4 rfl ?_
  refine aw_iload_n 10 dX4_sighOf_9 rfl 1 rfl rfl ?_
  obtain ⟨g7, h⟩ := h
  refine aw_callV (M' := M_X3_sighAt) 13 82 3 (hR X1 l0 0) [.int _] [] dX4_sighOf_10 lk_RX4_82 mv_X3_sighAt mp_X3_sighAt rfl ⟨leb rfl, leb rfl⟩ rfl (ltb rfl) g7 rfl (leb rfl) (leb rfl) (leb rfl) rfl (am_X3_sighAt hG h) (kkI fun v6 X5 h => ?_) (kxN KrI.no)
  refine aw_widen (cc' := 1) (ss' := 6) (leb rfl) (leb rfl) ?_
  exact aw_ireturn (ty := .int) dX4_sighOf_13 rfl rfl (leb rfl) (leb rfl) (Or.inl ⟨_, rfl, h⟩))
set_option maxRecDepth 20000 in
theorem am_L_sighOf {G : GG} (hG : G.1.stackTraces = false) {l0 : Nat} {l1 : Int32} {l2 : Nat} {X : XH} {K : Int32 → XH → Prop} (h : w_L_sighOf l0 l1 l2 X K) : AM G M_L_sighOf X [.ref l0, .int l1, .ref l2] (KrI K) := AM_ofH (by decide +kernel) (0, 9, 12, 13) [] rfl (leb rfl) hG (by
  show AW G M_L_sighOf 0 [(0, .ref l0), (1, .int l1), (2, .ref l2)] [] X 0 0 _
  unfold w_L_sighOf at h
  refine aw_aload_n 1 dL_sighOf_0 rfl 2 rfl rfl ?_
  refine aw_iconst 2 (v := 0) dL_sighOf_1 kI_0 rfl ?_
  refine aw_aload_n 3 dL_sighOf_2 rfl 0 rfl rfl ?_
  refine aw_iload_n 4 dL_sighOf_3 rfl 1 rfl rfl ?_
  obtain ⟨g3, h⟩ := h
  refine aw_callV (M' := M_X4_sighOf) 7 83 4 l0 [.int _] [.int _, .ref _] dL_sighOf_4 lk_RL_83 mv_X4_sighOf mp_X4_sighOf rfl ⟨leb rfl, leb rfl⟩ rfl (ltb rfl) g3 rfl (leb rfl) (leb rfl) (leb rfl) rfl (am_X4_sighOf hG h) (kkT (kkI fun v2 X1 h => ?_)) (kxT KrI.no fun E X1 h => ?_)
  · refine aw_widen (cc' := 1) (ss' := 6) (leb rfl) (leb rfl) ?_
    refine aw_i2l 8 dL_sighOf_7 rfl ?_
    obtain ⟨g4, h⟩ := h
    obtain ⟨g5, h⟩ := h
    refine aw_lastore 9 dL_sighOf_8 g4 g5 rfl ?_
    refine aw_goto 15 dL_sighOf_9 rfl ?_
    refine aw_iconst 16 (v := 0) dL_sighOf_15 kI_0 rfl ?_
    exact aw_ireturn (ty := .int) dL_sighOf_16 rfl rfl (leb rfl) (leb rfl) ⟨_, rfl, h⟩
  · obtain ⟨hE, h⟩ := h
    rcases hE with rfl
    refine aw_atc (lv' := [(0, .ref _), (1, .int _), (2, .ref _)]) [] (0, 9, 12, 13) [] rfl (fun z hz => nomatch hz) (by decide) (by decide) (tk3 (i := 61) (by decide +kernel) rfl) (by decide) 3 1 13 (Or.inl ⟨3, rfl, dL_sighOf_12, rfl⟩) (ltb rfl) rfl ?_
    refine aw_widen (cc' := 1) (ss' := 6) (leb rfl) (leb rfl) ?_
    replace h := h rfl
    refine aw_iconst 14 (v := 1) dL_sighOf_13 kI_1 rfl ?_
    exact aw_ireturn (ty := .int) dL_sighOf_14 rfl rfl (leb rfl) (leb rfl) ⟨_, rfl, h⟩)
set_option maxRecDepth 20000 in
theorem am_X5_sighOf {G : GG} (hG : G.1.stackTraces = false) {l0 : Nat} {l1 : Int32} {X : XH} {K : Int32 → XH → Prop} (h : w_X5_sighOf l0 l1 X K) : AM G M_X5_sighOf X [.ref l0, .int l1] (KrI K) := AM_of (by decide +kernel) rfl (leb rfl) hG (by
  show AW G M_X5_sighOf 0 [(0, .ref l0), (1, .int l1)] [] X 0 0 _
  unfold w_X5_sighOf at h
  refine aw_aload_n 1 dX5_sighOf_0 rfl 0 rfl rfl ?_
  refine aw_iload_n 2 dX5_sighOf_1 rfl 1 rfl rfl ?_
  refine aw_iconst 3 (v := 3) dX5_sighOf_2 kI_3 rfl ?_
  obtain ⟨g3, h⟩ := h
  refine aw_callV (M' := M_X5_ofClause) 6 170 5 l0 [.int _, .int _] [] dX5_sighOf_3 lk_RX5_170 mv_X5_ofClause mp_X5_ofClause rfl ⟨leb rfl, leb rfl⟩ rfl (ltb rfl) g3 rfl (leb rfl) (leb rfl) (leb rfl) rfl (am_X5_ofClause hG h) (kkI fun v2 X1 h => ?_) (kxN KrI.no)
  refine aw_widen (cc' := 0) (ss' := 0) (leb rfl) (leb rfl) ?_
  exact aw_ireturn (ty := .int) dX5_sighOf_6 rfl rfl (leb rfl) (leb rfl) ⟨_, rfl, h⟩)
set_option maxRecDepth 20000 in
theorem aw_X5_isTranslated_15 {G : GG} (hG : G.1.stackTraces = false)  {l0 : Nat} {l1 : Int32} {l2 : Int32} {s0 : Nat} {s1 : Int32} {X : XH} {K : Int32 → XH → Prop}  (h : w_X5_isTranslated_15  l0 l1 l2 s0 s1 X K) : AW G M_X5_isTranslated 15 [(0, .ref l0), (1, .int l1), (2, .int l2)] [.int s1, .ref s0] X 0 0 (KrI K) := by
  unfold w_X5_isTranslated_15 at h
  obtain ⟨g3, h⟩ := h
  refine aw_callV (M' := M_X5_refused) 18 81 5 s0 [.int _] [] dX5_isTranslated_15 lk_RX5_81 mv_X5_refused mp_X5_refused rfl ⟨leb rfl, leb rfl⟩ rfl (ltb rfl) g3 rfl (leb rfl) (leb rfl) (leb rfl) rfl (am_X5_refused hG h) (kkI fun v2 X1 h => ?_) (kxN KrI.no)
  refine aw_widen (cc' := 0) (ss' := 0) (leb rfl) (leb rfl) ?_
  refine aw_if_ne 34 21 dX5_isTranslated_18 rfl rfl (fun c4 => ?_) (fun c4 => ?_)
  · replace h := h.1 c4
    refine aw_iconst 35 (v := 0) dX5_isTranslated_34 kI_0 rfl ?_
    exact aw_ireturn (ty := .boolean) dX5_isTranslated_35 rfl rfl (leb rfl) (leb rfl) ⟨_, rfl, h⟩
  · replace h := h.2 c4
    refine aw_aload_n 22 dX5_isTranslated_21 rfl 0 rfl rfl ?_
    refine aw_iload_n 23 dX5_isTranslated_22 rfl 1 rfl rfl ?_
    refine aw_iload_n 24 dX5_isTranslated_23 rfl 2 rfl rfl ?_
    obtain ⟨g7, h⟩ := h
    refine aw_callV (M' := M_X5_frames) 27 48 5 l0 [.int _, .int _] [] dX5_isTranslated_24 lk_RX5_48 mv_X5_frames mp_X5_frames rfl ⟨leb rfl, leb rfl⟩ rfl (ltb rfl) g7 rfl (leb rfl) (leb rfl) (leb rfl) rfl (am_X5_frames hG h) (kkI fun v6 X5 h => ?_) (kxN KrI.no)
    refine aw_widen (cc' := 0) (ss' := 0) (leb rfl) (leb rfl) ?_
    refine aw_if_le 34 30 dX5_isTranslated_27 rfl rfl (fun c8 => ?_) (fun c8 => ?_)
    · replace h := h.1 c8
      refine aw_iconst 35 (v := 0) dX5_isTranslated_34 kI_0 rfl ?_
      exact aw_ireturn (ty := .boolean) dX5_isTranslated_35 rfl rfl (leb rfl) (leb rfl) ⟨_, rfl, h⟩
    · replace h := h.2 c8
      refine aw_iconst 31 (v := 1) dX5_isTranslated_30 kI_1 rfl ?_
      refine aw_goto 35 dX5_isTranslated_31 rfl ?_
      exact aw_ireturn (ty := .boolean) dX5_isTranslated_35 rfl rfl (leb rfl) (leb rfl) ⟨_, rfl, h⟩
set_option maxRecDepth 20000 in
theorem am_X5_isTranslated {G : GG} (hG : G.1.stackTraces = false) {l0 : Nat} {l1 : Int32} {l2 : Int32} {X : XH} {K : Int32 → XH → Prop} (h : w_X5_isTranslated l0 l1 l2 X K) : AM G M_X5_isTranslated X [.ref l0, .int l1, .int l2] (KrI K) := AM_of (by decide +kernel) rfl (leb rfl) hG (by
  show AW G M_X5_isTranslated 0 [(0, .ref l0), (1, .int l1), (2, .int l2)] [] X 0 0 _
  unfold w_X5_isTranslated at h
  refine aw_aload_n 1 dX5_isTranslated_0 rfl 0 rfl rfl ?_
  refine aw_aload_n 2 dX5_isTranslated_1 rfl 0 rfl rfl ?_
  refine aw_iload_n 3 dX5_isTranslated_2 rfl 1 rfl rfl ?_
  refine aw_iload_n 4 dX5_isTranslated_3 rfl 2 rfl rfl ?_
  obtain ⟨g3, h⟩ := h
  refine aw_callV (M' := M_X5_are) 7 97 5 l0 [.int _, .int _] [.ref _] dX5_isTranslated_4 lk_RX5_97 mv_X5_are mp_X5_are rfl ⟨leb rfl, leb rfl⟩ rfl (ltb rfl) g3 rfl (leb rfl) (leb rfl) (leb rfl) rfl (am_X5_are hG h) (kkI fun v2 X1 h => ?_) (kxN KrI.no)
  refine aw_widen (cc' := 0) (ss' := 0) (leb rfl) (leb rfl) ?_
  refine aw_if_eq 14 10 dX5_isTranslated_7 rfl rfl (fun c4 => ?_) (fun c4 => ?_)
  · replace h := h.1 c4
    refine aw_iconst 15 (v := 1) dX5_isTranslated_14 kI_1 rfl ?_
    exact aw_pick [0, 1, 2] rfl (aw_X5_isTranslated_15 hG  h)
  · replace h := h.2 c4
    refine aw_iconst 11 (v := 0) dX5_isTranslated_10 kI_0 rfl ?_
    refine aw_goto 15 dX5_isTranslated_11 rfl ?_
    exact aw_pick [0, 1, 2] rfl (aw_X5_isTranslated_15 hG  h))
set_option maxRecDepth 20000 in
theorem am_X5_badTranslation {G : GG} (hG : G.1.stackTraces = false) {l0 : Nat} {l1 : Int32} {l2 : Int32} {X : XH} {K : Int32 → XH → Prop} (h : w_X5_badTranslation l0 l1 l2 X K) : AM G M_X5_badTranslation X [.ref l0, .int l1, .int l2] (KrI K) := AM_of (by decide +kernel) rfl (leb rfl) hG (by
  show AW G M_X5_badTranslation 0 [(0, .ref l0), (1, .int l1), (2, .int l2)] [] X 0 0 _
  unfold w_X5_badTranslation at h
  refine aw_aload_n 1 dX5_badTranslation_0 rfl 0 rfl rfl ?_
  refine aw_iload_n 2 dX5_badTranslation_1 rfl 1 rfl rfl ?_
  refine aw_iload_n 3 dX5_badTranslation_2 rfl 2 rfl rfl ?_
  obtain ⟨g3, h⟩ := h
  refine aw_callV (M' := M_X5_are) 6 97 5 l0 [.int _, .int _] [] dX5_badTranslation_3 lk_RX5_97 mv_X5_are mp_X5_are rfl ⟨leb rfl, leb rfl⟩ rfl (ltb rfl) g3 rfl (leb rfl) (leb rfl) (leb rfl) rfl (am_X5_are hG h) (kkI fun v2 X1 h => ?_) (kxN KrI.no)
  refine aw_widen (cc' := 0) (ss' := 0) (leb rfl) (leb rfl) ?_
  refine aw_if_ne 13 9 dX5_badTranslation_6 rfl rfl (fun c4 => ?_) (fun c4 => ?_)
  · replace h := h.1 c4
    refine aw_aload_n 14 dX5_badTranslation_13 rfl 0 rfl rfl ?_
    refine aw_iload_n 15 dX5_badTranslation_14 rfl 1 rfl rfl ?_
    refine aw_iload_n 16 dX5_badTranslation_15 rfl 2 rfl rfl ?_
    obtain ⟨g7, h⟩ := h
    refine aw_callV (M' := M_X5_frames) 19 48 5 l0 [.int _, .int _] [] dX5_badTranslation_16 lk_RX5_48 mv_X5_frames mp_X5_frames rfl ⟨leb rfl, leb rfl⟩ rfl (ltb rfl) g7 rfl (leb rfl) (leb rfl) (leb rfl) rfl (am_X5_frames hG h) (kkI fun v6 X5 h => ?_) (kxN KrI.no)
    refine aw_widen (cc' := 0) (ss' := 0) (leb rfl) (leb rfl) ?_
    refine aw_if_le 26 22 dX5_badTranslation_19 rfl rfl (fun c8 => ?_) (fun c8 => ?_)
    · replace h := h.1 c8
      refine aw_iconst 27 (v := 2) dX5_badTranslation_26 kI_2 rfl ?_
      exact aw_ireturn (ty := .int) dX5_badTranslation_27 rfl rfl (leb rfl) (leb rfl) ⟨_, rfl, h⟩
    · replace h := h.2 c8
      refine aw_iconst 23 (v := 0) dX5_badTranslation_22 kI_0 rfl ?_
      refine aw_goto 27 dX5_badTranslation_23 rfl ?_
      exact aw_ireturn (ty := .int) dX5_badTranslation_27 rfl rfl (leb rfl) (leb rfl) ⟨_, rfl, h⟩
  · replace h := h.2 c4
    refine aw_iconst 10 (v := 1) dX5_badTranslation_9 kI_1 rfl ?_
    refine aw_goto 27 dX5_badTranslation_10 rfl ?_
    exact aw_ireturn (ty := .int) dX5_badTranslation_27 rfl rfl (leb rfl) (leb rfl) ⟨_, rfl, h⟩)
set_option maxRecDepth 20000 in
theorem am_X5_framesOf {G : GG} (hG : G.1.stackTraces = false) {l0 : Nat} {l1 : Int32} {l2 : Int32} {X : XH} {K : Int32 → XH → Prop} (h : w_X5_framesOf l0 l1 l2 X K) : AM G M_X5_framesOf X [.ref l0, .int l1, .int l2] (KrI K) := AM_of (by decide +kernel) rfl (leb rfl) hG (by
  show AW G M_X5_framesOf 0 [(0, .ref l0), (1, .int l1), (2, .int l2)] [] X 0 0 _
  unfold w_X5_framesOf at h
  refine aw_aload_n 1 dX5_framesOf_0 rfl 0 rfl rfl ?_
  refine aw_aload_n 2 dX5_framesOf_1 rfl 0 rfl rfl ?_
  refine aw_iload_n 3 dX5_framesOf_2 rfl 1 rfl rfl ?_
  refine aw_iload_n 4 dX5_framesOf_3 rfl 2 rfl rfl ?_
  obtain ⟨g3, h⟩ := h
  refine aw_callV (M' := M_X5_badTranslation) 7 173 5 l0 [.int _, .int _] [.ref _] dX5_framesOf_4 lk_RX5_173 mv_X5_badTranslation mp_X5_badTranslation rfl ⟨leb rfl, leb rfl⟩ rfl (ltb rfl) g3 rfl (leb rfl) (leb rfl) (leb rfl) rfl (am_X5_badTranslation hG h) (kkI fun v2 X1 h => ?_) (kxN KrI.no)
  refine aw_widen (cc' := 0) (ss' := 0) (leb rfl) (leb rfl) ?_
  obtain ⟨g6, h⟩ := h
  refine aw_callV (M' := M_X5_refused) 10 81 5 l0 [.int _] [] dX5_framesOf_7 lk_RX5_81 mv_X5_refused mp_X5_refused rfl ⟨leb rfl, leb rfl⟩ rfl (ltb rfl) g6 rfl (leb rfl) (leb rfl) (leb rfl) rfl (am_X5_refused hG h) (kkI fun v5 X4 h => ?_) (kxN KrI.no)
  refine aw_widen (cc' := 0) (ss' := 0) (leb rfl) (leb rfl) ?_
  refine aw_if_eq 17 13 dX5_framesOf_10 rfl rfl (fun c7 => ?_) (fun c7 => ?_)
  · replace h := h.1 c7
    refine aw_aload_n 18 dX5_framesOf_17 rfl 0 rfl rfl ?_
    refine aw_iload_n 19 dX5_framesOf_18 rfl 1 rfl rfl ?_
    refine aw_iload_n 20 dX5_framesOf_19 rfl 2 rfl rfl ?_
    obtain ⟨g10, h⟩ := h
    refine aw_callV (M' := M_X5_frames) 23 48 5 l0 [.int _, .int _] [] dX5_framesOf_20 lk_RX5_48 mv_X5_frames mp_X5_frames rfl ⟨leb rfl, leb rfl⟩ rfl (ltb rfl) g10 rfl (leb rfl) (leb rfl) (leb rfl) rfl (am_X5_frames hG h) (kkI fun v9 X8 h => ?_) (kxN KrI.no)
    refine aw_widen (cc' := 0) (ss' := 0) (leb rfl) (leb rfl) ?_
    exact aw_ireturn (ty := .int) dX5_framesOf_23 rfl rfl (leb rfl) (leb rfl) ⟨_, rfl, h⟩
  · replace h := h.2 c7
    refine aw_iconst 14 (v := 0) dX5_framesOf_13 kI_0 rfl ?_
    refine aw_goto 23 dX5_framesOf_14 rfl ?_
    exact aw_ireturn (ty := .int) dX5_framesOf_23 rfl rfl (leb rfl) (leb rfl) ⟨_, rfl, h⟩)
end XWK6
