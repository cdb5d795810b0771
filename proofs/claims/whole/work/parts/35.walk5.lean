/-! the walks of methods, as predicates -/
section XWK5
set_option maxRecDepth 20000 in
theorem aw_X5_mix_80 {G : GG} (hG : G.1.stackTraces = false)  {l0 : Nat} {l1 : Int32} {l2 : Int32} {l3 : Int32} {l4 : Int32} {X : XH} {K : Int32 → XH → Prop}  (h : w_X5_mix_80  l0 l1 l2 l3 l4 X K) : AW G M_X5_mix 80 [(0, .ref l0), (1, .int l1), (2, .int l2), (3, .int l3), (4, .int l4)] [] X 0 0 (KrI K) :=
  h (fun l0 l1 l2 l3 l4 X => AW G M_X5_mix 80 [(0, .ref l0), (1, .int l1), (2, .int l2), (3, .int l3), (4, .int l4)] [] X 0 0 (KrI K)) (fun l0 l1 l2 l3 l4 X h => by
    refine aw_iload 82 dX5_mix_80 4 rfl rfl ?_
    refine aw_aload_n 83 dX5_mix_82 rfl 0 rfl rfl ?_
    obtain ⟨g1, h⟩ := h
    obtain ⟨g2, h⟩ := h
    refine aw_getR 86 dX5_mix_83 fl_RX5_7 rfl g1 g2 rfl ?_
    refine aw_sipush 89 (v := 366) dX5_mix_86 kS_366 rfl ?_
    obtain ⟨g3, h⟩ := h
    obtain ⟨g4, h⟩ := h
    refine aw_iaload 90 dX5_mix_89 g3 g4 rfl ?_
    refine aw_icmp_ge 140 93 dX5_mix_90 rfl rfl (fun c5 => ?_) (fun c5 => ?_)
    · replace h := h.1 c5
      refine aw_iload_n 141 dX5_mix_140 rfl 3 rfl rfl ?_
      exact aw_ireturn (ty := .int) dX5_mix_141 rfl rfl (leb rfl) (leb rfl) ⟨_, rfl, h⟩
    · replace h := h.2 c5
      refine aw_iload_n 94 dX5_mix_93 rfl 3 rfl rfl ?_
      refine aw_aload_n 95 dX5_mix_94 rfl 0 rfl rfl ?_
      refine aw_getR 98 dX5_mix_95 fl_RX5_7 rfl g1 g2 rfl ?_
      refine aw_iload 100 dX5_mix_98 4 rfl rfl ?_
      refine aw_iconst 101 (v := 0) dX5_mix_100 kI_0 rfl ?_
      refine aw_callS (M' := M_X5_at) 104 44 [.int _, .int _] [.ref _, .int _] dX5_mix_101 lk_RX5_44 ms_X5_at mp_X5_at rfl ⟨leb rfl, leb rfl⟩ rfl (leb rfl) (leb rfl) (leb rfl) rfl (am_X5_at hG h) (kkI fun v7 X6 h => ?_) (kxN KrI.no)
      refine aw_widen (cc' := 0) (ss' := 0) (leb rfl) (leb rfl) ?_
      obtain ⟨g8, h⟩ := h
      obtain ⟨g9, h⟩ := h
      refine aw_iaload 105 dX5_mix_104 g8 g9 rfl ?_
      refine aw_iload_n 106 dX5_mix_105 rfl 1 rfl rfl ?_
      refine aw_icmp_ne 131 109 dX5_mix_106 rfl rfl (fun c10 => ?_) (fun c10 => ?_)
      · replace h := h.1 c10
        refine aw_iconst 132 (v := 0) dX5_mix_131 kI_0 rfl ?_
        refine aw_iadd 133 dX5_mix_132 rfl ?_
        refine aw_istore_n 134 (lv' := [(3, _), (0, _), (1, _), (2, _), (4, _)]) dX5_mix_133 rfl (ltb rfl) rfl rfl ?_
        refine aw_iinc 137 (v := 1) (lv' := [(4, _), (3, _), (0, _), (1, _), (2, _)]) dX5_mix_134 4 rfl kI_1 (ltb rfl) rfl rfl ?_
        refine aw_goto 80 dX5_mix_137 rfl ?_
        exact aw_pick [2, 3, 4, 1, 0] rfl h
      · replace h := h.2 c10
        refine aw_aload_n 110 dX5_mix_109 rfl 0 rfl rfl ?_
        obtain ⟨g11, h⟩ := h
        obtain ⟨g12, h⟩ := h
        refine aw_getR 113 dX5_mix_110 fl_RX5_7 rfl g11 g12 rfl ?_
        refine aw_iload 115 dX5_mix_113 4 rfl rfl ?_
        refine aw_iconst 116 (v := 2) dX5_mix_115 kI_2 rfl ?_
        refine aw_callS (M' := M_X5_at) 119 44 [.int _, .int _] [.ref _, .int _] dX5_mix_116 lk_RX5_44 ms_X5_at mp_X5_at rfl ⟨leb rfl, leb rfl⟩ rfl (leb rfl) (leb rfl) (leb rfl) rfl (am_X5_at hG h) (kkI fun v14 X13 h => ?_) (kxN KrI.no)
        refine aw_widen (cc' := 0) (ss' := 0) (leb rfl) (leb rfl) ?_
        obtain ⟨g15, h⟩ := h
        obtain ⟨g16, h⟩ := h
        refine aw_iaload 120 dX5_mix_119 g15 g16 rfl ?_
        refine aw_aload_n 121 dX5_mix_120 rfl 0 rfl rfl ?_
        refine aw_iload 123 dX5_mix_121 4 rfl rfl ?_
        refine aw_iload_n 124 dX5_mix_123 rfl 2 rfl rfl ?_
        obtain ⟨g19, h⟩ := h
        refine aw_callV (M' := M_X5_both) 127 59 5 l0 [.int _, .int _] [.int _, .int _] dX5_mix_124 lk_RX5_59 mv_X5_both mp_X5_both rfl ⟨leb rfl, leb rfl⟩ rfl (ltb rfl) g19 rfl (leb rfl) (leb rfl) (leb rfl) rfl (am_X5_both hG h) (kkI fun v18 X17 h => ?_) (kxN KrI.no)
        refine aw_widen (cc' := 0) (ss' := 0) (leb rfl) (leb rfl) ?_
        refine aw_isub 128 dX5_mix_127 rfl ?_
        refine aw_goto 132 dX5_mix_128 rfl ?_
        refine aw_iadd 133 dX5_mix_132 rfl ?_
        refine aw_istore_n 134 (lv' := [(3, _), (0, _), (1, _), (2, _), (4, _)]) dX5_mix_133 rfl (ltb rfl) rfl rfl ?_
        refine aw_iinc 137 (v := 1) (lv' := [(4, _), (3, _), (0, _), (1, _), (2, _)]) dX5_mix_134 4 rfl kI_1 (ltb rfl) rfl rfl ?_
        refine aw_goto 80 dX5_mix_137 rfl ?_
        exact aw_pick [2, 3, 4, 1, 0] rfl h)
set_option maxRecDepth 20000 in
theorem aw_X5_mix_36 {G : GG} (hG : G.1.stackTraces = false)  {l0 : Nat} {l1 : Int32} {l2 : Int32} {s0 : Nat} {s1 : Int32} {X : XH} {K : Int32 → XH → Prop}  (h : w_X5_mix_36  l0 l1 l2 s0 s1 X K) : AW G M_X5_mix 36 [(0, .ref l0), (1, .int l1), (2, .int l2)] [.int s1, .ref s0] X 0 0 (KrI K) := by
  unfold w_X5_mix_36 at h
  obtain ⟨g3, h⟩ := h
  refine aw_callV (M' := M_X5_refused) 39 81 5 s0 [.int _] [] dX5_mix_36 lk_RX5_81 mv_X5_refused mp_X5_refused rfl ⟨leb rfl, leb rfl⟩ rfl (ltb rfl) g3 rfl (leb rfl) (leb rfl) (leb rfl) rfl (am_X5_refused hG h) (kkI fun v2 X1 h => ?_) (kxN KrI.no)
  refine aw_widen (cc' := 0) (ss' := 0) (leb rfl) (leb rfl) ?_
  refine aw_if_eq 44 42 dX5_mix_39 rfl rfl (fun c4 => ?_) (fun c4 => ?_)
  · replace h := h.1 c4
    refine aw_aload_n 45 dX5_mix_44 rfl 0 rfl rfl ?_
    obtain ⟨g6, h⟩ := h
    refine aw_callV (M' := M_X5_saves) 48 84 5 l0 [] [] dX5_mix_45 lk_RX5_84 mv_X5_saves mp_X5_saves rfl ⟨leb rfl, leb rfl⟩ rfl (ltb rfl) g6 rfl (leb rfl) (leb rfl) (leb rfl) rfl (am_X5_saves hG h) (kkV fun X5 h => ?_) (kxN KrV.no)
    refine aw_widen (cc' := 0) (ss' := 0) (leb rfl) (leb rfl) ?_
    refine aw_aload_n 49 dX5_mix_48 rfl 0 rfl rfl ?_
    obtain ⟨g7, h⟩ := h
    obtain ⟨g8, h⟩ := h
    refine aw_getR 52 dX5_mix_49 fl_RX5_7 rfl g7 g8 rfl ?_
    refine aw_sipush 55 (v := 342) dX5_mix_52 kS_342 rfl ?_
    refine aw_iconst 56 (v := 3) dX5_mix_55 kI_3 rfl ?_
    refine aw_iload_n 57 dX5_mix_56 rfl 1 rfl rfl ?_
    refine aw_imul 58 dX5_mix_57 rfl ?_
    refine aw_iadd 59 dX5_mix_58 rfl ?_
    refine aw_iload_n 60 dX5_mix_59 rfl 2 rfl rfl ?_
    refine aw_iadd 61 dX5_mix_60 rfl ?_
    refine aw_iconst 62 (v := 1) dX5_mix_61 kI_1 rfl ?_
    obtain ⟨g9, h⟩ := h
    obtain ⟨g10, h⟩ := h
    refine aw_iastore 63 dX5_mix_62 g9 g10 rfl ?_
    refine aw_aload_n 64 dX5_mix_63 rfl 0 rfl rfl ?_
    refine aw_getR 67 dX5_mix_64 fl_RX5_7 rfl g7 g8 rfl ?_
    refine aw_sipush 70 (v := 370) dX5_mix_67 kS_370 rfl ?_
    refine aw_dup2 71 dX5_mix_70 rfl rfl rfl ?_
    obtain ⟨g11, h⟩ := h
    refine aw_iaload 72 dX5_mix_71 g9 g11 rfl ?_
    refine aw_iconst 73 (v := 1) dX5_mix_72 kI_1 rfl ?_
    refine aw_iadd 74 dX5_mix_73 rfl ?_
    refine aw_iastore 75 dX5_mix_74 g9 g11 rfl ?_
    refine aw_iconst 76 (v := 0) dX5_mix_75 kI_0 rfl ?_
    refine aw_istore_n 77 (lv' := [(3, _), (0, _), (1, _), (2, _)]) dX5_mix_76 rfl (ltb rfl) rfl rfl ?_
    refine aw_iconst 78 (v := 0) dX5_mix_77 kI_0 rfl ?_
    refine aw_istore 80 (lv' := [(4, _), (3, _), (0, _), (1, _), (2, _)]) dX5_mix_78 (ltb rfl) rfl rfl ?_
    exact aw_pick [2, 3, 4, 1, 0] rfl (aw_X5_mix_80 hG  h)
  · replace h := h.2 c4
    refine aw_iconst 43 (v := 0) dX5_mix_42 kI_0 rfl ?_
    exact aw_ireturn (ty := .int) dX5_mix_43 rfl rfl (leb rfl) (leb rfl) ⟨_, rfl, h⟩
set_option maxRecDepth 20000 in
theorem am_X5_mix {G : GG} (hG : G.1.stackTraces = false) {l0 : Nat} {l1 : Int32} {l2 : Int32} {X : XH} {K : Int32 → XH → Prop} (h : w_X5_mix l0 l1 l2 X K) : AM G M_X5_mix X [.ref l0, .int l1, .int l2] (KrI K) := AM_of (by decide +kernel) rfl (leb rfl) hG (by
  show AW G M_X5_mix 0 [(0, .ref l0), (1, .int l1), (2, .int l2)] [] X 0 0 _
  unfold w_X5_mix at h
  refine aw_aload_n 1 dX5_mix_0 rfl 0 rfl rfl ?_
  refine aw_iload_n 2 dX5_mix_1 rfl 1 rfl rfl ?_
  refine aw_iload_n 3 dX5_mix_2 rfl 2 rfl rfl ?_
  refine aw_callS (M' := M_X5_isPlace) 6 107 [.int _, .int _] [.ref _] dX5_mix_3 lk_RX5_107 ms_X5_isPlace mp_X5_isPlace rfl ⟨leb rfl, leb rfl⟩ rfl (leb rfl) (leb rfl) (leb rfl) rfl (am_X5_isPlace hG h) (kkI fun v2 X1 h => ?_) (kxN KrI.no)
  refine aw_widen (cc' := 0) (ss' := 0) (leb rfl) (leb rfl) ?_
  refine aw_if_ne 13 9 dX5_mix_6 rfl rfl (fun c3 => ?_) (fun c3 => ?_)
  · replace h := h.1 c3
    refine aw_aload_n 14 dX5_mix_13 rfl 0 rfl rfl ?_
    refine aw_iload_n 15 dX5_mix_14 rfl 1 rfl rfl ?_
    refine aw_iload_n 16 dX5_mix_15 rfl 2 rfl rfl ?_
    obtain ⟨g6, h⟩ := h
    refine aw_callV (M' := M_X5_mixed) 19 110 5 l0 [.int _, .int _] [.ref _] dX5_mix_16 lk_RX5_110 mv_X5_mixed mp_X5_mixed rfl ⟨leb rfl, leb rfl⟩ rfl (ltb rfl) g6 rfl (leb rfl) (leb rfl) (leb rfl) rfl (am_X5_mixed hG h) (kkI fun v5 X4 h => ?_) (kxN KrI.no)
    refine aw_widen (cc' := 0) (ss' := 0) (leb rfl) (leb rfl) ?_
    refine aw_if_ne 31 22 dX5_mix_19 rfl rfl (fun c7 => ?_) (fun c7 => ?_)
    · replace h := h.1 c7
      refine aw_iconst 32 (v := 2) dX5_mix_31 kI_2 rfl ?_
      refine aw_goto 36 dX5_mix_32 rfl ?_
      exact aw_pick [0, 1, 2] rfl (aw_X5_mix_36 hG  h)
    · replace h := h.2 c7
      refine aw_aload_n 23 dX5_mix_22 rfl 0 rfl rfl ?_
      refine aw_iload_n 24 dX5_mix_23 rfl 1 rfl rfl ?_
      refine aw_iload_n 25 dX5_mix_24 rfl 2 rfl rfl ?_
      obtain ⟨g10, h⟩ := h
      refine aw_callV (M' := M_X5_complete) 28 113 5 l0 [.int _, .int _] [.ref _] dX5_mix_25 lk_RX5_113 mv_X5_complete mp_X5_complete rfl ⟨leb rfl, leb rfl⟩ rfl (ltb rfl) g10 rfl (leb rfl) (leb rfl) (leb rfl) rfl (am_X5_complete hG h) (kkI fun v9 X8 h => ?_) (kxN KrI.no)
      refine aw_widen (cc' := 0) (ss' := 0) (leb rfl) (leb rfl) ?_
      refine aw_if_ne 35 31 dX5_mix_28 rfl rfl (fun c11 => ?_) (fun c11 => ?_)
      · replace h := h.1 c11
        refine aw_iconst 36 (v := 0) dX5_mix_35 kI_0 rfl ?_
        exact aw_pick [0, 1, 2] rfl (aw_X5_mix_36 hG  h)
      · replace h := h.2 c11
        refine aw_iconst 32 (v := 2) dX5_mix_31 kI_2 rfl ?_
        refine aw_goto 36 dX5_mix_32 rfl ?_
        exact aw_pick [0, 1, 2] rfl (aw_X5_mix_36 hG  h)
  · replace h := h.2 c3
    refine aw_iconst 10 (v := 1) dX5_mix_9 kI_1 rfl ?_
    refine aw_goto 36 dX5_mix_10 rfl ?_
    exact aw_pick [0, 1, 2] rfl (aw_X5_mix_36 hG  h))
set_option maxRecDepth 20000 in
theorem am_X3_putSignature {G : GG} (hG : G.1.stackTraces = false) {l0 : Nat} {l1 : Int32} {l2 : Int32} {l3 : Int32} {X : XH} {K : XH → Prop} (h : w_X3_putSignature l0 l1 l2 l3 X K) : AM G M_X3_putSignature X [.ref l0, .int l1, .int l2, .int l3] (KrV K) := AM_of (by decide +kernel) rfl (leb rfl) hG (by
  show AW G M_X3_putSignature 0 [(0, .ref l0), (1, .int l1), (2, .int l2), (3, .int l3)] [] X 0 0 _
  unfold w_X3_putSignature at h
  refine aw_iload_n 1 dX3_putSignature_0 rfl 2 rfl rfl ?_
  refine aw_iload_n 2 dX3_putSignature_1 rfl 3 rfl rfl ?_
  refine aw_callS (M' := M_X3_place) 5 73 [.int _, .int _] [] dX3_putSignature_2 lk_RX3_73 ms_X3_place mp_X3_place rfl ⟨leb rfl, leb rfl⟩ rfl (leb rfl) (leb rfl) (leb rfl) rfl (am_X3_place hG h) (kkI fun v2 X1 h => ?_) (kxN KrI.no)
  refine aw_widen (cc' := 0) (ss' := 0) (leb rfl) (leb rfl) ?_
  refine aw_istore 7 (lv' := [(4, _), (0, _), (1, _), (2, _), (3, _)]) dX3_putSignature_5 (ltb rfl) rfl rfl ?_
  refine aw_aload_n 8 dX3_putSignature_7 rfl 1 rfl rfl ?_
  obtain ⟨g3, h⟩ := h
  obtain ⟨g4, h⟩ := h
  refine aw_getR 11 dX3_putSignature_8 fl_RX3_42 rfl g3 g4 rfl ?_
  refine aw_iload 13 dX3_putSignature_11 0 rfl rfl ?_
  refine aw_aload_n 14 dX3_putSignature_13 rfl 1 rfl rfl ?_
  refine aw_getR 17 dX3_putSignature_14 fl_RX3_42 rfl g3 g4 rfl ?_
  refine aw_iload 19 dX3_putSignature_17 0 rfl rfl ?_
  refine aw_callSN (M' := M_X4_at) 22 81 [.ref _, .int _] [.int _, .ref _] dX3_putSignature_19 (by decide) ms_X4_at mp_X4_at rfl ⟨leb rfl, leb rfl⟩ rfl (leb rfl) (leb rfl) (leb rfl) rfl (am_X4_at hG h) (kkI fun v6 X5 h => ?_) KrI.no
  refine aw_widen (cc' := 0) (ss' := 0) (leb rfl) (leb rfl) ?_
  refine aw_iconst 23 (v := 1) dX3_putSignature_22 kI_1 rfl ?_
  refine aw_iload_n 24 dX3_putSignature_23 rfl 2 rfl rfl ?_
  refine aw_ishl 25 dX3_putSignature_24 rfl ?_
  refine aw_ior 26 dX3_putSignature_25 rfl ?_
  refine aw_callSN (M' := M_X4_put) 29 65 [.ref _, .int _, .int _] [] dX3_putSignature_26 (by decide) ms_X4_put mp_X4_put rfl ⟨leb rfl, leb rfl⟩ rfl (leb rfl) (leb rfl) (leb rfl) rfl (am_X4_put hG h) (kkV fun X7 h => ?_) KrV.no
  refine aw_widen (cc' := 0) (ss' := 0) (leb rfl) (leb rfl) ?_
  exact aw_return dX3_putSignature_29 rfl (leb rfl) (leb rfl) ⟨rfl, h⟩)
set_option maxRecDepth 20000 in
theorem am_X4_sign {G : GG} (hG : G.1.stackTraces = false) {l0 : Nat} {l1 : Int32} {l2 : Int32} {l3 : Int32} {X : XH} {K : Int32 → XH → Prop} {KX : String → XH → Prop} (h : w_X4_sign l0 l1 l2 l3 X K KX) : AM G M_X4_sign X [.ref l0, .int l1, .int l2, .int l3] (KxT (KrI K) KX) := AM_of (by decide +kernel) rfl (leb rfl) hG (by
  show AW G M_X4_sign 0 [(0, .ref l0), (1, .int l1), (2, .int l2), (3, .int l3)] [] X 0 0 _
  unfold w_X4_sign at h
  refine aw_iload_n 1 dX4_sign_0 rfl 1 rfl rfl ?_
  refine aw_callS (M' := M_X4_checkState) 4 49 [.int _] [] dX4_sign_1 lk_RX4_49 ms_X4_checkState mp_X4_checkState rfl ⟨leb rfl, leb rfl⟩ rfl (leb rfl) (leb rfl) (leb rfl) rfl (am_X4_checkState hG h) (kkT (kkV fun X1 h => ?_)) (kxT KrV.no fun E X h => at_out rfl (leb rfl) (leb rfl) (Or.inr ⟨_, rfl, h⟩))
  refine aw_widen (cc' := 1) (ss' := 6) (leb rfl) (leb rfl) ?_
  refine aw_iload_n 5 dX4_sign_4 rfl 2 rfl rfl ?_
  refine aw_callS (M' := M_X4_checkReel) 8 45 [.int _] [] dX4_sign_5 lk_RX4_45 ms_X4_checkReel mp_X4_checkReel rfl ⟨leb rfl, leb rfl⟩ rfl (leb rfl) (leb rfl) (leb rfl) rfl (am_X4_checkReel hG h) (kkT (kkV fun X2 h => ?_)) (kxT KrV.no fun E X h => at_out rfl (leb rfl) (leb rfl) (Or.inr ⟨_, rfl, h⟩))
  refine aw_widen (cc' := 2) (ss' := 12) (leb rfl) (leb rfl) ?_
  refine aw_iload_n 9 dX4_sign_8 rfl 3 rfl rfl ?_
  refine aw_callS (M' := M_X4_checkTongue) 12 195 [.int _] [] dX4_sign_9 lk_RX4_195 ms_X4_checkTongue mp_X4_checkTongue rfl ⟨leb rfl, leb rfl⟩ rfl (leb rfl) (leb rfl) (leb rfl) rfl (am_X4_checkTongue hG h) (kkT (kkV fun X3 h => ?_)) (kxT KrV.no fun E X h => at_out rfl (leb rfl) (leb rfl) (Or.inr ⟨_, rfl, h⟩))
  refine aw_widen (cc' := 3) (ss' := 18) (leb rfl) (leb rfl) ?_
  refine aw_aload_n 13 dX4_sign_12 rfl 0 rfl rfl ?_
  obtain ⟨g4, h⟩ := h
  obtain ⟨g5, h⟩ := h
  refine aw_getR 16 dX4_sign_13 fl_RX4_10 rfl g4 g5 rfl ?_
  refine aw_iload_n 17 dX4_sign_16 rfl 2 rfl rfl ?_
  refine aw_iload_n 18 dX4_sign_17 rfl 3 rfl rfl ?_
  obtain ⟨g8, h⟩ := h
  refine aw_callV (M' := M_X3_hasMix) 21 198 3 (hR X3 l0 0) [.int _, .int _] [] dX4_sign_18 lk_RX4_198 mv_X3_hasMix mp_X3_hasMix rfl ⟨leb rfl, leb rfl⟩ rfl (ltb rfl) g8 rfl (leb rfl) (leb rfl) (leb rfl) rfl (am_X3_hasMix hG h) (kkI fun v7 X6 h => ?_) (kxN KrI.no)
  refine aw_widen (cc' := 3) (ss' := 18) (leb rfl) (leb rfl) ?_
  refine aw_if_eq 49 24 dX4_sign_21 rfl rfl (fun c9 => ?_) (fun c9 => ?_)
  · replace h := h.1 c9
    exact aw_throw xcS 60 218 64 rfl th_xcS (by decide) (Or.inl ⟨dX4_sign_49, dX4_sign_52, dX4_sign_53, dX4_sign_55, dX4_sign_58⟩) rfl (ltb rfl) (leb rfl) (leb rfl) (leb rfl) (Or.inr ⟨_, rfl, h⟩)
  · replace h := h.2 c9
    refine aw_aload_n 25 dX4_sign_24 rfl 0 rfl rfl ?_
    obtain ⟨g10, h⟩ := h
    obtain ⟨g11, h⟩ := h
    refine aw_getR 28 dX4_sign_25 fl_RX4_10 rfl g10 g11 rfl ?_
    refine aw_iload_n 29 dX4_sign_28 rfl 1 rfl rfl ?_
    refine aw_iload_n 30 dX4_sign_29 rfl 2 rfl rfl ?_
    obtain ⟨g14, h⟩ := h
    refine aw_callV (M' := M_X3_isHeardIn) 33 212 3 (hR X6 l0 0) [.int _, .int _] [] dX4_sign_30 lk_RX4_212 mv_X3_isHeardIn mp_X3_isHeardIn rfl ⟨leb rfl, leb rfl⟩ rfl (ltb rfl) g14 rfl (leb rfl) (leb rfl) (leb rfl) rfl (am_X3_isHeardIn hG h) (kkI fun v13 X12 h => ?_) (kxN KrI.no)
    refine aw_widen (cc' := 3) (ss' := 18) (leb rfl) (leb rfl) ?_
    refine aw_if_eq 49 36 dX4_sign_33 rfl rfl (fun c15 => ?_) (fun c15 => ?_)
    · replace h := h.1 c15
      exact aw_throw xcS 60 218 64 rfl th_xcS (by decide) (Or.inl ⟨dX4_sign_49, dX4_sign_52, dX4_sign_53, dX4_sign_55, dX4_sign_58⟩) rfl (ltb rfl) (leb rfl) (leb rfl) (leb rfl) (Or.inr ⟨_, rfl, h⟩)
    · replace h := h.2 c15
      refine aw_aload_n 37 dX4_sign_36 rfl 0 rfl rfl ?_
      obtain ⟨g16, h⟩ := h
      obtain ⟨g17, h⟩ := h
      refine aw_getR 40 dX4_sign_37 fl_RX4_10 rfl g16 g17 rfl ?_
      refine aw_iload_n 41 dX4_sign_40 rfl 1 rfl rfl ?_
      refine aw_iload_n 42 dX4_sign_41 rfl 2 rfl rfl ?_
      refine aw_iload_n 43 dX4_sign_42 rfl 3 rfl rfl ?_
      obtain ⟨g20, h⟩ := h
      refine aw_callV (M' := M_X3_hasSignature) 46 215 3 (hR X12 l0 0) [.int _, .int _, .int _] [] dX4_sign_43 lk_RX4_215 mv_X3_hasSignature mp_X3_hasSignature rfl ⟨leb rfl, leb rfl⟩ rfl (ltb rfl) g20 rfl (leb rfl) (leb rfl) (leb rfl) rfl (am_X3_hasSignature hG h) (kkI fun v19 X18 h => ?_) (kxN KrI.no)
      refine aw_widen (cc' := 3) (ss' := 18) (leb rfl) (leb rfl) ?_
      refine aw_if_eq 59 49 dX4_sign_46 rfl rfl (fun c21 => ?_) (fun c21 => ?_)
      · replace h := h.1 c21
        refine aw_aload_n 60 dX4_sign_59 rfl 0 rfl rfl ?_
        obtain ⟨g22, h⟩ := h
        obtain ⟨g23, h⟩ := h
        refine aw_getR 63 dX4_sign_60 fl_RX4_19 rfl g22 g23 rfl ?_
        refine aw_aload_n 64 dX4_sign_63 rfl 0 rfl rfl ?_
        obtain ⟨g24, h⟩ := h
        refine aw_getR 67 dX4_sign_64 fl_RX4_10 rfl g22 g24 rfl ?_
        obtain ⟨g26, h⟩ := h
        refine aw_callV (M' := M_X1_push) 70 67 1 (hR X18 l0 1) [.ref _] [] dX4_sign_67 lk_RX4_67 mv_X1_push mp_X1_push rfl ⟨leb rfl, leb rfl⟩ rfl (ltb rfl) g26 rfl (leb rfl) (leb rfl) (leb rfl) rfl (am_X1_push hG h) (kkV fun X25 h => ?_) (kxN KrV.no)
        refine aw_widen (cc' := 3) (ss' := 18) (leb rfl) (leb rfl) ?_
        refine aw_aload_n 71 dX4_sign_70 rfl 0 rfl rfl ?_
        obtain ⟨g27, h⟩ := h
        obtain ⟨g28, h⟩ := h
        refine aw_getR 74 dX4_sign_71 fl_RX4_10 rfl g27 g28 rfl ?_
        refine aw_iload_n 75 dX4_sign_74 rfl 1 rfl rfl ?_
        refine aw_iload_n 76 dX4_sign_75 rfl 2 rfl rfl ?_
        refine aw_iload_n 77 dX4_sign_76 rfl 3 rfl rfl ?_
        obtain ⟨g30, h⟩ := h
        refine aw_callV (M' := M_X3_putSignature) 80 220 3 (hR X25 l0 0) [.int _, .int _, .int _] [] dX4_sign_77 lk_RX4_220 mv_X3_putSignature mp_X3_putSignature rfl ⟨leb rfl, leb rfl⟩ rfl (ltb rfl) g30 rfl (leb rfl) (leb rfl) (leb rfl) rfl (am_X3_putSignature hG h) (kkV fun X29 h => ?_) (kxN KrV.no)
        refine aw_widen (cc' := 3) (ss' := 18) (leb rfl) (leb rfl) ?_
        refine aw_aload_n 81 dX4_sign_80 rfl 0 rfl rfl ?_
        obtain ⟨g31, h⟩ := h
        obtain ⟨g32, h⟩ := h
        refine aw_getR 84 dX4_sign_81 fl_RX4_10 rfl g31 g32 rfl ?_
        refine aw_iload_n 85 dX4_sign_84 rfl 2 rfl rfl ?_
        refine aw_iload_n 86 dX4_sign_85 rfl 3 rfl rfl ?_
        obtain ⟨g35, h⟩ := h
        refine aw_callV (M' := M_X3_signaturesMissing) 89 223 3 (hR X29 l0 0) [.int _, .int _] [] dX4_sign_86 lk_RX4_223 mv_X3_signaturesMissing mp_X3_signaturesMissing rfl ⟨leb rfl, leb rfl⟩ rfl (ltb rfl) g35 rfl (leb rfl) (leb rfl) (leb rfl) rfl (am_X3_signaturesMissing hG h) (kkI fun v34 X33 h => ?_) (kxN KrI.no)
        refine aw_widen (cc' := 3) (ss' := 18) (leb rfl) (leb rfl) ?_
        exact aw_ireturn (ty := .int) dX4_sign_89 rfl rfl (leb rfl) (leb rfl) (Or.inl ⟨_, rfl, h⟩)
      · replace h := h.2 c21
        exact aw_throw xcS 60 218 64 rfl th_xcS (by decide) (Or.inl ⟨dX4_sign_49, dX4_sign_52, dX4_sign_53, dX4_sign_55, dX4_sign_58⟩) rfl (ltb rfl) (leb rfl) (leb rfl) (leb rfl) (Or.inr ⟨_, rfl, h⟩))
set_option maxRecDepth 20000 in
theorem am_L_sign {G : GG} (hG : G.1.stackTraces = false) {l0 : Nat} {l1 : Int32} {l2 : Int32} {l3 : Int32} {l4 : Nat} {X : XH} {K : Int32 → XH → Prop} (h : w_L_sign l0 l1 l2 l3 l4 X K) : AM G M_L_sign X [.ref l0, .int l1, .int l2, .int l3, .ref l4] (KrI K) := AM_ofH (by decide +kernel) (0, 12, 15, 13) [(0, 12, 19, 17)] rfl (leb rfl) hG (by
  show AW G M_L_sign 0 [(0, .ref l0), (1, .int l1), (2, .int l2), (3, .int l3), (4, .ref l4)] [] X 0 0 _
  unfold w_L_sign at h
  refine aw_aload 2 dL_sign_0 4 rfl rfl ?_
  refine aw_iconst 3 (v := 0) dL_sign_2 kI_0 rfl ?_
  refine aw_aload_n 4 dL_sign_3 rfl 0 rfl rfl ?_
  refine aw_iload_n 5 dL_sign_4 rfl 1 rfl rfl ?_
  refine aw_iload_n 6 dL_sign_5 rfl 2 rfl rfl ?_
  refine aw_iload_n 7 dL_sign_6 rfl 3 rfl rfl ?_
  obtain ⟨g3, h⟩ := h
  refine aw_callV (M' := M_X4_sign) 10 54 4 l0 [.int _, .int _, .int _] [.int _, .ref _] dL_sign_7 lk_RL_54 mv_X4_sign mp_X4_sign rfl ⟨leb rfl, leb rfl⟩ rfl (ltb rfl) g3 rfl (leb rfl) (leb rfl) (leb rfl) rfl (am_X4_sign hG h) (kkT (kkI fun v2 X1 h => ?_)) (kxT KrI.no fun E X1 h => ?_)
  · refine aw_widen (cc' := 4) (ss' := 24) (leb rfl) (leb rfl) ?_
    refine aw_i2l 11 dL_sign_10 rfl ?_
    obtain ⟨g4, h⟩ := h
    obtain ⟨g5, h⟩ := h
    refine aw_lastore 12 dL_sign_11 g4 g5 rfl ?_
    refine aw_goto 23 dL_sign_12 rfl ?_
    refine aw_iconst 24 (v := 0) dL_sign_23 kI_0 rfl ?_
    exact aw_ireturn (ty := .int) dL_sign_24 rfl rfl (leb rfl) (leb rfl) ⟨_, rfl, h⟩
  · obtain ⟨hE, h⟩ := h
    rcases hE with rfl | rfl
    · refine aw_atc (lv' := [(0, .ref _), (1, .int _), (2, .int _), (3, .int _), (4, .ref _)]) [] (0, 12, 15, 13) [(0, 12, 19, 17)] rfl (fun z hz => nomatch hz) (by decide) (by decide) (tk3 (i := 61) (by decide +kernel) rfl) (by decide) 5 2 17 (Or.inr ⟨dL_sign_15, rfl⟩) (ltb rfl) rfl ?_
      refine aw_widen (cc' := 4) (ss' := 24) (leb rfl) (leb rfl) ?_
      replace h := h.1 rfl
      refine aw_iconst 18 (v := 1) dL_sign_17 kI_1 rfl ?_
      exact aw_ireturn (ty := .int) dL_sign_18 rfl rfl (leb rfl) (leb rfl) ⟨_, rfl, h⟩
    · refine aw_atc (lv' := [(0, .ref _), (1, .int _), (2, .int _), (3, .int _), (4, .ref _)]) [(0, 12, 15, 13)] (0, 12, 19, 17) [] rfl (by intro z hz; simp only [List.mem_cons, List.not_mem_nil, or_false] at hz; rcases hz with rfl <;> first | exact ⟨by decide, xcI, tk3 (i := 61) (by decide +kernel) rfl, by decide⟩) (by decide) (by decide) (tk3 (i := 63) (by decide +kernel) rfl) (by decide) 5 2 21 (Or.inr ⟨dL_sign_19, rfl⟩) (ltb rfl) rfl ?_
      refine aw_widen (cc' := 4) (ss' := 24) (leb rfl) (leb rfl) ?_
      replace h := h.2 rfl
      refine aw_iconst 22 (v := 2) dL_sign_21 kI_2 rfl ?_
      exact aw_ireturn (ty := .int) dL_sign_22 rfl rfl (leb rfl) (leb rfl) ⟨_, rfl, h⟩)
set_option maxRecDepth 20000 in
theorem aw_X5_speaks_5 {G : GG} (hG : G.1.stackTraces = false)  {l0 : Nat} {l1 : Int32} {l2 : Int32} {l3 : Int32} {l4 : Int32} {X : XH} {K : Int32 → XH → Prop}  (h : w_X5_speaks_5  l0 l1 l2 l3 l4 X K) : AW G M_X5_speaks 5 [(0, .ref l0), (1, .int l1), (2, .int l2), (3, .int l3), (4, .int l4)] [] X 0 0 (KrI K) :=
  h (fun l0 l1 l2 l3 l4 X => AW G M_X5_speaks 5 [(0, .ref l0), (1, .int l1), (2, .int l2), (3, .int l3), (4, .int l4)] [] X 0 0 (KrI K)) (fun l0 l1 l2 l3 l4 X h => by
    refine aw_iload 7 dX5_speaks_5 4 rfl rfl ?_
    refine aw_aload_n 8 dX5_speaks_7 rfl 0 rfl rfl ?_
    obtain ⟨g1, h⟩ := h
    obtain ⟨g2, h⟩ := h
    refine aw_getR 11 dX5_speaks_8 fl_RX5_7 rfl g1 g2 rfl ?_
    refine aw_sipush 14 (v := 366) dX5_speaks_11 kS_366 rfl ?_
    obtain ⟨g3, h⟩ := h
    obtain ⟨g4, h⟩ := h
    refine aw_iaload 15 dX5_speaks_14 g3 g4 rfl ?_
    refine aw_icmp_ge 64 18 dX5_speaks_15 rfl rfl (fun c5 => ?_) (fun c5 => ?_)
    · replace h := h.1 c5
      refine aw_iload_n 65 dX5_speaks_64 rfl 3 rfl rfl ?_
      obtain ⟨g6, h⟩ := h
      exact aw_ireturn (ty := .boolean) dX5_speaks_65 rfl (narZ g6) (leb rfl) (leb rfl) ⟨_, rfl, h⟩
    · replace h := h.2 c5
      refine aw_iload_n 19 dX5_speaks_18 rfl 3 rfl rfl ?_
      refine aw_if_ne 52 22 dX5_speaks_19 rfl rfl (fun c7 => ?_) (fun c7 => ?_)
      · replace h := h.1 c7
        refine aw_iconst 53 (v := 1) dX5_speaks_52 kI_1 rfl ?_
        refine aw_goto 57 dX5_speaks_53 rfl ?_
        refine aw_istore_n 58 (lv' := [(3, _), (0, _), (1, _), (2, _), (4, _)]) dX5_speaks_57 rfl (ltb rfl) rfl rfl ?_
        refine aw_iinc 61 (v := 1) (lv' := [(4, _), (3, _), (0, _), (1, _), (2, _)]) dX5_speaks_58 4 rfl kI_1 (ltb rfl) rfl rfl ?_
        refine aw_goto 5 dX5_speaks_61 rfl ?_
        exact aw_pick [2, 3, 4, 1, 0] rfl h
      · replace h := h.2 c7
        refine aw_aload_n 23 dX5_speaks_22 rfl 0 rfl rfl ?_
        refine aw_getR 26 dX5_speaks_23 fl_RX5_7 rfl g1 g2 rfl ?_
        refine aw_iload 28 dX5_speaks_26 4 rfl rfl ?_
        refine aw_iconst 29 (v := 0) dX5_speaks_28 kI_0 rfl ?_
        refine aw_callS (M' := M_X5_at) 32 44 [.int _, .int _] [.ref _] dX5_speaks_29 lk_RX5_44 ms_X5_at mp_X5_at rfl ⟨leb rfl, leb rfl⟩ rfl (leb rfl) (leb rfl) (leb rfl) rfl (am_X5_at hG h) (kkI fun v9 X8 h => ?_) (kxN KrI.no)
        refine aw_widen (cc' := 0) (ss' := 0) (leb rfl) (leb rfl) ?_
        obtain ⟨g10, h⟩ := h
        obtain ⟨g11, h⟩ := h
        refine aw_iaload 33 dX5_speaks_32 g10 g11 rfl ?_
        refine aw_iload_n 34 dX5_speaks_33 rfl 2 rfl rfl ?_
        refine aw_icmp_ne 56 37 dX5_speaks_34 rfl rfl (fun c12 => ?_) (fun c12 => ?_)
        · replace h := h.1 c12
          refine aw_iconst 57 (v := 0) dX5_speaks_56 kI_0 rfl ?_
          refine aw_istore_n 58 (lv' := [(3, _), (0, _), (1, _), (2, _), (4, _)]) dX5_speaks_57 rfl (ltb rfl) rfl rfl ?_
          refine aw_iinc 61 (v := 1) (lv' := [(4, _), (3, _), (0, _), (1, _), (2, _)]) dX5_speaks_58 4 rfl kI_1 (ltb rfl) rfl rfl ?_
          refine aw_goto 5 dX5_speaks_61 rfl ?_
          exact aw_pick [2, 3, 4, 1, 0] rfl h
        · replace h := h.2 c12
          refine aw_aload_n 38 dX5_speaks_37 rfl 0 rfl rfl ?_
          obtain ⟨g13, h⟩ := h
          obtain ⟨g14, h⟩ := h
          refine aw_getR 41 dX5_speaks_38 fl_RX5_7 rfl g13 g14 rfl ?_
          refine aw_iload 43 dX5_speaks_41 4 rfl rfl ?_
          refine aw_iconst 44 (v := 1) dX5_speaks_43 kI_1 rfl ?_
          refine aw_callS (M' := M_X5_at) 47 44 [.int _, .int _] [.ref _] dX5_speaks_44 lk_RX5_44 ms_X5_at mp_X5_at rfl ⟨leb rfl, leb rfl⟩ rfl (leb rfl) (leb rfl) (leb rfl) rfl (am_X5_at hG h) (kkI fun v16 X15 h => ?_) (kxN KrI.no)
          refine aw_widen (cc' := 0) (ss' := 0) (leb rfl) (leb rfl) ?_
          obtain ⟨g17, h⟩ := h
          obtain ⟨g18, h⟩ := h
          refine aw_iaload 48 dX5_speaks_47 g17 g18 rfl ?_
          refine aw_iload_n 49 dX5_speaks_48 rfl 1 rfl rfl ?_
          refine aw_icmp_ne 56 52 dX5_speaks_49 rfl rfl (fun c19 => ?_) (fun c19 => ?_)
          · replace h := h.1 c19
            refine aw_iconst 57 (v := 0) dX5_speaks_56 kI_0 rfl ?_
            refine aw_istore_n 58 (lv' := [(3, _), (0, _), (1, _), (2, _), (4, _)]) dX5_speaks_57 rfl (ltb rfl) rfl rfl ?_
            refine aw_iinc 61 (v := 1) (lv' := [(4, _), (3, _), (0, _), (1, _), (2, _)]) dX5_speaks_58 4 rfl kI_1 (ltb rfl) rfl rfl ?_
            refine aw_goto 5 dX5_speaks_61 rfl ?_
            exact aw_pick [2, 3, 4, 1, 0] rfl h
          · replace h := h.2 c19
            refine aw_iconst 53 (v := 1) dX5_speaks_52 kI_1 rfl ?_
            refine aw_goto 57 dX5_speaks_53 rfl ?_
            refine aw_istore_n 58 (lv' := [(3, _), (0, _), (1, _), (2, _), (4, _)]) dX5_speaks_57 rfl (ltb rfl) rfl rfl ?_
            refine aw_iinc 61 (v := 1) (lv' := [(4, _), (3, _), (0, _), (1, _), (2, _)]) dX5_speaks_58 4 rfl kI_1 (ltb rfl) rfl rfl ?_
            refine aw_goto 5 dX5_speaks_61 rfl ?_
            exact aw_pick [2, 3, 4, 1, 0] rfl h)
set_option maxRecDepth 20000 in
theorem am_X5_speaks {G : GG} (hG : G.1.stackTraces = false) {l0 : Nat} {l1 : Int32} {l2 : Int32} {X : XH} {K : Int32 → XH → Prop} (h : w_X5_speaks l0 l1 l2 X K) : AM G M_X5_speaks X [.ref l0, .int l1, .int l2] (KrI K) := AM_of (by decide +kernel) rfl (leb rfl) hG (by
  show AW G M_X5_speaks 0 [(0, .ref l0), (1, .int l1), (2, .int l2)] [] X 0 0 _
  unfold w_X5_speaks at h
  refine aw_iconst 1 (v := 0) dX5_speaks_0 kI_0 rfl ?_
  refine aw_istore_n 2 (lv' := [(3, _), (0, _), (1, _), (2, _)]) dX5_speaks_1 rfl (ltb rfl) rfl rfl ?_
  refine aw_iconst 3 (v := 0) dX5_speaks_2 kI_0 rfl ?_
  refine aw_istore 5 (lv' := [(4, _), (3, _), (0, _), (1, _), (2, _)]) dX5_speaks_3 (ltb rfl) rfl rfl ?_
  exact aw_pick [2, 3, 4, 1, 0] rfl (aw_X5_speaks_5 hG  h))
set_option maxRecDepth 20000 in
theorem am_X5_signed {G : GG} (hG : G.1.stackTraces = false) {l0 : Nat} {l1 : Int32} {l2 : Int32} {l3 : Int32} {X : XH} {K : Int32 → XH → Prop} (h : w_X5_signed l0 l1 l2 l3 X K) : AM G M_X5_signed X [.ref l0, .int l1, .int l2, .int l3] (KrI K) := AM_of (by decide +kernel) rfl (leb rfl) hG (by
  show AW G M_X5_signed 0 [(0, .ref l0), (1, .int l1), (2, .int l2), (3, .int l3)] [] X 0 0 _
  unfold w_X5_signed at h
  refine aw_aload_n 1 dX5_signed_0 rfl 0 rfl rfl ?_
  obtain ⟨g1, h⟩ := h
  obtain ⟨g2, h⟩ := h
  refine aw_getR 4 dX5_signed_1 fl_RX5_7 rfl g1 g2 rfl ?_
  refine aw_sipush 7 (v := 354) dX5_signed_4 kS_354 rfl ?_
  refine aw_iconst 8 (v := 3) dX5_signed_7 kI_3 rfl ?_
  refine aw_iload_n 9 dX5_signed_8 rfl 2 rfl rfl ?_
  refine aw_imul 10 dX5_signed_9 rfl ?_
  refine aw_iadd 11 dX5_signed_10 rfl ?_
  refine aw_iload_n 12 dX5_signed_11 rfl 3 rfl rfl ?_
  refine aw_iadd 13 dX5_signed_12 rfl ?_
  obtain ⟨g3, h⟩ := h
  obtain ⟨g4, h⟩ := h
  refine aw_iaload 14 dX5_signed_13 g3 g4 rfl ?_
  refine aw_iload_n 15 dX5_signed_14 rfl 1 rfl rfl ?_
  refine aw_ishr 16 dX5_signed_15 rfl ?_
  refine aw_iconst 17 (v := 1) dX5_signed_16 kI_1 rfl ?_
  refine aw_iand 18 dX5_signed_17 rfl ?_
  refine aw_iconst 19 (v := 1) dX5_signed_18 kI_1 rfl ?_
  refine aw_icmp_ne 26 22 dX5_signed_19 rfl rfl (fun c5 => ?_) (fun c5 => ?_)
  · replace h := h.1 c5
    refine aw_iconst 27 (v := 0) dX5_signed_26 kI_0 rfl ?_
    exact aw_ireturn (ty := .boolean) dX5_signed_27 rfl rfl (leb rfl) (leb rfl) ⟨_, rfl, h⟩
  · replace h := h.2 c5
    refine aw_iconst 23 (v := 1) dX5_signed_22 kI_1 rfl ?_
    refine aw_goto 27 dX5_signed_23 rfl ?_
    exact aw_ireturn (ty := .boolean) dX5_signed_27 rfl rfl (leb rfl) (leb rfl) ⟨_, rfl, h⟩)
set_option maxRecDepth 20000 in
theorem aw_X5_missing_5 {G : GG} (hG : G.1.stackTraces = false)  {l0 : Nat} {l1 : Int32} {l2 : Int32} {l3 : Int32} {l4 : Int32} {X : XH} {K : Int32 → XH → Prop}  (h : w_X5_missing_5  l0 l1 l2 l3 l4 X K) : AW G M_X5_missing 5 [(0, .ref l0), (1, .int l1), (2, .int l2), (3, .int l3), (4, .int l4)] [] X 0 0 (KrI K) :=
  h (fun l0 l1 l2 l3 l4 X => AW G M_X5_missing 5 [(0, .ref l0), (1, .int l1), (2, .int l2), (3, .int l3), (4, .int l4)] [] X 0 0 (KrI K)) (fun l0 l1 l2 l3 l4 X h => by
    refine aw_iload 7 dX5_missing_5 4 rfl rfl ?_
    refine aw_iconst 8 (v := 5) dX5_missing_7 kI_5 rfl ?_
    refine aw_icmp_ge 46 11 dX5_missing_8 rfl rfl (fun c1 => ?_) (fun c1 => ?_)
    · replace h := h.1 c1
      refine aw_iload_n 47 dX5_missing_46 rfl 3 rfl rfl ?_
      exact aw_ireturn (ty := .int) dX5_missing_47 rfl rfl (leb rfl) (leb rfl) ⟨_, rfl, h⟩
    · replace h := h.2 c1
      refine aw_iload_n 12 dX5_missing_11 rfl 3 rfl rfl ?_
      refine aw_aload_n 13 dX5_missing_12 rfl 0 rfl rfl ?_
      refine aw_iload 15 dX5_missing_13 4 rfl rfl ?_
      refine aw_iload_n 16 dX5_missing_15 rfl 1 rfl rfl ?_
      obtain ⟨g4, h⟩ := h
      refine aw_callV (M' := M_X5_speaks) 19 116 5 l0 [.int _, .int _] [.int _] dX5_missing_16 lk_RX5_116 mv_X5_speaks mp_X5_speaks rfl ⟨leb rfl, leb rfl⟩ rfl (ltb rfl) g4 rfl (leb rfl) (leb rfl) (leb rfl) rfl (am_X5_speaks hG h) (kkI fun v3 X2 h => ?_) (kxN KrI.no)
      refine aw_widen (cc' := 0) (ss' := 0) (leb rfl) (leb rfl) ?_
      refine aw_if_eq 37 22 dX5_missing_19 rfl rfl (fun c5 => ?_) (fun c5 => ?_)
      · replace h := h.1 c5
        refine aw_iconst 38 (v := 0) dX5_missing_37 kI_0 rfl ?_
        refine aw_iadd 39 dX5_missing_38 rfl ?_
        refine aw_istore_n 40 (lv' := [(3, _), (0, _), (1, _), (2, _), (4, _)]) dX5_missing_39 rfl (ltb rfl) rfl rfl ?_
        refine aw_iinc 43 (v := 1) (lv' := [(4, _), (3, _), (0, _), (1, _), (2, _)]) dX5_missing_40 4 rfl kI_1 (ltb rfl) rfl rfl ?_
        refine aw_goto 5 dX5_missing_43 rfl ?_
        exact aw_pick [2, 3, 4, 1, 0] rfl h
      · replace h := h.2 c5
        refine aw_aload_n 23 dX5_missing_22 rfl 0 rfl rfl ?_
        refine aw_iload 25 dX5_missing_23 4 rfl rfl ?_
        refine aw_iload_n 26 dX5_missing_25 rfl 1 rfl rfl ?_
        refine aw_iload_n 27 dX5_missing_26 rfl 2 rfl rfl ?_
        obtain ⟨g8, h⟩ := h
        refine aw_callV (M' := M_X5_signed) 30 119 5 l0 [.int _, .int _, .int _] [.int _] dX5_missing_27 lk_RX5_119 mv_X5_signed mp_X5_signed rfl ⟨leb rfl, leb rfl⟩ rfl (ltb rfl) g8 rfl (leb rfl) (leb rfl) (leb rfl) rfl (am_X5_signed hG h) (kkI fun v7 X6 h => ?_) (kxN KrI.no)
        refine aw_widen (cc' := 0) (ss' := 0) (leb rfl) (leb rfl) ?_
        refine aw_if_ne 37 33 dX5_missing_30 rfl rfl (fun c9 => ?_) (fun c9 => ?_)
        · replace h := h.1 c9
          refine aw_iconst 38 (v := 0) dX5_missing_37 kI_0 rfl ?_
          refine aw_iadd 39 dX5_missing_38 rfl ?_
          refine aw_istore_n 40 (lv' := [(3, _), (0, _), (1, _), (2, _), (4, _)]) dX5_missing_39 rfl (ltb rfl) rfl rfl ?_
          refine aw_iinc 43 (v := 1) (lv' := [(4, _), (3, _), (0, _), (1, _), (2, _)]) dX5_missing_40 4 rfl kI_1 (ltb rfl) rfl rfl ?_
          refine aw_goto 5 dX5_missing_43 rfl ?_
          exact aw_pick [2, 3, 4, 1, 0] rfl h
        · replace h := h.2 c9
          refine aw_iconst 34 (v := 1) dX5_missing_33 kI_1 rfl ?_
          refine aw_goto 38 dX5_missing_34 rfl ?_
          refine aw_iadd 39 dX5_missing_38 rfl ?_
          refine aw_istore_n 40 (lv' := [(3, _), (0, _), (1, _), (2, _), (4, _)]) dX5_missing_39 rfl (ltb rfl) rfl rfl ?_
          refine aw_iinc 43 (v := 1) (lv' := [(4, _), (3, _), (0, _), (1, _), (2, _)]) dX5_missing_40 4 rfl kI_1 (ltb rfl) rfl rfl ?_
          refine aw_goto 5 dX5_missing_43 rfl ?_
          exact aw_pick [2, 3, 4, 1, 0] rfl h)
set_option maxRecDepth 20000 in
theorem am_X5_missing {G : GG} (hG : G.1.stackTraces = false) {l0 : Nat} {l1 : Int32} {l2 : Int32} {X : XH} {K : Int32 → XH → Prop} (h : w_X5_missing l0 l1 l2 X K) : AM G M_X5_missing X [.ref l0, .int l1, .int l2] (KrI K) := AM_of (by decide +kernel) rfl (leb rfl) hG (by
  show AW G M_X5_missing 0 [(0, .ref l0), (1, .int l1), (2, .int l2)] [] X 0 0 _
  unfold w_X5_missing at h
  refine aw_iconst 1 (v := 0) dX5_missing_0 kI_0 rfl ?_
  refine aw_istore_n 2 (lv' := [(3, _), (0, _), (1, _), (2, _)]) dX5_missing_1 rfl (ltb rfl) rfl rfl ?_
  refine aw_iconst 3 (v := 0) dX5_missing_2 kI_0 rfl ?_
  refine aw_istore 5 (lv' := [(4, _), (3, _), (0, _), (1, _), (2, _)]) dX5_missing_3 (ltb rfl) rfl rfl ?_
  exact aw_pick [2, 3, 4, 1, 0] rfl (aw_X5_missing_5 hG  h))
set_option maxRecDepth 20000 in
theorem aw_X5_sign_53 {G : GG} (hG : G.1.stackTraces = false)  {l0 : Nat} {l1 : Int32} {l2 : Int32} {l3 : Int32} {s0 : Nat} {s1 : Int32} {X : XH} {K : Int32 → XH → Prop}  (h : w_X5_sign_53  l0 l1 l2 l3 s0 s1 X K) : AW G M_X5_sign 53 [(0, .ref l0), (1, .int l1), (2, .int l2), (3, .int l3)] [.int s1, .ref s0] X 0 0 (KrI K) := by
  unfold w_X5_sign_53 at h
  obtain ⟨g3, h⟩ := h
  refine aw_callV (M' := M_X5_refused) 56 81 5 s0 [.int _] [] dX5_sign_53 lk_RX5_81 mv_X5_refused mp_X5_refused rfl ⟨leb rfl, leb rfl⟩ rfl (ltb rfl) g3 rfl (leb rfl) (leb rfl) (leb rfl) rfl (am_X5_refused hG h) (kkI fun v2 X1 h => ?_) (kxN KrI.no)
  refine aw_widen (cc' := 0) (ss' := 0) (leb rfl) (leb rfl) ?_
  refine aw_if_eq 61 59 dX5_sign_56 rfl rfl (fun c4 => ?_) (fun c4 => ?_)
  · replace h := h.1 c4
    refine aw_aload_n 62 dX5_sign_61 rfl 0 rfl rfl ?_
    obtain ⟨g6, h⟩ := h
    refine aw_callV (M' := M_X5_saves) 65 84 5 l0 [] [] dX5_sign_62 lk_RX5_84 mv_X5_saves mp_X5_saves rfl ⟨leb rfl, leb rfl⟩ rfl (ltb rfl) g6 rfl (leb rfl) (leb rfl) (leb rfl) rfl (am_X5_saves hG h) (kkV fun X5 h => ?_) (kxN KrV.no)
    refine aw_widen (cc' := 0) (ss' := 0) (leb rfl) (leb rfl) ?_
    refine aw_aload_n 66 dX5_sign_65 rfl 0 rfl rfl ?_
    obtain ⟨g7, h⟩ := h
    obtain ⟨g8, h⟩ := h
    refine aw_getR 69 dX5_sign_66 fl_RX5_7 rfl g7 g8 rfl ?_
    refine aw_sipush 72 (v := 354) dX5_sign_69 kS_354 rfl ?_
    refine aw_iconst 73 (v := 3) dX5_sign_72 kI_3 rfl ?_
    refine aw_iload_n 74 dX5_sign_73 rfl 2 rfl rfl ?_
    refine aw_imul 75 dX5_sign_74 rfl ?_
    refine aw_iadd 76 dX5_sign_75 rfl ?_
    refine aw_iload_n 77 dX5_sign_76 rfl 3 rfl rfl ?_
    refine aw_iadd 78 dX5_sign_77 rfl ?_
    refine aw_dup2 79 dX5_sign_78 rfl rfl rfl ?_
    obtain ⟨g9, h⟩ := h
    obtain ⟨g10, h⟩ := h
    refine aw_iaload 80 dX5_sign_79 g9 g10 rfl ?_
    refine aw_iconst 81 (v := 1) dX5_sign_80 kI_1 rfl ?_
    refine aw_iload_n 82 dX5_sign_81 rfl 1 rfl rfl ?_
    refine aw_ishl 83 dX5_sign_82 rfl ?_
    refine aw_ior 84 dX5_sign_83 rfl ?_
    refine aw_iastore 85 dX5_sign_84 g9 g10 rfl ?_
    refine aw_aload_n 86 dX5_sign_85 rfl 0 rfl rfl ?_
    refine aw_iload_n 87 dX5_sign_86 rfl 2 rfl rfl ?_
    refine aw_iload_n 88 dX5_sign_87 rfl 3 rfl rfl ?_
    refine aw_callV (M' := M_X5_missing) 91 122 5 l0 [.int _, .int _] [] dX5_sign_88 lk_RX5_122 mv_X5_missing mp_X5_missing rfl ⟨leb rfl, leb rfl⟩ rfl (ltb rfl) g7 rfl (leb rfl) (leb rfl) (leb rfl) rfl (am_X5_missing hG h) (kkI fun v12 X11 h => ?_) (kxN KrI.no)
    refine aw_widen (cc' := 0) (ss' := 0) (leb rfl) (leb rfl) ?_
    exact aw_ireturn (ty := .int) dX5_sign_91 rfl rfl (leb rfl) (leb rfl) ⟨_, rfl, h⟩
  · replace h := h.2 c4
    refine aw_iconst 60 (v := 0) dX5_sign_59 kI_0 rfl ?_
    exact aw_ireturn (ty := .int) dX5_sign_60 rfl rfl (leb rfl) (leb rfl) ⟨_, rfl, h⟩
set_option maxRecDepth 20000 in
theorem am_X5_sign {G : GG} (hG : G.1.stackTraces = false) {l0 : Nat} {l1 : Int32} {l2 : Int32} {l3 : Int32} {X : XH} {K : Int32 → XH → Prop} (h : w_X5_sign l0 l1 l2 l3 X K) : AM G M_X5_sign X [.ref l0, .int l1, .int l2, .int l3] (KrI K) := AM_of (by decide +kernel) rfl (leb rfl) hG (by
  show AW G M_X5_sign 0 [(0, .ref l0), (1, .int l1), (2, .int l2), (3, .int l3)] [] X 0 0 _
  unfold w_X5_sign at h
  refine aw_aload_n 1 dX5_sign_0 rfl 0 rfl rfl ?_
  refine aw_iload_n 2 dX5_sign_1 rfl 1 rfl rfl ?_
  refine aw_callS (M' := M_X5_isState) 5 78 [.int _] [.ref _] dX5_sign_2 lk_RX5_78 ms_X5_isState mp_X5_isState rfl ⟨leb rfl, leb rfl⟩ rfl (leb rfl) (leb rfl) (leb rfl) rfl (am_X5_isState hG h) (kkI fun v2 X1 h => ?_) (kxN KrI.no)
  refine aw_widen (cc' := 0) (ss' := 0) (leb rfl) (leb rfl) ?_
  refine aw_if_eq 16 8 dX5_sign_5 rfl rfl (fun c3 => ?_) (fun c3 => ?_)
  · replace h := h.1 c3
    refine aw_iconst 17 (v := 1) dX5_sign_16 kI_1 rfl ?_
    refine aw_goto 53 dX5_sign_17 rfl ?_
    exact aw_pick [0, 1, 2, 3] rfl (aw_X5_sign_53 hG  h)
  · replace h := h.2 c3
    refine aw_iload_n 9 dX5_sign_8 rfl 2 rfl rfl ?_
    refine aw_iload_n 10 dX5_sign_9 rfl 3 rfl rfl ?_
    refine aw_callS (M' := M_X5_isPlace) 13 107 [.int _, .int _] [.ref _] dX5_sign_10 lk_RX5_107 ms_X5_isPlace mp_X5_isPlace rfl ⟨leb rfl, leb rfl⟩ rfl (leb rfl) (leb rfl) (leb rfl) rfl (am_X5_isPlace hG h) (kkI fun v5 X4 h => ?_) (kxN KrI.no)
    refine aw_widen (cc' := 0) (ss' := 0) (leb rfl) (leb rfl) ?_
    refine aw_if_ne 20 16 dX5_sign_13 rfl rfl (fun c6 => ?_) (fun c6 => ?_)
    · replace h := h.1 c6
      refine aw_aload_n 21 dX5_sign_20 rfl 0 rfl rfl ?_
      refine aw_iload_n 22 dX5_sign_21 rfl 2 rfl rfl ?_
      refine aw_iload_n 23 dX5_sign_22 rfl 3 rfl rfl ?_
      obtain ⟨g9, h⟩ := h
      refine aw_callV (M' := M_X5_mixed) 26 110 5 l0 [.int _, .int _] [.ref _] dX5_sign_23 lk_RX5_110 mv_X5_mixed mp_X5_mixed rfl ⟨leb rfl, leb rfl⟩ rfl (ltb rfl) g9 rfl (leb rfl) (leb rfl) (leb rfl) rfl (am_X5_mixed hG h) (kkI fun v8 X7 h => ?_) (kxN KrI.no)
      refine aw_widen (cc' := 0) (ss' := 0) (leb rfl) (leb rfl) ?_
      refine aw_if_eq 48 29 dX5_sign_26 rfl rfl (fun c10 => ?_) (fun c10 => ?_)
      · replace h := h.1 c10
        refine aw_iconst 49 (v := 2) dX5_sign_48 kI_2 rfl ?_
        refine aw_goto 53 dX5_sign_49 rfl ?_
        exact aw_pick [0, 1, 2, 3] rfl (aw_X5_sign_53 hG  h)
      · replace h := h.2 c10
        refine aw_aload_n 30 dX5_sign_29 rfl 0 rfl rfl ?_
        refine aw_iload_n 31 dX5_sign_30 rfl 1 rfl rfl ?_
        refine aw_iload_n 32 dX5_sign_31 rfl 2 rfl rfl ?_
        obtain ⟨g13, h⟩ := h
        refine aw_callV (M' := M_X5_speaks) 35 116 5 l0 [.int _, .int _] [.ref _] dX5_sign_32 lk_RX5_116 mv_X5_speaks mp_X5_speaks rfl ⟨leb rfl, leb rfl⟩ rfl (ltb rfl) g13 rfl (leb rfl) (leb rfl) (leb rfl) rfl (am_X5_speaks hG h) (kkI fun v12 X11 h => ?_) (kxN KrI.no)
        refine aw_widen (cc' := 0) (ss' := 0) (leb rfl) (leb rfl) ?_
        refine aw_if_eq 48 38 dX5_sign_35 rfl rfl (fun c14 => ?_) (fun c14 => ?_)
        · replace h := h.1 c14
          refine aw_iconst 49 (v := 2) dX5_sign_48 kI_2 rfl ?_
          refine aw_goto 53 dX5_sign_49 rfl ?_
          exact aw_pick [0, 1, 2, 3] rfl (aw_X5_sign_53 hG  h)
        · replace h := h.2 c14
          refine aw_aload_n 39 dX5_sign_38 rfl 0 rfl rfl ?_
          refine aw_iload_n 40 dX5_sign_39 rfl 1 rfl rfl ?_
          refine aw_iload_n 41 dX5_sign_40 rfl 2 rfl rfl ?_
          refine aw_iload_n 42 dX5_sign_41 rfl 3 rfl rfl ?_
          obtain ⟨g17, h⟩ := h
          refine aw_callV (M' := M_X5_signed) 45 119 5 l0 [.int _, .int _, .int _] [.ref _] dX5_sign_42 lk_RX5_119 mv_X5_signed mp_X5_signed rfl ⟨leb rfl, leb rfl⟩ rfl (ltb rfl) g17 rfl (leb rfl) (leb rfl) (leb rfl) rfl (am_X5_signed hG h) (kkI fun v16 X15 h => ?_) (kxN KrI.no)
          refine aw_widen (cc' := 0) (ss' := 0) (leb rfl) (leb rfl) ?_
          refine aw_if_eq 52 48 dX5_sign_45 rfl rfl (fun c18 => ?_) (fun c18 => ?_)
          · replace h := h.1 c18
            refine aw_iconst 53 (v := 0) dX5_sign_52 kI_0 rfl ?_
            exact aw_pick [0, 1, 2, 3] rfl (aw_X5_sign_53 hG  h)
          · replace h := h.2 c18
            refine aw_iconst 49 (v := 2) dX5_sign_48 kI_2 rfl ?_
            refine aw_goto 53 dX5_sign_49 rfl ?_
            exact aw_pick [0, 1, 2, 3] rfl (aw_X5_sign_53 hG  h)
    · replace h := h.2 c6
      refine aw_iconst 17 (v := 1) dX5_sign_16 kI_1 rfl ?_
      refine aw_goto 53 dX5_sign_17 rfl ?_
      exact aw_pick [0, 1, 2, 3] rfl (aw_X5_sign_53 hG  h))
set_option maxRecDepth 20000 in
theorem aw_X5_append_30 {G : GG} (hG : G.1.stackTraces = false)  {l0 : Nat} {l1 : Int32} {s0 : Nat} {s1 : Int32} {X : XH} {K : Int32 → XH → Prop}  (h : w_X5_append_30  l0 l1 s0 s1 X K) : AW G M_X5_append 30 [(0, .ref l0), (1, .int l1)] [.int s1, .ref s0] X 0 0 (KrI K) := by
  unfold w_X5_append_30 at h
  obtain ⟨g3, h⟩ := h
  refine aw_callV (M' := M_X5_refused) 33 81 5 s0 [.int _] [] dX5_append_30 lk_RX5_81 mv_X5_refused mp_X5_refused rfl ⟨leb rfl, leb rfl⟩ rfl (ltb rfl) g3 rfl (leb rfl) (leb rfl) (leb rfl) rfl (am_X5_refused hG h) (kkI fun v2 X1 h => ?_) (kxN KrI.no)
  refine aw_widen (cc' := 0) (ss' := 0) (leb rfl) (leb rfl) ?_
  refine aw_if_eq 38 36 dX5_append_33 rfl rfl (fun c4 => ?_) (fun c4 => ?_)
  · replace h := h.1 c4
    refine aw_aload_n 39 dX5_append_38 rfl 0 rfl rfl ?_
    obtain ⟨g5, h⟩ := h
    obtain ⟨g6, h⟩ := h
    refine aw_getR 42 dX5_append_39 fl_RX5_23 rfl g5 g6 rfl ?_
    refine aw_aload_n 43 dX5_append_42 rfl 0 rfl rfl ?_
    refine aw_getI 46 dX5_append_43 fl_RX5_125 rfl g5 rfl ?_
    refine aw_iload_n 47 dX5_append_46 rfl 1 rfl rfl ?_
    obtain ⟨g7, h⟩ := h
    obtain ⟨g8, h⟩ := h
    refine aw_iastore 48 dX5_append_47 g7 g8 rfl ?_
    refine aw_aload_n 49 dX5_append_48 rfl 0 rfl rfl ?_
    refine aw_dup 50 dX5_append_49 rfl rfl ?_
    refine aw_getI 53 dX5_append_50 fl_RX5_125 rfl g5 rfl ?_
    refine aw_iconst 54 (v := 1) dX5_append_53 kI_1 rfl ?_
    refine aw_iadd 55 dX5_append_54 rfl ?_
    refine aw_putI 58 dX5_append_55 fl_RX5_125 rfl rfl rfl rfl g5 rfl ?_
    refine aw_aload_n 59 dX5_append_58 rfl 0 rfl rfl ?_
    refine aw_getI 62 dX5_append_59 fl_RX5_125 rfl g5 rfl ?_
    exact aw_ireturn (ty := .int) dX5_append_62 rfl rfl (leb rfl) (leb rfl) ⟨_, rfl, h⟩
  · replace h := h.2 c4
    refine aw_iconst 37 (v := 0) dX5_append_36 kI_0 rfl ?_
    exact aw_ireturn (ty := .int) dX5_append_37 rfl rfl (leb rfl) (leb rfl) ⟨_, rfl, h⟩
set_option maxRecDepth 20000 in
theorem am_X5_append {G : GG} (hG : G.1.stackTraces = false) {l0 : Nat} {l1 : Int32} {X : XH} {K : Int32 → XH → Prop} (h : w_X5_append l0 l1 X K) : AM G M_X5_append X [.ref l0, .int l1] (KrI K) := AM_of (by decide +kernel) rfl (leb rfl) hG (by
  show AW G M_X5_append 0 [(0, .ref l0), (1, .int l1)] [] X 0 0 _
  unfold w_X5_append at h
  refine aw_aload_n 1 dX5_append_0 rfl 0 rfl rfl ?_
  refine aw_iload_n 2 dX5_append_1 rfl 1 rfl rfl ?_
  refine aw_bipush 4 (v := 33) dX5_append_2 kB_33 rfl ?_
  refine aw_bipush 6 (v := 126) dX5_append_4 kB_126 rfl ?_
  refine aw_callS (M' := M_X5_in) 9 30 [.int _, .int _, .int _] [.ref _] dX5_append_6 lk_RX5_30 ms_X5_in mp_X5_in rfl ⟨leb rfl, leb rfl⟩ rfl (leb rfl) (leb rfl) (leb rfl) rfl (am_X5_in hG h) (kkI fun v2 X1 h => ?_) (kxN KrI.no)
  refine aw_widen (cc' := 0) (ss' := 0) (leb rfl) (leb rfl) ?_
  refine aw_if_ne 16 12 dX5_append_9 rfl rfl (fun c3 => ?_) (fun c3 => ?_)
  · replace h := h.1 c3
    refine aw_aload_n 17 dX5_append_16 rfl 0 rfl rfl ?_
    obtain ⟨g4, h⟩ := h
    refine aw_getI 20 dX5_append_17 fl_RX5_125 rfl g4 rfl ?_
    refine aw_bipush 22 (v := 60) dX5_append_20 kB_60 rfl ?_
    refine aw_icmp_ne 29 25 dX5_append_22 rfl rfl (fun c5 => ?_) (fun c5 => ?_)
    · replace h := h.1 c5
      refine aw_iconst 30 (v := 0) dX5_append_29 kI_0 rfl ?_
      exact aw_pick [0, 1] rfl (aw_X5_append_30 hG  h)
    · replace h := h.2 c5
      refine aw_iconst 26 (v := 2) dX5_append_25 kI_2 rfl ?_
      refine aw_goto 30 dX5_append_26 rfl ?_
      exact aw_pick [0, 1] rfl (aw_X5_append_30 hG  h)
  · replace h := h.2 c3
    refine aw_iconst 13 (v := 1) dX5_append_12 kI_1 rfl ?_
    refine aw_goto 30 dX5_append_13 rfl ?_
    exact aw_pick [0, 1] rfl (aw_X5_append_30 hG  h))
set_option maxRecDepth 20000 in
theorem am_X4_clearBuffer {G : GG} (hG : G.1.stackTraces = false) {l0 : Nat} {X : XH} {K : Int32 → XH → Prop} (h : w_X4_clearBuffer l0 X K) : AM G M_X4_clearBuffer X [.ref l0] (KrI K) := AM_of (by decide +kernel) rfl (leb rfl) hG (by
  show AW G M_X4_clearBuffer 0 [(0, .ref l0)] [] X 0 0 _
  unfold w_X4_clearBuffer at h
  refine aw_aload_n 1 dX4_clearBuffer_0 rfl 0 rfl rfl ?_
  obtain ⟨g1, h⟩ := h
  obtain ⟨g2, h⟩ := h
  refine aw_getR 4 dX4_clearBuffer_1 fl_RX4_34 rfl g1 g2 rfl ?_
  obtain ⟨g3, h⟩ := h
  refine aw_getI 7 dX4_clearBuffer_4 fl_RX4_226 rfl g3 rfl ?_
  refine aw_istore_n 8 (lv' := [(1, _), (0, _)]) dX4_clearBuffer_7 rfl (ltb rfl) rfl rfl ?_
  refine aw_aload_n 9 dX4_clearBuffer_8 rfl 1 rfl rfl ?_
  refine aw_getR 12 dX4_clearBuffer_9 fl_RX4_34 rfl g1 g2 rfl ?_
  refine aw_iconst 13 (v := 0) dX4_clearBuffer_12 kI_0 rfl ?_
  refine aw_putI 16 dX4_clearBuffer_13 fl_RX4_226 rfl rfl rfl rfl g3 rfl ?_
  refine aw_iload_n 17 dX4_clearBuffer_16 rfl 0 rfl rfl ?_
  exact aw_ireturn (ty := .int) dX4_clearBuffer_17 rfl rfl (leb rfl) (leb rfl) ⟨_, rfl, h⟩)
set_option maxRecDepth 20000 in
theorem am_X5_clearBuffer {G : GG} (hG : G.1.stackTraces = false) {l0 : Nat} {X : XH} {K : Int32 → XH → Prop} (h : w_X5_clearBuffer l0 X K) : AM G M_X5_clearBuffer X [.ref l0] (KrI K) := AM_of (by decide +kernel) rfl (leb rfl) hG (by
  show AW G M_X5_clearBuffer 0 [(0, .ref l0)] [] X 0 0 _
  unfold w_X5_clearBuffer at h
  refine aw_aload_n 1 dX5_clearBuffer_0 rfl 0 rfl rfl ?_
  refine aw_iconst 2 (v := 0) dX5_clearBuffer_1 kI_0 rfl ?_
  obtain ⟨g1, h⟩ := h
  refine aw_putI 5 dX5_clearBuffer_2 fl_RX5_26 rfl rfl rfl rfl g1 rfl ?_
  refine aw_aload_n 6 dX5_clearBuffer_5 rfl 0 rfl rfl ?_
  refine aw_getI 9 dX5_clearBuffer_6 fl_RX5_125 rfl g1 rfl ?_
  refine aw_istore_n 10 (lv' := [(1, _), (0, _)]) dX5_clearBuffer_9 rfl (ltb rfl) rfl rfl ?_
  refine aw_aload_n 11 dX5_clearBuffer_10 rfl 1 rfl rfl ?_
  refine aw_iconst 12 (v := 0) dX5_clearBuffer_11 kI_0 rfl ?_
  refine aw_putI 15 dX5_clearBuffer_12 fl_RX5_125 rfl rfl rfl rfl g1 rfl ?_
  refine aw_iload_n 16 dX5_clearBuffer_15 rfl 0 rfl rfl ?_
  exact aw_ireturn (ty := .int) dX5_clearBuffer_16 rfl rfl (leb rfl) (leb rfl) ⟨_, rfl, h⟩)
set_option maxRecDepth 20000 in
theorem am_X0_acceptsReel {G : GG} (hG : G.1.stackTraces = false) {l0 : Nat} {l1 : Int32} {X : XH} {K : Int32 → XH → Prop} (h : w_X0_acceptsReel l0 l1 X K) : AM G M_X0_acceptsReel X [.ref l0, .int l1] (KrI K) := AM_of (by decide +kernel) rfl (leb rfl) hG (by
  show AW G M_X0_acceptsReel 0 [(0, .ref l0), (1, .int l1)] [] X 0 0 _
  unfold w_X0_acceptsReel at h
  refine aw_iload_n 1 dX0_acceptsReel_0 rfl 1 rfl rfl ?_
  refine aw_bipush 3 (v := 48) dX0_acceptsReel_1 kB_48 rfl ?_
  refine aw_icmp_lt 12 6 dX0_acceptsReel_3 rfl rfl (fun c1 => ?_) (fun c1 => ?_)
  · replace h := h.1 c1
    refine aw_iconst 13 (v := 0) dX0_acceptsReel_12 kI_0 rfl ?_
    exact aw_ireturn (ty := .boolean) dX0_acceptsReel_13 rfl rfl (leb rfl) (leb rfl) ⟨_, rfl, h⟩
  · replace h := h.2 c1
    refine aw_iload_n 7 dX0_acceptsReel_6 rfl 1 rfl rfl ?_
    refine aw_bipush 9 (v := 52) dX0_acceptsReel_7 kB_52 rfl ?_
    refine aw_icmp_lt 14 12 dX0_acceptsReel_9 rfl rfl (fun c2 => ?_) (fun c2 => ?_)
    · replace h := h.1 c2
      refine aw_aload_n 15 dX0_acceptsReel_14 rfl 0 rfl rfl ?_
      obtain ⟨g3, h⟩ := h
      obtain ⟨g4, h⟩ := h
      refine aw_getR 18 dX0_acceptsReel_15 fl_RX0_15 rfl g3 g4 rfl ?_
      refine aw_aload_n 19 dX0_acceptsReel_18 rfl 0 rfl rfl ?_
      refine aw_getI 22 dX0_acceptsReel_19 fl_RX0_35 rfl g3 rfl ?_
      refine aw_iload_n 23 dX0_acceptsReel_22 rfl 1 rfl rfl ?_
      refine aw_bipush 25 (v := 48) dX0_acceptsReel_23 kB_48 rfl ?_
      refine aw_isub 26 dX0_acceptsReel_25 rfl ?_
      refine aw_callSN (M' := M_X4_put) 29 31 [.ref _, .int _, .int _] [] dX0_acceptsReel_26 (by decide) ms_X4_put mp_X4_put rfl ⟨leb rfl, leb rfl⟩ rfl (leb rfl) (leb rfl) (leb rfl) rfl (am_X4_put hG h) (kkV fun X5 h => ?_) KrV.no
      refine aw_widen (cc' := 0) (ss' := 0) (leb rfl) (leb rfl) ?_
      refine aw_aload_n 30 dX0_acceptsReel_29 rfl 0 rfl rfl ?_
      refine aw_iconst 31 (v := 1) dX0_acceptsReel_30 kI_1 rfl ?_
      obtain ⟨g6, h⟩ := h
      refine aw_putI 34 dX0_acceptsReel_31 fl_RX0_38 rfl rfl rfl rfl g6 rfl ?_
      refine aw_iconst 35 (v := 1) dX0_acceptsReel_34 kI_1 rfl ?_
      exact aw_ireturn (ty := .boolean) dX0_acceptsReel_35 rfl rfl (leb rfl) (leb rfl) ⟨_, rfl, h⟩
    · replace h := h.2 c2
      refine aw_iconst 13 (v := 0) dX0_acceptsReel_12 kI_0 rfl ?_
      exact aw_ireturn (ty := .boolean) dX0_acceptsReel_13 rfl rfl (leb rfl) (leb rfl) ⟨_, rfl, h⟩)
set_option maxRecDepth 20000 in
theorem am_X0_acceptsSpeaker {G : GG} (hG : G.1.stackTraces = false) {l0 : Nat} {l1 : Int32} {X : XH} {K : Int32 → XH → Prop} (h : w_X0_acceptsSpeaker l0 l1 X K) : AM G M_X0_acceptsSpeaker X [.ref l0, .int l1] (KrI K) := AM_of (by decide +kernel) rfl (leb rfl) hG (by
  show AW G M_X0_acceptsSpeaker 0 [(0, .ref l0), (1, .int l1)] [] X 0 0 _
  unfold w_X0_acceptsSpeaker at h
  refine aw_iload_n 1 dX0_acceptsSpeaker_0 rfl 1 rfl rfl ?_
  refine aw_bipush 3 (v := 65) dX0_acceptsSpeaker_1 kB_65 rfl ?_
  refine aw_icmp_lt 12 6 dX0_acceptsSpeaker_3 rfl rfl (fun c1 => ?_) (fun c1 => ?_)
  · replace h := h.1 c1
    refine aw_iconst 13 (v := 0) dX0_acceptsSpeaker_12 kI_0 rfl ?_
    exact aw_ireturn (ty := .boolean) dX0_acceptsSpeaker_13 rfl rfl (leb rfl) (leb rfl) ⟨_, rfl, h⟩
  · replace h := h.2 c1
    refine aw_iload_n 7 dX0_acceptsSpeaker_6 rfl 1 rfl rfl ?_
    refine aw_bipush 9 (v := 70) dX0_acceptsSpeaker_7 kB_70 rfl ?_
    refine aw_icmp_lt 14 12 dX0_acceptsSpeaker_9 rfl rfl (fun c2 => ?_) (fun c2 => ?_)
    · replace h := h.1 c2
      refine aw_aload_n 15 dX0_acceptsSpeaker_14 rfl 0 rfl rfl ?_
      obtain ⟨g3, h⟩ := h
      obtain ⟨g4, h⟩ := h
      refine aw_getR 18 dX0_acceptsSpeaker_15 fl_RX0_18 rfl g3 g4 rfl ?_
      refine aw_aload_n 19 dX0_acceptsSpeaker_18 rfl 0 rfl rfl ?_
      refine aw_getI 22 dX0_acceptsSpeaker_19 fl_RX0_35 rfl g3 rfl ?_
      refine aw_iload_n 23 dX0_acceptsSpeaker_22 rfl 1 rfl rfl ?_
      refine aw_bipush 25 (v := 65) dX0_acceptsSpeaker_23 kB_65 rfl ?_
      refine aw_isub 26 dX0_acceptsSpeaker_25 rfl ?_
      refine aw_callSN (M' := M_X4_put) 29 31 [.ref _, .int _, .int _] [] dX0_acceptsSpeaker_26 (by decide) ms_X4_put mp_X4_put rfl ⟨leb rfl, leb rfl⟩ rfl (leb rfl) (leb rfl) (leb rfl) rfl (am_X4_put hG h) (kkV fun X5 h => ?_) KrV.no
      refine aw_widen (cc' := 0) (ss' := 0) (leb rfl) (leb rfl) ?_
      refine aw_aload_n 30 dX0_acceptsSpeaker_29 rfl 0 rfl rfl ?_
      obtain ⟨g6, h⟩ := h
      obtain ⟨g7, h⟩ := h
      refine aw_getR 33 dX0_acceptsSpeaker_30 fl_RX0_21 rfl g6 g7 rfl ?_
      refine aw_aload_n 34 dX0_acceptsSpeaker_33 rfl 0 rfl rfl ?_
      refine aw_getI 37 dX0_acceptsSpeaker_34 fl_RX0_35 rfl g6 rfl ?_
      refine aw_iconst 38 (v := 0) dX0_acceptsSpeaker_37 kI_0 rfl ?_
      refine aw_callSN (M' := M_X4_put) 41 31 [.ref _, .int _, .int _] [] dX0_acceptsSpeaker_38 (by decide) ms_X4_put mp_X4_put rfl ⟨leb rfl, leb rfl⟩ rfl (leb rfl) (leb rfl) (leb rfl) rfl (am_X4_put hG h) (kkV fun X8 h => ?_) KrV.no
      refine aw_widen (cc' := 0) (ss' := 0) (leb rfl) (leb rfl) ?_
      refine aw_aload_n 42 dX0_acceptsSpeaker_41 rfl 0 rfl rfl ?_
      obtain ⟨g9, h⟩ := h
      obtain ⟨g10, h⟩ := h
      refine aw_getR 45 dX0_acceptsSpeaker_42 fl_RX0_24 rfl g9 g10 rfl ?_
      refine aw_aload_n 46 dX0_acceptsSpeaker_45 rfl 0 rfl rfl ?_
      refine aw_getI 49 dX0_acceptsSpeaker_46 fl_RX0_35 rfl g9 rfl ?_
      refine aw_iconst 50 (v := 0) dX0_acceptsSpeaker_49 kI_0 rfl ?_
      refine aw_callSN (M' := M_X4_put) 53 31 [.ref _, .int _, .int _] [] dX0_acceptsSpeaker_50 (by decide) ms_X4_put mp_X4_put rfl ⟨leb rfl, leb rfl⟩ rfl (leb rfl) (leb rfl) (leb rfl) rfl (am_X4_put hG h) (kkV fun X11 h => ?_) KrV.no
      refine aw_widen (cc' := 0) (ss' := 0) (leb rfl) (leb rfl) ?_
      refine aw_aload_n 54 dX0_acceptsSpeaker_53 rfl 0 rfl rfl ?_
      refine aw_iconst 55 (v := 2) dX0_acceptsSpeaker_54 kI_2 rfl ?_
      obtain ⟨g12, h⟩ := h
      refine aw_putI 58 dX0_acceptsSpeaker_55 fl_RX0_38 rfl rfl rfl rfl g12 rfl ?_
      refine aw_iconst 59 (v := 1) dX0_acceptsSpeaker_58 kI_1 rfl ?_
      exact aw_ireturn (ty := .boolean) dX0_acceptsSpeaker_59 rfl rfl (leb rfl) (leb rfl) ⟨_, rfl, h⟩
    · replace h := h.2 c2
      refine aw_iconst 13 (v := 0) dX0_acceptsSpeaker_12 kI_0 rfl ?_
      exact aw_ireturn (ty := .boolean) dX0_acceptsSpeaker_13 rfl rfl (leb rfl) (leb rfl) ⟨_, rfl, h⟩)
set_option maxRecDepth 20000 in
theorem am_X0_acceptsDigit {G : GG} (hG : G.1.stackTraces = false) {l0 : Nat} {l1 : Nat} {l2 : Int32} {l3 : Int32} {X : XH} {K : Int32 → XH → Prop} (h : w_X0_acceptsDigit l0 l1 l2 l3 X K) : AM G M_X0_acceptsDigit X [.ref l0, .ref l1, .int l2, .int l3] (KrI K) := AM_of (by decide +kernel) rfl (leb rfl) hG (by
  show AW G M_X0_acceptsDigit 0 [(0, .ref l0), (1, .ref l1), (2, .int l2), (3, .int l3)] [] X 0 0 _
  unfold w_X0_acceptsDigit at h
  refine aw_aload_n 1 dX0_acceptsDigit_0 rfl 1 rfl rfl ?_
  refine aw_aload_n 2 dX0_acceptsDigit_1 rfl 0 rfl rfl ?_
  obtain ⟨g1, h⟩ := h
  refine aw_getI 5 dX0_acceptsDigit_2 fl_RX0_35 rfl g1 rfl ?_
  refine aw_callSN (M' := M_X4_at) 8 41 [.ref _, .int _] [] dX0_acceptsDigit_5 (by decide) ms_X4_at mp_X4_at rfl ⟨leb rfl, leb rfl⟩ rfl (leb rfl) (leb rfl) (leb rfl) rfl (am_X4_at hG h) (kkI fun v3 X2 h => ?_) KrI.no
  refine aw_widen (cc' := 0) (ss' := 0) (leb rfl) (leb rfl) ?_
  refine aw_bipush 10 (v := 10) dX0_acceptsDigit_8 kB_10 rfl ?_
  refine aw_imul 11 dX0_acceptsDigit_10 rfl ?_
  refine aw_iload_n 12 dX0_acceptsDigit_11 rfl 2 rfl rfl ?_
  refine aw_iadd 13 dX0_acceptsDigit_12 rfl ?_
  refine aw_bipush 15 (v := 48) dX0_acceptsDigit_13 kB_48 rfl ?_
  refine aw_isub 16 dX0_acceptsDigit_15 rfl ?_
  refine aw_istore 18 (lv' := [(4, _), (0, _), (1, _), (2, _), (3, _)]) dX0_acceptsDigit_16 (ltb rfl) rfl rfl ?_
  refine aw_iload 20 dX0_acceptsDigit_18 0 rfl rfl ?_
  refine aw_iconst 21 (v := 1) dX0_acceptsDigit_20 kI_1 rfl ?_
  refine aw_icmp_lt 30 24 dX0_acceptsDigit_21 rfl rfl (fun c4 => ?_) (fun c4 => ?_)
  · replace h := h.1 c4
    refine aw_iconst 31 (v := 0) dX0_acceptsDigit_30 kI_0 rfl ?_
    exact aw_ireturn (ty := .boolean) dX0_acceptsDigit_31 rfl rfl (leb rfl) (leb rfl) ⟨_, rfl, h⟩
  · replace h := h.2 c4
    refine aw_iload 26 dX0_acceptsDigit_24 0 rfl rfl ?_
    refine aw_iload_n 27 dX0_acceptsDigit_26 rfl 4 rfl rfl ?_
    refine aw_icmp_le 32 30 dX0_acceptsDigit_27 rfl rfl (fun c5 => ?_) (fun c5 => ?_)
    · replace h := h.1 c5
      refine aw_aload_n 33 dX0_acceptsDigit_32 rfl 2 rfl rfl ?_
      refine aw_aload_n 34 dX0_acceptsDigit_33 rfl 1 rfl rfl ?_
      obtain ⟨g6, h⟩ := h
      refine aw_getI 37 dX0_acceptsDigit_34 fl_RX0_35 rfl g6 rfl ?_
      refine aw_iload 39 dX0_acceptsDigit_37 0 rfl rfl ?_
      refine aw_callSN (M' := M_X4_put) 42 31 [.ref _, .int _, .int _] [] dX0_acceptsDigit_39 (by decide) ms_X4_put mp_X4_put rfl ⟨leb rfl, leb rfl⟩ rfl (leb rfl) (leb rfl) (leb rfl) rfl (am_X4_put hG h) (kkV fun X7 h => ?_) KrV.no
      refine aw_widen (cc' := 0) (ss' := 0) (leb rfl) (leb rfl) ?_
      refine aw_iconst 43 (v := 1) dX0_acceptsDigit_42 kI_1 rfl ?_
      exact aw_ireturn (ty := .boolean) dX0_acceptsDigit_43 rfl rfl (leb rfl) (leb rfl) ⟨_, rfl, h⟩
    · replace h := h.2 c5
      refine aw_iconst 31 (v := 0) dX0_acceptsDigit_30 kI_0 rfl ?_
      exact aw_ireturn (ty := .boolean) dX0_acceptsDigit_31 rfl rfl (leb rfl) (leb rfl) ⟨_, rfl, h⟩)
set_option maxRecDepth 20000 in
theorem am_X0_acceptsEnd {G : GG} (hG : G.1.stackTraces = false) {l0 : Nat} {l1 : Int32} {X : XH} {K : Int32 → XH → Prop} (h : w_X0_acceptsEnd l0 l1 X K) : AM G M_X0_acceptsEnd X [.ref l0, .int l1] (KrI K) := AM_of (by decide +kernel) rfl (leb rfl) hG (by
  show AW G M_X0_acceptsEnd 0 [(0, .ref l0), (1, .int l1)] [] X 0 0 _
  unfold w_X0_acceptsEnd at h
  refine aw_iload_n 1 dX0_acceptsEnd_0 rfl 1 rfl rfl ?_
  refine aw_bipush 3 (v := 59) dX0_acceptsEnd_1 kB_59 rfl ?_
  refine aw_icmp_eq 8 6 dX0_acceptsEnd_3 rfl rfl (fun c1 => ?_) (fun c1 => ?_)
  · replace h := h.1 c1
    refine aw_aload_n 9 dX0_acceptsEnd_8 rfl 0 rfl rfl ?_
    refine aw_dup 10 dX0_acceptsEnd_9 rfl rfl ?_
    obtain ⟨g2, h⟩ := h
    refine aw_getI 13 dX0_acceptsEnd_10 fl_RX0_35 rfl g2 rfl ?_
    refine aw_iconst 14 (v := 1) dX0_acceptsEnd_13 kI_1 rfl ?_
    refine aw_iadd 15 dX0_acceptsEnd_14 rfl ?_
    refine aw_putI 18 dX0_acceptsEnd_15 fl_RX0_35 rfl rfl rfl rfl g2 rfl ?_
    refine aw_aload_n 19 dX0_acceptsEnd_18 rfl 0 rfl rfl ?_
    refine aw_iconst 20 (v := 0) dX0_acceptsEnd_19 kI_0 rfl ?_
    refine aw_putI 23 dX0_acceptsEnd_20 fl_RX0_38 rfl rfl rfl rfl g2 rfl ?_
    refine aw_iconst 24 (v := 1) dX0_acceptsEnd_23 kI_1 rfl ?_
    exact aw_ireturn (ty := .boolean) dX0_acceptsEnd_24 rfl rfl (leb rfl) (leb rfl) ⟨_, rfl, h⟩
  · replace h := h.2 c1
    refine aw_iconst 7 (v := 0) dX0_acceptsEnd_6 kI_0 rfl ?_
    exact aw_ireturn (ty := .boolean) dX0_acceptsEnd_7 rfl rfl (leb rfl) (leb rfl) ⟨_, rfl, h⟩)
set_option maxRecDepth 20000 in
theorem aw_X0_acceptsLips_24 {G : GG} (hG : G.1.stackTraces = false)  {l0 : Nat} {l1 : Int32} {X : XH} {K : Int32 → XH → Prop}  (h : w_X0_acceptsLips_24  l0 l1 X K) : AW G M_X0_acceptsLips 24 [(0, .ref l0), (1, .int l1)] [] X 0 0 (KrI K) := by
  unfold w_X0_acceptsLips_24 at h
  refine aw_aload_n 25 dX0_acceptsLips_24 rfl 0 rfl rfl ?_
  obtain ⟨g1, h⟩ := h
  obtain ⟨g2, h⟩ := h
  refine aw_getR 28 dX0_acceptsLips_25 fl_RX0_21 rfl g1 g2 rfl ?_
  refine aw_aload_n 29 dX0_acceptsLips_28 rfl 0 rfl rfl ?_
  refine aw_getI 32 dX0_acceptsLips_29 fl_RX0_35 rfl g1 rfl ?_
  refine aw_callSN (M' := M_X4_at) 35 41 [.ref _, .int _] [] dX0_acceptsLips_32 (by decide) ms_X4_at mp_X4_at rfl ⟨leb rfl, leb rfl⟩ rfl (leb rfl) (leb rfl) (leb rfl) rfl (am_X4_at hG h) (kkI fun v4 X3 h => ?_) KrI.no
  refine aw_widen (cc' := 0) (ss' := 0) (leb rfl) (leb rfl) ?_
  refine aw_iconst 36 (v := 4) dX0_acceptsLips_35 kI_4 rfl ?_
  refine aw_icmp_ge 41 39 dX0_acceptsLips_36 rfl rfl (fun c5 => ?_) (fun c5 => ?_)
  · replace h := h.1 c5
    refine aw_iload_n 42 dX0_acceptsLips_41 rfl 1 rfl rfl ?_
    refine aw_bipush 44 (v := 126) dX0_acceptsLips_42 kB_126 rfl ?_
    refine aw_icmp_ne 54 47 dX0_acceptsLips_44 rfl rfl (fun c6 => ?_) (fun c6 => ?_)
    · replace h := h.1 c6
      refine aw_aload_n 55 dX0_acceptsLips_54 rfl 0 rfl rfl ?_
      refine aw_iload_n 56 dX0_acceptsLips_55 rfl 1 rfl rfl ?_
      obtain ⟨g9, h⟩ := h
      refine aw_callV (M' := M_X0_acceptsEnd) 59 69 0 l0 [.int _] [] dX0_acceptsLips_56 lk_RX0_69 mv_X0_acceptsEnd mp_X0_acceptsEnd rfl ⟨leb rfl, leb rfl⟩ rfl (ltb rfl) g9 rfl (leb rfl) (leb rfl) (leb rfl) rfl (am_X0_acceptsEnd hG h) (kkI fun v8 X7 h => ?_) (kxN KrI.no)
      refine aw_widen (cc' := 0) (ss' := 0) (leb rfl) (leb rfl) ?_
      obtain ⟨g10, h⟩ := h
      exact aw_ireturn (ty := .boolean) dX0_acceptsLips_59 rfl (narZ g10) (leb rfl) (leb rfl) ⟨_, rfl, h⟩
    · replace h := h.2 c6
      refine aw_aload_n 48 dX0_acceptsLips_47 rfl 0 rfl rfl ?_
      refine aw_iconst 49 (v := 3) dX0_acceptsLips_48 kI_3 rfl ?_
      obtain ⟨g11, h⟩ := h
      refine aw_putI 52 dX0_acceptsLips_49 fl_RX0_38 rfl rfl rfl rfl g11 rfl ?_
      refine aw_iconst 53 (v := 1) dX0_acceptsLips_52 kI_1 rfl ?_
      exact aw_ireturn (ty := .boolean) dX0_acceptsLips_53 rfl rfl (leb rfl) (leb rfl) ⟨_, rfl, h⟩
  · replace h := h.2 c5
    refine aw_iconst 40 (v := 0) dX0_acceptsLips_39 kI_0 rfl ?_
    exact aw_ireturn (ty := .boolean) dX0_acceptsLips_40 rfl rfl (leb rfl) (leb rfl) ⟨_, rfl, h⟩
set_option maxRecDepth 20000 in
theorem am_X0_acceptsLips {G : GG} (hG : G.1.stackTraces = false) {l0 : Nat} {l1 : Int32} {X : XH} {K : Int32 → XH → Prop} (h : w_X0_acceptsLips l0 l1 X K) : AM G M_X0_acceptsLips X [.ref l0, .int l1] (KrI K) := AM_of (by decide +kernel) rfl (leb rfl) hG (by
  show AW G M_X0_acceptsLips 0 [(0, .ref l0), (1, .int l1)] [] X 0 0 _
  unfold w_X0_acceptsLips at h
  refine aw_iload_n 1 dX0_acceptsLips_0 rfl 1 rfl rfl ?_
  refine aw_bipush 3 (v := 48) dX0_acceptsLips_1 kB_48 rfl ?_
  refine aw_icmp_lt 24 6 dX0_acceptsLips_3 rfl rfl (fun c1 => ?_) (fun c1 => ?_)
  · replace h := h.1 c1
    exact aw_pick [0, 1] rfl (aw_X0_acceptsLips_24 hG  h)
  · replace h := h.2 c1
    refine aw_iload_n 7 dX0_acceptsLips_6 rfl 1 rfl rfl ?_
    refine aw_bipush 9 (v := 57) dX0_acceptsLips_7 kB_57 rfl ?_
    refine aw_icmp_gt 24 12 dX0_acceptsLips_9 rfl rfl (fun c2 => ?_) (fun c2 => ?_)
    · replace h := h.1 c2
      exact aw_pick [0, 1] rfl (aw_X0_acceptsLips_24 hG  h)
    · replace h := h.2 c2
      refine aw_aload_n 13 dX0_acceptsLips_12 rfl 0 rfl rfl ?_
      refine aw_aload_n 14 dX0_acceptsLips_13 rfl 0 rfl rfl ?_
      obtain ⟨g3, h⟩ := h
      obtain ⟨g4, h⟩ := h
      refine aw_getR 17 dX0_acceptsLips_14 fl_RX0_21 rfl g3 g4 rfl ?_
      refine aw_iload_n 18 dX0_acceptsLips_17 rfl 1 rfl rfl ?_
      refine aw_bipush 20 (v := 60) dX0_acceptsLips_18 kB_60 rfl ?_
      refine aw_callV (M' := M_X0_acceptsDigit) 23 65 0 l0 [.ref _, .int _, .int _] [] dX0_acceptsLips_20 lk_RX0_65 mv_X0_acceptsDigit mp_X0_acceptsDigit rfl ⟨leb rfl, leb rfl⟩ rfl (ltb rfl) g3 rfl (leb rfl) (leb rfl) (leb rfl) rfl (am_X0_acceptsDigit hG h) (kkI fun v6 X5 h => ?_) (kxN KrI.no)
      refine aw_widen (cc' := 0) (ss' := 0) (leb rfl) (leb rfl) ?_
      obtain ⟨g7, h⟩ := h
      exact aw_ireturn (ty := .boolean) dX0_acceptsLips_23 rfl (narZ g7) (leb rfl) (leb rfl) ⟨_, rfl, h⟩)
set_option maxRecDepth 20000 in
theorem aw_X0_acceptsSigh_24 {G : GG} (hG : G.1.stackTraces = false)  {l0 : Nat} {l1 : Int32} {X : XH} {K : Int32 → XH → Prop}  (h : w_X0_acceptsSigh_24  l0 l1 X K) : AW G M_X0_acceptsSigh 24 [(0, .ref l0), (1, .int l1)] [] X 0 0 (KrI K) := by
  unfold w_X0_acceptsSigh_24 at h
  refine aw_aload_n 25 dX0_acceptsSigh_24 rfl 0 rfl rfl ?_
  obtain ⟨g1, h⟩ := h
  obtain ⟨g2, h⟩ := h
  refine aw_getR 28 dX0_acceptsSigh_25 fl_RX0_24 rfl g1 g2 rfl ?_
  refine aw_aload_n 29 dX0_acceptsSigh_28 rfl 0 rfl rfl ?_
  refine aw_getI 32 dX0_acceptsSigh_29 fl_RX0_35 rfl g1 rfl ?_
  refine aw_callSN (M' := M_X4_at) 35 41 [.ref _, .int _] [] dX0_acceptsSigh_32 (by decide) ms_X4_at mp_X4_at rfl ⟨leb rfl, leb rfl⟩ rfl (leb rfl) (leb rfl) (leb rfl) rfl (am_X4_at hG h) (kkI fun v4 X3 h => ?_) KrI.no
  refine aw_widen (cc' := 0) (ss' := 0) (leb rfl) (leb rfl) ?_
  refine aw_iconst 36 (v := 1) dX0_acceptsSigh_35 kI_1 rfl ?_
  refine aw_icmp_lt 51 39 dX0_acceptsSigh_36 rfl rfl (fun c5 => ?_) (fun c5 => ?_)
  · replace h := h.1 c5
    refine aw_iconst 52 (v := 0) dX0_acceptsSigh_51 kI_0 rfl ?_
    exact aw_ireturn (ty := .boolean) dX0_acceptsSigh_52 rfl rfl (leb rfl) (leb rfl) ⟨_, rfl, h⟩
  · replace h := h.2 c5
    refine aw_aload_n 40 dX0_acceptsSigh_39 rfl 0 rfl rfl ?_
    refine aw_iload_n 41 dX0_acceptsSigh_40 rfl 1 rfl rfl ?_
    obtain ⟨g8, h⟩ := h
    refine aw_callV (M' := M_X0_acceptsEnd) 44 69 0 l0 [.int _] [] dX0_acceptsSigh_41 lk_RX0_69 mv_X0_acceptsEnd mp_X0_acceptsEnd rfl ⟨leb rfl, leb rfl⟩ rfl (ltb rfl) g8 rfl (leb rfl) (leb rfl) (leb rfl) rfl (am_X0_acceptsEnd hG h) (kkI fun v7 X6 h => ?_) (kxN KrI.no)
    refine aw_widen (cc' := 0) (ss' := 0) (leb rfl) (leb rfl) ?_
    refine aw_if_eq 51 47 dX0_acceptsSigh_44 rfl rfl (fun c9 => ?_) (fun c9 => ?_)
    · replace h := h.1 c9
      refine aw_iconst 52 (v := 0) dX0_acceptsSigh_51 kI_0 rfl ?_
      exact aw_ireturn (ty := .boolean) dX0_acceptsSigh_52 rfl rfl (leb rfl) (leb rfl) ⟨_, rfl, h⟩
    · replace h := h.2 c9
      refine aw_iconst 48 (v := 1) dX0_acceptsSigh_47 kI_1 rfl ?_
      refine aw_goto 52 dX0_acceptsSigh_48 rfl ?_
      exact aw_ireturn (ty := .boolean) dX0_acceptsSigh_52 rfl rfl (leb rfl) (leb rfl) ⟨_, rfl, h⟩
set_option maxRecDepth 20000 in
theorem am_X0_acceptsSigh {G : GG} (hG : G.1.stackTraces = false) {l0 : Nat} {l1 : Int32} {X : XH} {K : Int32 → XH → Prop} (h : w_X0_acceptsSigh l0 l1 X K) : AM G M_X0_acceptsSigh X [.ref l0, .int l1] (KrI K) := AM_of (by decide +kernel) rfl (leb rfl) hG (by
  show AW G M_X0_acceptsSigh 0 [(0, .ref l0), (1, .int l1)] [] X 0 0 _
  unfold w_X0_acceptsSigh at h
  refine aw_iload_n 1 dX0_acceptsSigh_0 rfl 1 rfl rfl ?_
  refine aw_bipush 3 (v := 48) dX0_acceptsSigh_1 kB_48 rfl ?_
  refine aw_icmp_lt 24 6 dX0_acceptsSigh_3 rfl rfl (fun c1 => ?_) (fun c1 => ?_)
  · replace h := h.1 c1
    exact aw_pick [0, 1] rfl (aw_X0_acceptsSigh_24 hG  h)
  · replace h := h.2 c1
    refine aw_iload_n 7 dX0_acceptsSigh_6 rfl 1 rfl rfl ?_
    refine aw_bipush 9 (v := 57) dX0_acceptsSigh_7 kB_57 rfl ?_
    refine aw_icmp_gt 24 12 dX0_acceptsSigh_9 rfl rfl (fun c2 => ?_) (fun c2 => ?_)
    · replace h := h.1 c2
      exact aw_pick [0, 1] rfl (aw_X0_acceptsSigh_24 hG  h)
    · replace h := h.2 c2
      refine aw_aload_n 13 dX0_acceptsSigh_12 rfl 0 rfl rfl ?_
      refine aw_aload_n 14 dX0_acceptsSigh_13 rfl 0 rfl rfl ?_
      obtain ⟨g3, h⟩ := h
      obtain ⟨g4, h⟩ := h
      refine aw_getR 17 dX0_acceptsSigh_14 fl_RX0_24 rfl g3 g4 rfl ?_
      refine aw_iload_n 18 dX0_acceptsSigh_17 rfl 1 rfl rfl ?_
      refine aw_bipush 20 (v := 20) dX0_acceptsSigh_18 kB_20 rfl ?_
      refine aw_callV (M' := M_X0_acceptsDigit) 23 65 0 l0 [.ref _, .int _, .int _] [] dX0_acceptsSigh_20 lk_RX0_65 mv_X0_acceptsDigit mp_X0_acceptsDigit rfl ⟨leb rfl, leb rfl⟩ rfl (ltb rfl) g3 rfl (leb rfl) (leb rfl) (leb rfl) rfl (am_X0_acceptsDigit hG h) (kkI fun v6 X5 h => ?_) (kxN KrI.no)
      refine aw_widen (cc' := 0) (ss' := 0) (leb rfl) (leb rfl) ?_
      obtain ⟨g7, h⟩ := h
      exact aw_ireturn (ty := .boolean) dX0_acceptsSigh_23 rfl (narZ g7) (leb rfl) (leb rfl) ⟨_, rfl, h⟩)
set_option maxRecDepth 20000 in
theorem am_X0_accepts {G : GG} (hG : G.1.stackTraces = false) {l0 : Nat} {l1 : Int32} {X : XH} {K : Int32 → XH → Prop} (h : w_X0_accepts l0 l1 X K) : AM G M_X0_accepts X [.ref l0, .int l1] (KrI K) := AM_of (by decide +kernel) rfl (leb rfl) hG (by
  show AW G M_X0_accepts 0 [(0, .ref l0), (1, .int l1)] [] X 0 0 _
  unfold w_X0_accepts at h
  refine aw_aload_n 1 dX0_accepts_0 rfl 0 rfl rfl ?_
  obtain ⟨g1, h⟩ := h
  refine aw_getI 4 dX0_accepts_1 fl_RX0_38 rfl g1 rfl ?_
  by_cases c2 : (hI X l0 7).toInt < 0 ∨ 2 < (hI X l0 7).toInt
  · refine aw_tableOut 50 dX0_accepts_4 c2 rfl ?_
    replace h := h.1 c2
    refine aw_aload_n 51 dX0_accepts_50 rfl 0 rfl rfl ?_
    refine aw_iload_n 52 dX0_accepts_51 rfl 1 rfl rfl ?_
    refine aw_callV (M' := M_X0_acceptsSigh) 55 62 0 l0 [.int _] [] dX0_accepts_52 lk_RX0_62 mv_X0_acceptsSigh mp_X0_acceptsSigh rfl ⟨leb rfl, leb rfl⟩ rfl (ltb rfl) g1 rfl (leb rfl) (leb rfl) (leb rfl) rfl (am_X0_acceptsSigh hG h) (kkI fun v4 X3 h => ?_) (kxN KrI.no)
    refine aw_widen (cc' := 0) (ss' := 0) (leb rfl) (leb rfl) ?_
    obtain ⟨g5, h⟩ := h
    exact aw_ireturn (ty := .boolean) dX0_accepts_55 rfl (narZ g5) (leb rfl) (leb rfl) ⟨_, rfl, h⟩
  by_cases c2_0 : (hI X l0 7).toInt = 0
  · refine aw_tableIn 32 dX0_accepts_4 (fun q => c2 (Or.inl q)) (fun q => c2 (Or.inr q)) (by rw [c2_0]; rfl) rfl ?_
    replace h := h.2.1 c2_0
    refine aw_aload_n 33 dX0_accepts_32 rfl 0 rfl rfl ?_
    refine aw_iload_n 34 dX0_accepts_33 rfl 1 rfl rfl ?_
    refine aw_callV (M' := M_X0_acceptsReel) 37 53 0 l0 [.int _] [] dX0_accepts_34 lk_RX0_53 mv_X0_acceptsReel mp_X0_acceptsReel rfl ⟨leb rfl, leb rfl⟩ rfl (ltb rfl) g1 rfl (leb rfl) (leb rfl) (leb rfl) rfl (am_X0_acceptsReel hG h) (kkI fun v7 X6 h => ?_) (kxN KrI.no)
    refine aw_widen (cc' := 0) (ss' := 0) (leb rfl) (leb rfl) ?_
    obtain ⟨g8, h⟩ := h
    exact aw_ireturn (ty := .boolean) dX0_accepts_37 rfl (narZ g8) (leb rfl) (leb rfl) ⟨_, rfl, h⟩
  by_cases c2_1 : (hI X l0 7).toInt = 1
  · refine aw_tableIn 38 dX0_accepts_4 (fun q => c2 (Or.inl q)) (fun q => c2 (Or.inr q)) (by rw [c2_1]; rfl) rfl ?_
    replace h := h.2.2.1 c2_1
    refine aw_aload_n 39 dX0_accepts_38 rfl 0 rfl rfl ?_
    refine aw_iload_n 40 dX0_accepts_39 rfl 1 rfl rfl ?_
    refine aw_callV (M' := M_X0_acceptsSpeaker) 43 56 0 l0 [.int _] [] dX0_accepts_40 lk_RX0_56 mv_X0_acceptsSpeaker mp_X0_acceptsSpeaker rfl ⟨leb rfl, leb rfl⟩ rfl (ltb rfl) g1 rfl (leb rfl) (leb rfl) (leb rfl) rfl (am_X0_acceptsSpeaker hG h) (kkI fun v10 X9 h => ?_) (kxN KrI.no)
    refine aw_widen (cc' := 0) (ss' := 0) (leb rfl) (leb rfl) ?_
    obtain ⟨g11, h⟩ := h
    exact aw_ireturn (ty := .boolean) dX0_accepts_43 rfl (narZ g11) (leb rfl) (leb rfl) ⟨_, rfl, h⟩
  have c2_2 : (hI X l0 7).toInt = 2 := by omega
  refine aw_tableIn 44 dX0_accepts_4 (fun q => c2 (Or.inl q)) (fun q => c2 (Or.inr q)) (by rw [c2_2]; rfl) rfl ?_
  replace h := h.2.2.2 c2_2
  refine aw_aload_n 45 dX0_accepts_44 rfl 0 rfl rfl ?_
  refine aw_iload_n 46 dX0_accepts_45 rfl 1 rfl rfl ?_
  refine aw_callV (M' := M_X0_acceptsLips) 49 59 0 l0 [.int _] [] dX0_accepts_46 lk_RX0_59 mv_X0_acceptsLips mp_X0_acceptsLips rfl ⟨leb rfl, leb rfl⟩ rfl (ltb rfl) g1 rfl (leb rfl) (leb rfl) (leb rfl) rfl (am_X0_acceptsLips hG h) (kkI fun v13 X12 h => ?_) (kxN KrI.no)
  refine aw_widen (cc' := 0) (ss' := 0) (leb rfl) (leb rfl) ?_
  obtain ⟨g14, h⟩ := h
  exact aw_ireturn (ty := .boolean) dX0_accepts_49 rfl (narZ g14) (leb rfl) (leb rfl) ⟨_, rfl, h⟩)
set_option maxRecDepth 20000 in
theorem aw_X0_readToError_12 {G : GG} (hG : G.1.stackTraces = false)  {l0 : Nat} {l1 : Int32} {X : XH} {K : Int32 → XH → Prop}  (h : w_X0_readToError_12  l0 l1 X K) : AW G M_X0_readToError 12 [(0, .ref l0), (1, .int l1)] [] X 0 0 (KrI K) :=
  h (fun l0 l1 X => AW G M_X0_readToError 12 [(0, .ref l0), (1, .int l1)] [] X 0 0 (KrI K)) (fun l0 l1 X h => by
    refine aw_iload_n 13 dX0_readToError_12 rfl 1 rfl rfl ?_
    refine aw_aload_n 14 dX0_readToError_13 rfl 0 rfl rfl ?_
    obtain ⟨g1, h⟩ := h
    refine aw_getI 17 dX0_readToError_14 fl_RX0_27 rfl g1 rfl ?_
    refine aw_icmp_ge 43 20 dX0_readToError_17 rfl rfl (fun c2 => ?_) (fun c2 => ?_)
    · replace h := h.1 c2
      refine aw_aload_n 44 dX0_readToError_43 rfl 0 rfl rfl ?_
      refine aw_getI 47 dX0_readToError_44 fl_RX0_27 rfl g1 rfl ?_
      exact aw_ireturn (ty := .int) dX0_readToError_47 rfl rfl (leb rfl) (leb rfl) ⟨_, rfl, h⟩
    · replace h := h.2 c2
      refine aw_aload_n 21 dX0_readToError_20 rfl 0 rfl rfl ?_
      refine aw_aload_n 22 dX0_readToError_21 rfl 0 rfl rfl ?_
      obtain ⟨g3, h⟩ := h
      refine aw_getR 25 dX0_readToError_22 fl_RX0_9 rfl g1 g3 rfl ?_
      refine aw_iload_n 26 dX0_readToError_25 rfl 1 rfl rfl ?_
      refine aw_callSN (M' := M_X4_at) 29 41 [.ref _, .int _] [.ref _] dX0_readToError_26 (by decide) ms_X4_at mp_X4_at rfl ⟨leb rfl, leb rfl⟩ rfl (leb rfl) (leb rfl) (leb rfl) rfl (am_X4_at hG h) (kkI fun v5 X4 h => ?_) KrI.no
      refine aw_widen (cc' := 0) (ss' := 0) (leb rfl) (leb rfl) ?_
      obtain ⟨g8, h⟩ := h
      refine aw_callV (M' := M_X0_accepts) 32 45 0 l0 [.int _] [] dX0_readToError_29 lk_RX0_45 mv_X0_accepts mp_X0_accepts rfl ⟨leb rfl, leb rfl⟩ rfl (ltb rfl) g8 rfl (leb rfl) (leb rfl) (leb rfl) rfl (am_X0_accepts hG h) (kkI fun v7 X6 h => ?_) (kxN KrI.no)
      refine aw_widen (cc' := 0) (ss' := 0) (leb rfl) (leb rfl) ?_
      refine aw_if_ne 37 35 dX0_readToError_32 rfl rfl (fun c9 => ?_) (fun c9 => ?_)
      · replace h := h.1 c9
        refine aw_iinc 40 (v := 1) (lv' := [(1, _), (0, _)]) dX0_readToError_37 1 rfl kI_1 (ltb rfl) rfl rfl ?_
        refine aw_goto 12 dX0_readToError_40 rfl ?_
        exact aw_pick [1, 0] rfl h
      · replace h := h.2 c9
        refine aw_iload_n 36 dX0_readToError_35 rfl 1 rfl rfl ?_
        exact aw_ireturn (ty := .int) dX0_readToError_36 rfl rfl (leb rfl) (leb rfl) ⟨_, rfl, h⟩)
set_option maxRecDepth 20000 in
theorem am_X0_readToError {G : GG} (hG : G.1.stackTraces = false) {l0 : Nat} {X : XH} {K : Int32 → XH → Prop} (h : w_X0_readToError l0 X K) : AM G M_X0_readToError X [.ref l0] (KrI K) := AM_of (by decide +kernel) rfl (leb rfl) hG (by
  show AW G M_X0_readToError 0 [(0, .ref l0)] [] X 0 0 _
  unfold w_X0_readToError at h
  refine aw_aload_n 1 dX0_readToError_0 rfl 0 rfl rfl ?_
  refine aw_iconst 2 (v := 0) dX0_readToError_1 kI_0 rfl ?_
  obtain ⟨g1, h⟩ := h
  refine aw_putI 5 dX0_readToError_2 fl_RX0_35 rfl rfl rfl rfl g1 rfl ?_
  refine aw_aload_n 6 dX0_readToError_5 rfl 0 rfl rfl ?_
  refine aw_iconst 7 (v := 0) dX0_readToError_6 kI_0 rfl ?_
  refine aw_putI 10 dX0_readToError_7 fl_RX0_38 rfl rfl rfl rfl g1 rfl ?_
  refine aw_iconst 11 (v := 0) dX0_readToError_10 kI_0 rfl ?_
  refine aw_istore_n 12 (lv' := [(1, _), (0, _)]) dX0_readToError_11 rfl (ltb rfl) rfl rfl ?_
  exact aw_pick [1, 0] rfl (aw_X0_readToError_12 hG  h))
set_option maxRecDepth 20000 in
theorem am_X4_firstError {G : GG} (hG : G.1.stackTraces = false) {l0 : Nat} {X : XH} {K : Int32 → XH → Prop} (h : w_X4_firstError l0 X K) : AM G M_X4_firstError X [.ref l0] (KrI K) := AM_of (by decide +kernel) rfl (leb rfl) hG (by
  show AW G M_X4_firstError 0 [(0, .ref l0)] [] X 0 0 _
  unfold w_X4_firstError at h
  refine aw_aload_n 1 dX4_firstError_0 rfl 0 rfl rfl ?_
  obtain ⟨g1, h⟩ := h
  obtain ⟨g2, h⟩ := h
  refine aw_getR 4 dX4_firstError_1 fl_RX4_34 rfl g1 g2 rfl ?_
  obtain ⟨g5, h⟩ := h
  refine aw_callV (M' := M_X0_readToError) 7 234 0 (hR X l0 4) [] [] dX4_firstError_4 lk_RX4_234 mv_X0_readToError mp_X0_readToError rfl ⟨leb rfl, leb rfl⟩ rfl (ltb rfl) g5 rfl (leb rfl) (leb rfl) (leb rfl) rfl (am_X0_readToError hG h) (kkI fun v4 X3 h => ?_) (kxN KrI.no)
  refine aw_widen (cc' := 0) (ss' := 0) (leb rfl) (leb rfl) ?_
  exact aw_ireturn (ty := .int) dX4_firstError_7 rfl rfl (leb rfl) (leb rfl) ⟨_, rfl, h⟩)
set_option maxRecDepth 20000 in
theorem am_X5_next {G : GG} (hG : G.1.stackTraces = false) {l0 : Nat} {X : XH} {K : Int32 → XH → Prop} (h : w_X5_next l0 X K) : AM G M_X5_next X [.ref l0] (KrI K) := AM_of (by decide +kernel) rfl (leb rfl) hG (by
  show AW G M_X5_next 0 [(0, .ref l0)] [] X 0 0 _
  unfold w_X5_next at h
  refine aw_aload_n 1 dX5_next_0 rfl 0 rfl rfl ?_
  obtain ⟨g1, h⟩ := h
  refine aw_getI 4 dX5_next_1 fl_RX5_128 rfl g1 rfl ?_
  refine aw_aload_n 5 dX5_next_4 rfl 0 rfl rfl ?_
  refine aw_getI 8 dX5_next_5 fl_RX5_125 rfl g1 rfl ?_
  refine aw_icmp_ge 23 11 dX5_next_8 rfl rfl (fun c2 => ?_) (fun c2 => ?_)
  · replace h := h.1 c2
    refine aw_iconst 24 (v := 0) dX5_next_23 kI_0 rfl ?_
    exact aw_ireturn (ty := .int) dX5_next_24 rfl rfl (leb rfl) (leb rfl) ⟨_, rfl, h⟩
  · replace h := h.2 c2
    refine aw_aload_n 12 dX5_next_11 rfl 0 rfl rfl ?_
    obtain ⟨g3, h⟩ := h
    refine aw_getR 15 dX5_next_12 fl_RX5_23 rfl g1 g3 rfl ?_
    refine aw_aload_n 16 dX5_next_15 rfl 0 rfl rfl ?_
    refine aw_getI 19 dX5_next_16 fl_RX5_128 rfl g1 rfl ?_
    obtain ⟨g4, h⟩ := h
    obtain ⟨g5, h⟩ := h
    refine aw_iaload 20 dX5_next_19 g4 g5 rfl ?_
    refine aw_goto 24 dX5_next_20 rfl ?_
    exact aw_ireturn (ty := .int) dX5_next_24 rfl rfl (leb rfl) (leb rfl) ⟨_, rfl, h⟩)
set_option maxRecDepth 20000 in
theorem aw_X5_within_27 {G : GG} (hG : G.1.stackTraces = false)  {l0 : Nat} {l1 : Int32} {l3 : Int32} {s0 : Nat} {s1 : Int32} {X : XH} {K : Int32 → XH → Prop}  (h : w_X5_within_27  l0 l1 l3 s0 s1 X K) : AW G M_X5_within 27 [(0, .ref l0), (1, .int l1), (3, .int l3)] [.int s1, .ref s0] X 0 0 (KrI K) := by
  unfold w_X5_within_27 at h
  obtain ⟨g1, h⟩ := h
  obtain ⟨g2, h⟩ := h
  refine aw_putI 30 dX5_within_27 fl_RX5_135 rfl (narZ g2) (fitZ g2) rfl g1 rfl ?_
  refine aw_aload_n 31 dX5_within_30 rfl 0 rfl rfl ?_
  refine aw_dup 32 dX5_within_31 rfl rfl ?_
  obtain ⟨g3, h⟩ := h
  refine aw_getI 35 dX5_within_32 fl_RX5_128 rfl g3 rfl ?_
  refine aw_aload_n 36 dX5_within_35 rfl 0 rfl rfl ?_
  refine aw_getI 39 dX5_within_36 fl_RX5_135 rfl g3 rfl ?_
  refine aw_if_eq 46 42 dX5_within_39 rfl rfl (fun c4 => ?_) (fun c4 => ?_)
  · replace h := h.1 c4
    refine aw_iconst 47 (v := 1) dX5_within_46 kI_1 rfl ?_
    refine aw_iadd 48 dX5_within_47 rfl ?_
    refine aw_putI 51 dX5_within_48 fl_RX5_128 rfl rfl rfl rfl g3 rfl ?_
    refine aw_iload_n 52 dX5_within_51 rfl 2 rfl rfl ?_
    refine aw_iload_n 53 dX5_within_52 rfl 1 rfl rfl ?_
    refine aw_isub 54 dX5_within_53 rfl ?_
    exact aw_ireturn (ty := .int) dX5_within_54 rfl rfl (leb rfl) (leb rfl) ⟨_, rfl, h⟩
  · replace h := h.2 c4
    refine aw_iconst 43 (v := 0) dX5_within_42 kI_0 rfl ?_
    refine aw_goto 47 dX5_within_43 rfl ?_
    refine aw_iadd 48 dX5_within_47 rfl ?_
    refine aw_putI 51 dX5_within_48 fl_RX5_128 rfl rfl rfl rfl g3 rfl ?_
    refine aw_iload_n 52 dX5_within_51 rfl 2 rfl rfl ?_
    refine aw_iload_n 53 dX5_within_52 rfl 1 rfl rfl ?_
    refine aw_isub 54 dX5_within_53 rfl ?_
    exact aw_ireturn (ty := .int) dX5_within_54 rfl rfl (leb rfl) (leb rfl) ⟨_, rfl, h⟩
set_option maxRecDepth 20000 in
theorem am_X5_within {G : GG} (hG : G.1.stackTraces = false) {l0 : Nat} {l1 : Int32} {l2 : Int32} {X : XH} {K : Int32 → XH → Prop} (h : w_X5_within l0 l1 l2 X K) : AM G M_X5_within X [.ref l0, .int l1, .int l2] (KrI K) := AM_of (by decide +kernel) rfl (leb rfl) hG (by
  show AW G M_X5_within 0 [(0, .ref l0), (1, .int l1), (2, .int l2)] [] X 0 0 _
  unfold w_X5_within at h
  refine aw_aload_n 1 dX5_within_0 rfl 0 rfl rfl ?_
  obtain ⟨g3, h⟩ := h
  refine aw_callV (M' := M_X5_next) 4 131 5 l0 [] [] dX5_within_1 lk_RX5_131 mv_X5_next mp_X5_next rfl ⟨leb rfl, leb rfl⟩ rfl (ltb rfl) g3 rfl (leb rfl) (leb rfl) (leb rfl) rfl (am_X5_next hG h) (kkI fun v2 X1 h => ?_) (kxN KrI.no)
  refine aw_widen (cc' := 0) (ss' := 0) (leb rfl) (leb rfl) ?_
  refine aw_istore_n 5 (lv' := [(3, _), (0, _), (1, _), (2, _)]) dX5_within_4 rfl (ltb rfl) rfl rfl ?_
  refine aw_aload_n 6 dX5_within_5 rfl 1 rfl rfl ?_
  refine aw_aload_n 7 dX5_within_6 rfl 1 rfl rfl ?_
  obtain ⟨g4, h⟩ := h
  refine aw_getI 10 dX5_within_7 fl_RX5_135 rfl g4 rfl ?_
  refine aw_if_ne 22 13 dX5_within_10 rfl rfl (fun c5 => ?_) (fun c5 => ?_)
  · replace h := h.1 c5
    refine aw_iconst 23 (v := 1) dX5_within_22 kI_1 rfl ?_
    refine aw_goto 27 dX5_within_23 rfl ?_
    exact aw_pick [1, 2, 0] rfl (aw_X5_within_27 hG  h)
  · replace h := h.2 c5
    refine aw_iload_n 14 dX5_within_13 rfl 0 rfl rfl ?_
    refine aw_iload_n 15 dX5_within_14 rfl 2 rfl rfl ?_
    refine aw_iload_n 16 dX5_within_15 rfl 3 rfl rfl ?_
    refine aw_callS (M' := M_X5_in) 19 30 [.int _, .int _, .int _] [.ref _] dX5_within_16 lk_RX5_30 ms_X5_in mp_X5_in rfl ⟨leb rfl, leb rfl⟩ rfl (leb rfl) (leb rfl) (leb rfl) rfl (am_X5_in hG h) (kkI fun v7 X6 h => ?_) (kxN KrI.no)
    refine aw_widen (cc' := 0) (ss' := 0) (leb rfl) (leb rfl) ?_
    refine aw_if_ne 26 22 dX5_within_19 rfl rfl (fun c8 => ?_) (fun c8 => ?_)
    · replace h := h.1 c8
      refine aw_iconst 27 (v := 0) dX5_within_26 kI_0 rfl ?_
      exact aw_pick [1, 2, 0] rfl (aw_X5_within_27 hG  h)
    · replace h := h.2 c8
      refine aw_iconst 23 (v := 1) dX5_within_22 kI_1 rfl ?_
      refine aw_goto 27 dX5_within_23 rfl ?_
      exact aw_pick [1, 2, 0] rfl (aw_X5_within_27 hG  h))
set_option maxRecDepth 20000 in
theorem aw_X5_number_96 {G : GG} (hG : G.1.stackTraces = false)  {l3 : Int32} {l4 : Int32} {l5 : Int32} {s0 : Nat} {X : XH} {K : Int32 → XH → Prop}  (h : w_X5_number_96  l3 l4 l5 s0 X K) : AW G M_X5_number 96 [(3, .int l3), (4, .int l4), (5, .int l5)] [.ref s0] X 0 0 (KrI K) := by
  unfold w_X5_number_96 at h
  refine aw_iconst 97 (v := 1) dX5_number_96 kI_1 rfl ?_
  refine aw_goto 101 dX5_number_97 rfl ?_
  obtain ⟨g1, h⟩ := h
  refine aw_putI 104 dX5_number_101 fl_RX5_135 rfl rfl rfl rfl g1 rfl ?_
  refine aw_iload 106 dX5_number_104 2 rfl rfl ?_
  refine aw_if_eq 114 109 dX5_number_106 rfl rfl (fun c2 => ?_) (fun c2 => ?_)
  · replace h := h.1 c2
    refine aw_iload_n 115 dX5_number_114 rfl 0 rfl rfl ?_
    exact aw_ireturn (ty := .int) dX5_number_115 rfl rfl (leb rfl) (leb rfl) ⟨_, rfl, h⟩
  · replace h := h.2 c2
    refine aw_iload 111 dX5_number_109 1 rfl rfl ?_
    refine aw_goto 115 dX5_number_111 rfl ?_
    exact aw_ireturn (ty := .int) dX5_number_115 rfl rfl (leb rfl) (leb rfl) ⟨_, rfl, h⟩
set_option maxRecDepth 20000 in
theorem aw_X5_number_100 {G : GG} (hG : G.1.stackTraces = false)  {l3 : Int32} {l4 : Int32} {l5 : Int32} {s0 : Nat} {X : XH} {K : Int32 → XH → Prop}  (h : w_X5_number_100  l3 l4 l5 s0 X K) : AW G M_X5_number 100 [(3, .int l3), (4, .int l4), (5, .int l5)] [.ref s0] X 0 0 (KrI K) := by
  unfold w_X5_number_100 at h
  refine aw_iconst 101 (v := 0) dX5_number_100 kI_0 rfl ?_
  obtain ⟨g1, h⟩ := h
  refine aw_putI 104 dX5_number_101 fl_RX5_135 rfl rfl rfl rfl g1 rfl ?_
  refine aw_iload 106 dX5_number_104 2 rfl rfl ?_
  refine aw_if_eq 114 109 dX5_number_106 rfl rfl (fun c2 => ?_) (fun c2 => ?_)
  · replace h := h.1 c2
    refine aw_iload_n 115 dX5_number_114 rfl 0 rfl rfl ?_
    exact aw_ireturn (ty := .int) dX5_number_115 rfl rfl (leb rfl) (leb rfl) ⟨_, rfl, h⟩
  · replace h := h.2 c2
    refine aw_iload 111 dX5_number_109 1 rfl rfl ?_
    refine aw_goto 115 dX5_number_111 rfl ?_
    exact aw_ireturn (ty := .int) dX5_number_115 rfl rfl (leb rfl) (leb rfl) ⟨_, rfl, h⟩
set_option maxRecDepth 20000 in
theorem aw_X5_number_74 {G : GG} (hG : G.1.stackTraces = false)  {l0 : Nat} {l1 : Int32} {l3 : Int32} {l4 : Int32} {l5 : Int32} {s0 : Nat} {s1 : Int32} {s2 : Int32} {X : XH} {K : Int32 → XH → Prop}  (h : w_X5_number_74  l0 l1 l3 l4 l5 s0 s1 s2 X K) : AW G M_X5_number 74 [(0, .ref l0), (1, .int l1), (3, .int l3), (4, .int l4), (5, .int l5)] [.int s2, .int s1, .ref s0] X 0 0 (KrI K) := by
  unfold w_X5_number_74 at h
  refine aw_iadd 75 dX5_number_74 rfl ?_
  obtain ⟨g1, h⟩ := h
  refine aw_putI 78 dX5_number_75 fl_RX5_128 rfl rfl rfl rfl g1 rfl ?_
  refine aw_aload_n 79 dX5_number_78 rfl 0 rfl rfl ?_
  refine aw_aload_n 80 dX5_number_79 rfl 0 rfl rfl ?_
  obtain ⟨g2, h⟩ := h
  refine aw_getI 83 dX5_number_80 fl_RX5_135 rfl g2 rfl ?_
  refine aw_if_ne 96 86 dX5_number_83 rfl rfl (fun c3 => ?_) (fun c3 => ?_)
  · replace h := h.1 c3
    exact aw_pick [2, 3, 4] rfl (aw_X5_number_96 hG  h)
  · replace h := h.2 c3
    refine aw_iload 88 dX5_number_86 4 rfl rfl ?_
    refine aw_if_ne 100 91 dX5_number_88 rfl rfl (fun c4 => ?_) (fun c4 => ?_)
    · replace h := h.1 c4
      exact aw_pick [2, 3, 4] rfl (aw_X5_number_100 hG  h)
    · replace h := h.2 c4
      refine aw_iload_n 92 dX5_number_91 rfl 2 rfl rfl ?_
      refine aw_iload_n 93 dX5_number_92 rfl 1 rfl rfl ?_
      refine aw_icmp_ge 100 96 dX5_number_93 rfl rfl (fun c5 => ?_) (fun c5 => ?_)
      · replace h := h.1 c5
        exact aw_pick [2, 3, 4] rfl (aw_X5_number_100 hG  h)
      · replace h := h.2 c5
        exact aw_pick [2, 3, 4] rfl (aw_X5_number_96 hG  h)
set_option maxRecDepth 20000 in
theorem aw_X5_number_57 {G : GG} (hG : G.1.stackTraces = false)  {l0 : Nat} {l1 : Int32} {l3 : Int32} {l4 : Int32} {s0 : Int32} {X : XH} {K : Int32 → XH → Prop}  (h : w_X5_number_57  l0 l1 l3 l4 s0 X K) : AW G M_X5_number 57 [(0, .ref l0), (1, .int l1), (3, .int l3), (4, .int l4)] [.int s0] X 0 0 (KrI K) := by
  unfold w_X5_number_57 at h
  refine aw_istore 59 (lv' := [(5, _), (0, _), (1, _), (3, _), (4, _)]) dX5_number_57 (ltb rfl) rfl rfl ?_
  refine aw_aload_n 60 dX5_number_59 rfl 1 rfl rfl ?_
  refine aw_dup 61 dX5_number_60 rfl rfl ?_
  obtain ⟨g1, h⟩ := h
  refine aw_getI 64 dX5_number_61 fl_RX5_128 rfl g1 rfl ?_
  refine aw_iload 66 dX5_number_64 0 rfl rfl ?_
  refine aw_if_eq 73 69 dX5_number_66 rfl rfl (fun c2 => ?_) (fun c2 => ?_)
  · replace h := h.1 c2
    refine aw_iconst 74 (v := 0) dX5_number_73 kI_0 rfl ?_
    exact aw_pick [1, 2, 3, 4, 0] rfl (aw_X5_number_74 hG  h)
  · replace h := h.2 c2
    refine aw_iconst 70 (v := 1) dX5_number_69 kI_1 rfl ?_
    refine aw_goto 74 dX5_number_70 rfl ?_
    exact aw_pick [1, 2, 3, 4, 0] rfl (aw_X5_number_74 hG  h)
set_option maxRecDepth 20000 in
theorem am_X5_number {G : GG} (hG : G.1.stackTraces = false) {l0 : Nat} {l1 : Int32} {l2 : Int32} {X : XH} {K : Int32 → XH → Prop} (h : w_X5_number l0 l1 l2 X K) : AM G M_X5_number X [.ref l0, .int l1, .int l2] (KrI K) := AM_of (by decide +kernel) rfl (leb rfl) hG (by
  show AW G M_X5_number 0 [(0, .ref l0), (1, .int l1), (2, .int l2)] [] X 0 0 _
  unfold w_X5_number at h
  refine aw_iconst 1 (v := 1) dX5_number_0 kI_1 rfl ?_
  refine aw_aload_n 2 dX5_number_1 rfl 0 rfl rfl ?_
  refine aw_bipush 4 (v := 49) dX5_number_2 kB_49 rfl ?_
  refine aw_bipush 6 (v := 57) dX5_number_4 kB_57 rfl ?_
  obtain ⟨g3, h⟩ := h
  refine aw_callV (M' := M_X5_within) 9 139 5 l0 [.int _, .int _] [.int _] dX5_number_6 lk_RX5_139 mv_X5_within mp_X5_within rfl ⟨leb rfl, leb rfl⟩ rfl (ltb rfl) g3 rfl (leb rfl) (leb rfl) (leb rfl) rfl (am_X5_within hG h) (kkI fun v2 X1 h => ?_) (kxN KrI.no)
  refine aw_widen (cc' := 0) (ss' := 0) (leb rfl) (leb rfl) ?_
  refine aw_iadd 10 dX5_number_9 rfl ?_
  refine aw_istore_n 11 (lv' := [(3, _), (0, _), (1, _), (2, _)]) dX5_number_10 rfl (ltb rfl) rfl rfl ?_
  refine aw_bipush 13 (v := 10) dX5_number_11 kB_10 rfl ?_
  refine aw_iload_n 14 dX5_number_13 rfl 0 rfl rfl ?_
  refine aw_imul 15 dX5_number_14 rfl ?_
  refine aw_aload_n 16 dX5_number_15 rfl 1 rfl rfl ?_
  obtain ⟨g6, h⟩ := h
  refine aw_callV (M' := M_X5_next) 19 131 5 l0 [] [.int _] dX5_number_16 lk_RX5_131 mv_X5_next mp_X5_next rfl ⟨leb rfl, leb rfl⟩ rfl (ltb rfl) g6 rfl (leb rfl) (leb rfl) (leb rfl) rfl (am_X5_next hG h) (kkI fun v5 X4 h => ?_) (kxN KrI.no)
  refine aw_widen (cc' := 0) (ss' := 0) (leb rfl) (leb rfl) ?_
  refine aw_iadd 20 dX5_number_19 rfl ?_
  refine aw_bipush 22 (v := 48) dX5_number_20 kB_48 rfl ?_
  refine aw_isub 23 dX5_number_22 rfl ?_
  refine aw_istore 25 (lv' := [(4, _), (3, _), (0, _), (1, _), (2, _)]) dX5_number_23 (ltb rfl) rfl rfl ?_
  refine aw_aload_n 26 dX5_number_25 rfl 2 rfl rfl ?_
  obtain ⟨g7, h⟩ := h
  refine aw_getI 29 dX5_number_26 fl_RX5_135 rfl g7 rfl ?_
  refine aw_if_ne 56 32 dX5_number_29 rfl rfl (fun c8 => ?_) (fun c8 => ?_)
  · replace h := h.1 c8
    refine aw_iconst 57 (v := 0) dX5_number_56 kI_0 rfl ?_
    exact aw_pick [2, 3, 1, 0] rfl (aw_X5_number_57 hG  h)
  · replace h := h.2 c8
    refine aw_aload_n 33 dX5_number_32 rfl 2 rfl rfl ?_
    refine aw_callV (M' := M_X5_next) 36 131 5 l0 [] [] dX5_number_33 lk_RX5_131 mv_X5_next mp_X5_next rfl ⟨leb rfl, leb rfl⟩ rfl (ltb rfl) g7 rfl (leb rfl) (leb rfl) (leb rfl) rfl (am_X5_next hG h) (kkI fun v10 X9 h => ?_) (kxN KrI.no)
    refine aw_widen (cc' := 0) (ss' := 0) (leb rfl) (leb rfl) ?_
    refine aw_bipush 38 (v := 48) dX5_number_36 kB_48 rfl ?_
    refine aw_bipush 40 (v := 57) dX5_number_38 kB_57 rfl ?_
    refine aw_callS (M' := M_X5_in) 43 30 [.int _, .int _, .int _] [] dX5_number_40 lk_RX5_30 ms_X5_in mp_X5_in rfl ⟨leb rfl, leb rfl⟩ rfl (leb rfl) (leb rfl) (leb rfl) rfl (am_X5_in hG h) (kkI fun v12 X11 h => ?_) (kxN KrI.no)
    refine aw_widen (cc' := 0) (ss' := 0) (leb rfl) (leb rfl) ?_
    refine aw_if_eq 56 46 dX5_number_43 rfl rfl (fun c13 => ?_) (fun c13 => ?_)
    · replace h := h.1 c13
      refine aw_iconst 57 (v := 0) dX5_number_56 kI_0 rfl ?_
      exact aw_pick [2, 3, 1, 0] rfl (aw_X5_number_57 hG  h)
    · replace h := h.2 c13
      refine aw_iload 48 dX5_number_46 0 rfl rfl ?_
      refine aw_iload_n 49 dX5_number_48 rfl 4 rfl rfl ?_
      refine aw_icmp_gt 56 52 dX5_number_49 rfl rfl (fun c14 => ?_) (fun c14 => ?_)
      · replace h := h.1 c14
        refine aw_iconst 57 (v := 0) dX5_number_56 kI_0 rfl ?_
        exact aw_pick [2, 3, 1, 0] rfl (aw_X5_number_57 hG  h)
      · replace h := h.2 c14
        refine aw_iconst 53 (v := 1) dX5_number_52 kI_1 rfl ?_
        refine aw_goto 57 dX5_number_53 rfl ?_
        exact aw_pick [2, 3, 1, 0] rfl (aw_X5_number_57 hG  h))
end XWK5
