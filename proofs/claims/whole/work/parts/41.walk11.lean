/-! the walks of methods, as predicates -/
section XWK11
set_option maxRecDepth 20000 in
theorem aw_X4_digest_51 {G : GG} (hG : G.1.stackTraces = false) {P43 : Nat → Int64 → Int32 → XH → Prop} {l0 : Nat} {l1 : Int64} {l3 : Int32} {l4 : Int32} {X : XH} {K : Int64 → XH → Prop} (hO43 : ∀ (l0 : Nat) (l1 : Int64) (l3 : Int32) (X : XH), P43 l0 l1 l3 X → AW G M_X4_digest 43 [(0, .ref l0), (1, .long l1), (3, .int l3)] [] X 0 0 (KrL K)) (h : w_X4_digest_51 P43 l0 l1 l3 l4 X K) : AW G M_X4_digest 51 [(0, .ref l0), (1, .long l1), (3, .int l3), (4, .int l4)] [] X 0 0 (KrL K) :=
  h (fun l0 l1 l3 l4 X => AW G M_X4_digest 51 [(0, .ref l0), (1, .long l1), (3, .int l3), (4, .int l4)] [] X 0 0 (KrL K)) (fun l0 l1 l3 l4 X h => by
    refine aw_iload 53 dX4_digest_51 3 rfl rfl ?_
    refine aw_iconst 54 (v := 3) dX4_digest_53 kI_3 rfl ?_
    refine aw_icmp_ge 72 57 dX4_digest_54 rfl rfl (fun c1 => ?_) (fun c1 => ?_)
    · replace h := h.1 c1
      refine aw_iinc 75 (v := 1) (lv' := [(3, _), (0, _), (1, _), (4, _)]) dX4_digest_72 2 rfl kI_1 (ltb rfl) rfl rfl ?_
      refine aw_goto 43 dX4_digest_75 rfl ?_
      exact aw_pick [1, 2, 0] rfl (hO43 _ _ _ _ h)
    · replace h := h.2 c1
      refine aw_aload_n 58 dX4_digest_57 rfl 0 rfl rfl ?_
      refine aw_lload_n 59 dX4_digest_58 rfl 1 rfl rfl ?_
      refine aw_iload_n 60 dX4_digest_59 rfl 2 rfl rfl ?_
      refine aw_iload 62 dX4_digest_60 3 rfl rfl ?_
      obtain ⟨g4, h⟩ := h
      refine aw_callV (M' := M_X4_chainVoice) 65 375 4 l0 [.long _, .int _, .int _] [] dX4_digest_62 lk_RX4_375 mv_X4_chainVoice mp_X4_chainVoice rfl ⟨leb rfl, leb rfl⟩ rfl (ltb rfl) g4 rfl (leb rfl) (leb rfl) (leb rfl) rfl (am_X4_chainVoice hG h) (kkL fun v3 X2 h => ?_) (kxN KrL.no)
      refine aw_widen (cc' := 0) (ss' := 0) (leb rfl) (leb rfl) ?_
      refine aw_lstore_n 66 (lv' := [(1, _), (0, _), (3, _), (4, _)]) dX4_digest_65 rfl (ltb rfl) rfl rfl ?_
      refine aw_iinc 69 (v := 1) (lv' := [(4, _), (1, _), (0, _), (3, _)]) dX4_digest_66 3 rfl kI_1 (ltb rfl) rfl rfl ?_
      refine aw_goto 51 dX4_digest_69 rfl ?_
      exact aw_pick [2, 1, 3, 0] rfl h)
set_option maxRecDepth 20000 in
theorem aw_X4_digest_100 {G : GG} (hG : G.1.stackTraces = false)  {l0 : Nat} {l1 : Int64} {l3 : Int32} {X : XH} {K : Int64 → XH → Prop}  (h : w_X4_digest_100  l0 l1 l3 X K) : AW G M_X4_digest 100 [(0, .ref l0), (1, .long l1), (3, .int l3)] [] X 0 0 (KrL K) :=
  h (fun l0 l1 l3 X => AW G M_X4_digest 100 [(0, .ref l0), (1, .long l1), (3, .int l3)] [] X 0 0 (KrL K)) (fun l0 l1 l3 X h => by
    refine aw_iload_n 101 dX4_digest_100 rfl 2 rfl rfl ?_
    refine aw_iconst 102 (v := 3) dX4_digest_101 kI_3 rfl ?_
    refine aw_icmp_ge 118 105 dX4_digest_102 rfl rfl (fun c1 => ?_) (fun c1 => ?_)
    · replace h := h.1 c1
      refine aw_aload_n 119 dX4_digest_118 rfl 0 rfl rfl ?_
      refine aw_aload_n 120 dX4_digest_119 rfl 0 rfl rfl ?_
      refine aw_lload_n 121 dX4_digest_120 rfl 1 rfl rfl ?_
      obtain ⟨g4, h⟩ := h
      refine aw_callV (M' := M_X4_chainAccounts) 124 385 4 l0 [.long _] [.ref _] dX4_digest_121 lk_RX4_385 mv_X4_chainAccounts mp_X4_chainAccounts rfl ⟨leb rfl, leb rfl⟩ rfl (ltb rfl) g4 rfl (leb rfl) (leb rfl) (leb rfl) rfl (am_X4_chainAccounts hG h) (kkL fun v3 X2 h => ?_) (kxN KrL.no)
      refine aw_widen (cc' := 0) (ss' := 0) (leb rfl) (leb rfl) ?_
      obtain ⟨g7, h⟩ := h
      refine aw_callV (M' := M_X4_chainBuffer) 127 389 4 l0 [.long _] [] dX4_digest_124 lk_RX4_389 mv_X4_chainBuffer mp_X4_chainBuffer rfl ⟨leb rfl, leb rfl⟩ rfl (ltb rfl) g7 rfl (leb rfl) (leb rfl) (leb rfl) rfl (am_X4_chainBuffer hG h) (kkL fun v6 X5 h => ?_) (kxN KrL.no)
      refine aw_widen (cc' := 0) (ss' := 0) (leb rfl) (leb rfl) ?_
      exact aw_lreturn dX4_digest_127 rfl (leb rfl) (leb rfl) ⟨_, rfl, h⟩
    · replace h := h.2 c1
      refine aw_aload_n 106 dX4_digest_105 rfl 0 rfl rfl ?_
      refine aw_lload_n 107 dX4_digest_106 rfl 1 rfl rfl ?_
      refine aw_iload_n 108 dX4_digest_107 rfl 2 rfl rfl ?_
      obtain ⟨g10, h⟩ := h
      refine aw_callV (M' := M_X4_chainTongue) 111 382 4 l0 [.long _, .int _] [] dX4_digest_108 lk_RX4_382 mv_X4_chainTongue mp_X4_chainTongue rfl ⟨leb rfl, leb rfl⟩ rfl (ltb rfl) g10 rfl (leb rfl) (leb rfl) (leb rfl) rfl (am_X4_chainTongue hG h) (kkL fun v9 X8 h => ?_) (kxN KrL.no)
      refine aw_widen (cc' := 0) (ss' := 0) (leb rfl) (leb rfl) ?_
      refine aw_lstore_n 112 (lv' := [(1, _), (0, _), (3, _)]) dX4_digest_111 rfl (ltb rfl) rfl rfl ?_
      refine aw_iinc 115 (v := 1) (lv' := [(3, _), (1, _), (0, _)]) dX4_digest_112 2 rfl kI_1 (ltb rfl) rfl rfl ?_
      refine aw_goto 100 dX4_digest_115 rfl ?_
      exact aw_pick [2, 1, 0] rfl h)
set_option maxRecDepth 20000 in
theorem aw_X4_digest_80 {G : GG} (hG : G.1.stackTraces = false)  {l0 : Nat} {l1 : Int64} {l3 : Int32} {X : XH} {K : Int64 → XH → Prop}  (h : w_X4_digest_80  l0 l1 l3 X K) : AW G M_X4_digest 80 [(0, .ref l0), (1, .long l1), (3, .int l3)] [] X 0 0 (KrL K) :=
  h (fun l0 l1 l3 X => AW G M_X4_digest 80 [(0, .ref l0), (1, .long l1), (3, .int l3)] [] X 0 0 (KrL K)) (fun l0 l1 l3 X h => by
    refine aw_iload_n 81 dX4_digest_80 rfl 2 rfl rfl ?_
    refine aw_iconst 82 (v := 4) dX4_digest_81 kI_4 rfl ?_
    refine aw_icmp_ge 98 85 dX4_digest_82 rfl rfl (fun c1 => ?_) (fun c1 => ?_)
    · replace h := h.1 c1
      refine aw_iconst 99 (v := 0) dX4_digest_98 kI_0 rfl ?_
      refine aw_istore_n 100 (lv' := [(3, _), (0, _), (1, _)]) dX4_digest_99 rfl (ltb rfl) rfl rfl ?_
      exact aw_pick [1, 2, 0] rfl (aw_X4_digest_100 hG  h)
    · replace h := h.2 c1
      refine aw_aload_n 86 dX4_digest_85 rfl 0 rfl rfl ?_
      refine aw_lload_n 87 dX4_digest_86 rfl 1 rfl rfl ?_
      refine aw_iload_n 88 dX4_digest_87 rfl 2 rfl rfl ?_
      obtain ⟨g4, h⟩ := h
      refine aw_callV (M' := M_X4_chainReel) 91 379 4 l0 [.long _, .int _] [] dX4_digest_88 lk_RX4_379 mv_X4_chainReel mp_X4_chainReel rfl ⟨leb rfl, leb rfl⟩ rfl (ltb rfl) g4 rfl (leb rfl) (leb rfl) (leb rfl) rfl (am_X4_chainReel hG h) (kkL fun v3 X2 h => ?_) (kxN KrL.no)
      refine aw_widen (cc' := 0) (ss' := 0) (leb rfl) (leb rfl) ?_
      refine aw_lstore_n 92 (lv' := [(1, _), (0, _), (3, _)]) dX4_digest_91 rfl (ltb rfl) rfl rfl ?_
      refine aw_iinc 95 (v := 1) (lv' := [(3, _), (1, _), (0, _)]) dX4_digest_92 2 rfl kI_1 (ltb rfl) rfl rfl ?_
      refine aw_goto 80 dX4_digest_95 rfl ?_
      exact aw_pick [2, 1, 0] rfl h)
set_option maxRecDepth 20000 in
theorem aw_X4_digest_43 {G : GG} (hG : G.1.stackTraces = false)  {l0 : Nat} {l1 : Int64} {l3 : Int32} {X : XH} {K : Int64 → XH → Prop}  (h : w_X4_digest_43  l0 l1 l3 X K) : AW G M_X4_digest 43 [(0, .ref l0), (1, .long l1), (3, .int l3)] [] X 0 0 (KrL K) :=
  h (fun l0 l1 l3 X => AW G M_X4_digest 43 [(0, .ref l0), (1, .long l1), (3, .int l3)] [] X 0 0 (KrL K)) (fun l0 l1 l3 X h => by
    refine aw_iload_n 44 dX4_digest_43 rfl 2 rfl rfl ?_
    refine aw_iconst 45 (v := 5) dX4_digest_44 kI_5 rfl ?_
    refine aw_icmp_ge 78 48 dX4_digest_45 rfl rfl (fun c1 => ?_) (fun c1 => ?_)
    · replace h := h.1 c1
      refine aw_iconst 79 (v := 0) dX4_digest_78 kI_0 rfl ?_
      refine aw_istore_n 80 (lv' := [(3, _), (0, _), (1, _)]) dX4_digest_79 rfl (ltb rfl) rfl rfl ?_
      exact aw_pick [1, 2, 0] rfl (aw_X4_digest_80 hG  h)
    · replace h := h.2 c1
      refine aw_iconst 49 (v := 0) dX4_digest_48 kI_0 rfl ?_
      refine aw_istore 51 (lv' := [(4, _), (0, _), (1, _), (3, _)]) dX4_digest_49 (ltb rfl) rfl rfl ?_
      exact aw_pick [1, 2, 3, 0] rfl (aw_X4_digest_51 hG (fun _ _ _ _ h => h) h))
set_option maxRecDepth 20000 in
theorem aw_X4_digest_17 {G : GG} (hG : G.1.stackTraces = false)  {l0 : Nat} {l1 : Int64} {l3 : Int32} {X : XH} {K : Int64 → XH → Prop}  (h : w_X4_digest_17  l0 l1 l3 X K) : AW G M_X4_digest 17 [(0, .ref l0), (1, .long l1), (3, .int l3)] [] X 0 0 (KrL K) :=
  h (fun l0 l1 l3 X => AW G M_X4_digest 17 [(0, .ref l0), (1, .long l1), (3, .int l3)] [] X 0 0 (KrL K)) (fun l0 l1 l3 X h => by
    refine aw_iload_n 18 dX4_digest_17 rfl 2 rfl rfl ?_
    refine aw_aload_n 19 dX4_digest_18 rfl 0 rfl rfl ?_
    obtain ⟨g1, h⟩ := h
    obtain ⟨g2, h⟩ := h
    refine aw_getR 22 dX4_digest_19 fl_RX4_10 rfl g1 g2 rfl ?_
    obtain ⟨g3, h⟩ := h
    refine aw_getI 25 dX4_digest_22 fl_RX4_56 rfl g3 rfl ?_
    refine aw_icmp_ge 41 28 dX4_digest_25 rfl rfl (fun c4 => ?_) (fun c4 => ?_)
    · replace h := h.1 c4
      refine aw_iconst 42 (v := 0) dX4_digest_41 kI_0 rfl ?_
      refine aw_istore_n 43 (lv' := [(3, _), (0, _), (1, _)]) dX4_digest_42 rfl (ltb rfl) rfl rfl ?_
      exact aw_pick [1, 2, 0] rfl (aw_X4_digest_43 hG  h)
    · replace h := h.2 c4
      refine aw_aload_n 29 dX4_digest_28 rfl 0 rfl rfl ?_
      refine aw_lload_n 30 dX4_digest_29 rfl 1 rfl rfl ?_
      refine aw_iload_n 31 dX4_digest_30 rfl 2 rfl rfl ?_
      refine aw_callV (M' := M_X4_chainClause) 34 371 4 l0 [.long _, .int _] [] dX4_digest_31 lk_RX4_371 mv_X4_chainClause mp_X4_chainClause rfl ⟨leb rfl, leb rfl⟩ rfl (ltb rfl) g1 rfl (leb rfl) (leb rfl) (leb rfl) rfl (am_X4_chainClause hG h) (kkL fun v6 X5 h => ?_) (kxN KrL.no)
      refine aw_widen (cc' := 0) (ss' := 0) (leb rfl) (leb rfl) ?_
      refine aw_lstore_n 35 (lv' := [(1, _), (0, _), (3, _)]) dX4_digest_34 rfl (ltb rfl) rfl rfl ?_
      refine aw_iinc 38 (v := 1) (lv' := [(3, _), (1, _), (0, _)]) dX4_digest_35 2 rfl kI_1 (ltb rfl) rfl rfl ?_
      refine aw_goto 17 dX4_digest_38 rfl ?_
      exact aw_pick [2, 1, 0] rfl h)
set_option maxRecDepth 20000 in
theorem am_X4_digest {G : GG} (hG : G.1.stackTraces = false) {l0 : Nat} {X : XH} {K : Int64 → XH → Prop} (h : w_X4_digest l0 X K) : AM G M_X4_digest X [.ref l0] (KrL K) := AM_of (by decide +kernel) rfl (leb rfl) hG (by
  show AW G M_X4_digest 0 [(0, .ref l0)] [] X 0 0 _
  unfold w_X4_digest at h
  refine aw_ldc2 3 (v := 4229) dX4_digest_0 (tk2 (i := 60) (by decide +kernel) rfl) rfl ?_
  refine aw_aload_n 4 dX4_digest_3 rfl 0 rfl rfl ?_
  obtain ⟨g1, h⟩ := h
  obtain ⟨g2, h⟩ := h
  refine aw_getR 7 dX4_digest_4 fl_RX4_10 rfl g1 g2 rfl ?_
  obtain ⟨g3, h⟩ := h
  refine aw_getI 10 dX4_digest_7 fl_RX4_56 rfl g3 rfl ?_
  refine aw_i2l 11 dX4_digest_10 rfl ?_
  refine aw_callS (M' := M_X4_chain) 14 367 [.long _, .long _] [] dX4_digest_11 lk_RX4_367 ms_X4_chain mp_X4_chain rfl ⟨leb rfl, leb rfl⟩ rfl (leb rfl) (leb rfl) (leb rfl) rfl (am_X4_chain hG h) (kkL fun v5 X4 h => ?_) (kxN KrL.no)
  refine aw_widen (cc' := 0) (ss' := 0) (leb rfl) (leb rfl) ?_
  refine aw_lstore_n 15 (lv' := [(1, _), (0, _)]) dX4_digest_14 rfl (ltb rfl) rfl rfl ?_
  refine aw_iconst 16 (v := 0) dX4_digest_15 kI_0 rfl ?_
  refine aw_istore_n 17 (lv' := [(3, _), (1, _), (0, _)]) dX4_digest_16 rfl (ltb rfl) rfl rfl ?_
  exact aw_pick [2, 1, 0] rfl (aw_X4_digest_17 hG  h))
set_option maxRecDepth 20000 in
theorem am_X5_mixIn {G : GG} (hG : G.1.stackTraces = false) {l0 : Nat} {l1 : Int64} {X : XH} {K : XH → Prop} (h : w_X5_mixIn l0 l1 X K) : AM G M_X5_mixIn X [.ref l0, .long l1] (KrV K) := AM_of (by decide +kernel) rfl (leb rfl) hG (by
  show AW G M_X5_mixIn 0 [(0, .ref l0), (1, .long l1)] [] X 0 0 _
  unfold w_X5_mixIn at h
  refine aw_aload_n 1 dX5_mixIn_0 rfl 0 rfl rfl ?_
  refine aw_ldc2 4 (v := 31) dX5_mixIn_1 (tk8 (i := 46) (by decide +kernel) rfl) rfl ?_
  refine aw_aload_n 5 dX5_mixIn_4 rfl 0 rfl rfl ?_
  obtain ⟨g1, h⟩ := h
  refine aw_getL 8 dX5_mixIn_5 fl_RX5_239 rfl g1 rfl ?_
  refine aw_lmul 9 dX5_mixIn_8 rfl ?_
  refine aw_lload_n 10 dX5_mixIn_9 rfl 1 rfl rfl ?_
  refine aw_ladd 11 dX5_mixIn_10 rfl ?_
  refine aw_putL 14 dX5_mixIn_11 fl_RX5_239 rfl rfl g1 rfl ?_
  exact aw_return dX5_mixIn_14 rfl (leb rfl) (leb rfl) ⟨rfl, h⟩)
set_option maxRecDepth 20000 in
theorem aw_X5_digest_130 {G : GG} (hG : G.1.stackTraces = false) {P27 : Nat → Int32 → XH → Prop} {P81 : Nat → Int32 → Int32 → XH → Prop} {l0 : Nat} {l1 : Int32} {l2 : Int32} {s0 : Nat} {s1 : Int64} {X : XH} {K : Int64 → XH → Prop} (hO27 : ∀ (l0 : Nat) (l1 : Int32) (X : XH), P27 l0 l1 X → AW G M_X5_digest 27 [(0, .ref l0), (1, .int l1)] [] X 0 0 (KrL K)) (hO81 : ∀ (l0 : Nat) (l1 : Int32) (l2 : Int32) (X : XH), P81 l0 l1 l2 X → AW G M_X5_digest 81 [(0, .ref l0), (1, .int l1), (2, .int l2)] [] X 0 0 (KrL K)) (h : w_X5_digest_130 P27 P81 l0 l1 l2 s0 s1 X K) : AW G M_X5_digest 130 [(0, .ref l0), (1, .int l1), (2, .int l2)] [.long s1, .ref s0] X 0 0 (KrL K) := by
  unfold w_X5_digest_130 at h
  obtain ⟨g2, h⟩ := h
  refine aw_callV (M' := M_X5_mixIn) 133 245 5 s0 [.long _] [] dX5_digest_130 lk_RX5_245 mv_X5_mixIn mp_X5_mixIn rfl ⟨leb rfl, leb rfl⟩ rfl (ltb rfl) g2 rfl (leb rfl) (leb rfl) (leb rfl) rfl (am_X5_mixIn hG h) (kkV fun X1 h => ?_) (kxN KrV.no)
  refine aw_widen (cc' := 0) (ss' := 0) (leb rfl) (leb rfl) ?_
  refine aw_aload_n 134 dX5_digest_133 rfl 0 rfl rfl ?_
  refine aw_aload_n 135 dX5_digest_134 rfl 0 rfl rfl ?_
  refine aw_iload_n 136 dX5_digest_135 rfl 1 rfl rfl ?_
  refine aw_iload_n 137 dX5_digest_136 rfl 2 rfl rfl ?_
  obtain ⟨g5, h⟩ := h
  refine aw_callV (M' := M_X5_reason) 140 68 5 l0 [.int _, .int _] [.ref _] dX5_digest_137 lk_RX5_68 mv_X5_reason mp_X5_reason rfl ⟨leb rfl, leb rfl⟩ rfl (ltb rfl) g5 rfl (leb rfl) (leb rfl) (leb rfl) rfl (am_X5_reason hG h) (kkI fun v4 X3 h => ?_) (kxN KrI.no)
  refine aw_widen (cc' := 0) (ss' := 0) (leb rfl) (leb rfl) ?_
  refine aw_i2l 141 dX5_digest_140 rfl ?_
  obtain ⟨g7, h⟩ := h
  refine aw_callV (M' := M_X5_mixIn) 144 245 5 l0 [.long _] [] dX5_digest_141 lk_RX5_245 mv_X5_mixIn mp_X5_mixIn rfl ⟨leb rfl, leb rfl⟩ rfl (ltb rfl) g7 rfl (leb rfl) (leb rfl) (leb rfl) rfl (am_X5_mixIn hG h) (kkV fun X6 h => ?_) (kxN KrV.no)
  refine aw_widen (cc' := 0) (ss' := 0) (leb rfl) (leb rfl) ?_
  refine aw_aload_n 145 dX5_digest_144 rfl 0 rfl rfl ?_
  refine aw_iload_n 146 dX5_digest_145 rfl 1 rfl rfl ?_
  refine aw_iload_n 147 dX5_digest_146 rfl 2 rfl rfl ?_
  obtain ⟨g10, h⟩ := h
  refine aw_callV (M' := M_X5_frames) 150 48 5 l0 [.int _, .int _] [] dX5_digest_147 lk_RX5_48 mv_X5_frames mp_X5_frames rfl ⟨leb rfl, leb rfl⟩ rfl (ltb rfl) g10 rfl (leb rfl) (leb rfl) (leb rfl) rfl (am_X5_frames hG h) (kkI fun v9 X8 h => ?_) (kxN KrI.no)
  refine aw_widen (cc' := 0) (ss' := 0) (leb rfl) (leb rfl) ?_
  refine aw_if_le 188 153 dX5_digest_150 rfl rfl (fun c11 => ?_) (fun c11 => ?_)
  · replace h := h.1 c11
    refine aw_iinc 191 (v := 1) (lv' := [(2, _), (0, _), (1, _)]) dX5_digest_188 2 rfl kI_1 (ltb rfl) rfl rfl ?_
    refine aw_goto 81 dX5_digest_191 rfl ?_
    exact aw_pick [1, 2, 0] rfl (hO81 _ _ _ _ h)
  · replace h := h.2 c11
    refine aw_aload_n 154 dX5_digest_153 rfl 0 rfl rfl ?_
    refine aw_aload_n 155 dX5_digest_154 rfl 0 rfl rfl ?_
    refine aw_iload_n 156 dX5_digest_155 rfl 1 rfl rfl ?_
    refine aw_iload_n 157 dX5_digest_156 rfl 2 rfl rfl ?_
    obtain ⟨g14, h⟩ := h
    refine aw_callV (M' := M_X5_room) 160 176 5 l0 [.int _, .int _] [.ref _] dX5_digest_157 lk_RX5_176 mv_X5_room mp_X5_room rfl ⟨leb rfl, leb rfl⟩ rfl (ltb rfl) g14 rfl (leb rfl) (leb rfl) (leb rfl) rfl (am_X5_room hG h) (kkI fun v13 X12 h => ?_) (kxN KrI.no)
    refine aw_widen (cc' := 0) (ss' := 0) (leb rfl) (leb rfl) ?_
    refine aw_i2l 161 dX5_digest_160 rfl ?_
    obtain ⟨g16, h⟩ := h
    refine aw_callV (M' := M_X5_mixIn) 164 245 5 l0 [.long _] [] dX5_digest_161 lk_RX5_245 mv_X5_mixIn mp_X5_mixIn rfl ⟨leb rfl, leb rfl⟩ rfl (ltb rfl) g16 rfl (leb rfl) (leb rfl) (leb rfl) rfl (am_X5_mixIn hG h) (kkV fun X15 h => ?_) (kxN KrV.no)
    refine aw_widen (cc' := 0) (ss' := 0) (leb rfl) (leb rfl) ?_
    refine aw_aload_n 165 dX5_digest_164 rfl 0 rfl rfl ?_
    refine aw_aload_n 166 dX5_digest_165 rfl 0 rfl rfl ?_
    refine aw_iload_n 167 dX5_digest_166 rfl 1 rfl rfl ?_
    refine aw_iload_n 168 dX5_digest_167 rfl 2 rfl rfl ?_
    obtain ⟨g19, h⟩ := h
    refine aw_callV (M' := M_X5_hundredths) 171 179 5 l0 [.int _, .int _] [.ref _] dX5_digest_168 lk_RX5_179 mv_X5_hundredths mp_X5_hundredths rfl ⟨leb rfl, leb rfl⟩ rfl (ltb rfl) g19 rfl (leb rfl) (leb rfl) (leb rfl) rfl (am_X5_hundredths hG h) (kkI fun v18 X17 h => ?_) (kxN KrI.no)
    refine aw_widen (cc' := 0) (ss' := 0) (leb rfl) (leb rfl) ?_
    refine aw_i2l 172 dX5_digest_171 rfl ?_
    obtain ⟨g21, h⟩ := h
    refine aw_callV (M' := M_X5_mixIn) 175 245 5 l0 [.long _] [] dX5_digest_172 lk_RX5_245 mv_X5_mixIn mp_X5_mixIn rfl ⟨leb rfl, leb rfl⟩ rfl (ltb rfl) g21 rfl (leb rfl) (leb rfl) (leb rfl) rfl (am_X5_mixIn hG h) (kkV fun X20 h => ?_) (kxN KrV.no)
    refine aw_widen (cc' := 0) (ss' := 0) (leb rfl) (leb rfl) ?_
    refine aw_aload_n 176 dX5_digest_175 rfl 0 rfl rfl ?_
    refine aw_aload_n 177 dX5_digest_176 rfl 0 rfl rfl ?_
    refine aw_iload_n 178 dX5_digest_177 rfl 1 rfl rfl ?_
    refine aw_iload_n 179 dX5_digest_178 rfl 2 rfl rfl ?_
    obtain ⟨g24, h⟩ := h
    refine aw_callV (M' := M_X5_needed) 182 215 5 l0 [.int _, .int _] [.ref _] dX5_digest_179 lk_RX5_215 mv_X5_needed mp_X5_needed rfl ⟨leb rfl, leb rfl⟩ rfl (ltb rfl) g24 rfl (leb rfl) (leb rfl) (leb rfl) rfl (am_X5_needed hG h) (kkI fun v23 X22 h => ?_) (kxN KrI.no)
    refine aw_widen (cc' := 0) (ss' := 0) (leb rfl) (leb rfl) ?_
    refine aw_iconst 183 (v := 1) dX5_digest_182 kI_1 rfl ?_
    refine aw_iadd 184 dX5_digest_183 rfl ?_
    refine aw_i2l 185 dX5_digest_184 rfl ?_
    obtain ⟨g26, h⟩ := h
    refine aw_callV (M' := M_X5_mixIn) 188 245 5 l0 [.long _] [] dX5_digest_185 lk_RX5_245 mv_X5_mixIn mp_X5_mixIn rfl ⟨leb rfl, leb rfl⟩ rfl (ltb rfl) g26 rfl (leb rfl) (leb rfl) (leb rfl) rfl (am_X5_mixIn hG h) (kkV fun X25 h => ?_) (kxN KrV.no)
    refine aw_widen (cc' := 0) (ss' := 0) (leb rfl) (leb rfl) ?_
    refine aw_iinc 191 (v := 1) (lv' := [(2, _), (0, _), (1, _)]) dX5_digest_188 2 rfl kI_1 (ltb rfl) rfl rfl ?_
    refine aw_goto 81 dX5_digest_191 rfl ?_
    exact aw_pick [1, 2, 0] rfl (hO81 _ _ _ _ h)
set_option maxRecDepth 20000 in
theorem aw_X5_digest_81 {G : GG} (hG : G.1.stackTraces = false) {P27 : Nat → Int32 → XH → Prop} {l0 : Nat} {l1 : Int32} {l2 : Int32} {X : XH} {K : Int64 → XH → Prop} (hO27 : ∀ (l0 : Nat) (l1 : Int32) (X : XH), P27 l0 l1 X → AW G M_X5_digest 27 [(0, .ref l0), (1, .int l1)] [] X 0 0 (KrL K)) (h : w_X5_digest_81 P27 l0 l1 l2 X K) : AW G M_X5_digest 81 [(0, .ref l0), (1, .int l1), (2, .int l2)] [] X 0 0 (KrL K) :=
  h (fun l0 l1 l2 X => AW G M_X5_digest 81 [(0, .ref l0), (1, .int l1), (2, .int l2)] [] X 0 0 (KrL K)) (fun l0 l1 l2 X h => by
    refine aw_iload_n 82 dX5_digest_81 rfl 2 rfl rfl ?_
    refine aw_iconst 83 (v := 3) dX5_digest_82 kI_3 rfl ?_
    refine aw_icmp_ge 194 86 dX5_digest_83 rfl rfl (fun c1 => ?_) (fun c1 => ?_)
    · replace h := h.1 c1
      refine aw_iinc 197 (v := 1) (lv' := [(1, _), (0, _), (2, _)]) dX5_digest_194 1 rfl kI_1 (ltb rfl) rfl rfl ?_
      refine aw_goto 27 dX5_digest_197 rfl ?_
      exact aw_pick [1, 0] rfl (hO27 _ _ _ h)
    · replace h := h.2 c1
      refine aw_aload_n 87 dX5_digest_86 rfl 0 rfl rfl ?_
      refine aw_aload_n 88 dX5_digest_87 rfl 0 rfl rfl ?_
      refine aw_iload_n 89 dX5_digest_88 rfl 1 rfl rfl ?_
      refine aw_iload_n 90 dX5_digest_89 rfl 2 rfl rfl ?_
      obtain ⟨g4, h⟩ := h
      refine aw_callV (M' := M_X5_frames) 93 48 5 l0 [.int _, .int _] [.ref _] dX5_digest_90 lk_RX5_48 mv_X5_frames mp_X5_frames rfl ⟨leb rfl, leb rfl⟩ rfl (ltb rfl) g4 rfl (leb rfl) (leb rfl) (leb rfl) rfl (am_X5_frames hG h) (kkI fun v3 X2 h => ?_) (kxN KrI.no)
      refine aw_widen (cc' := 0) (ss' := 0) (leb rfl) (leb rfl) ?_
      refine aw_i2l 94 dX5_digest_93 rfl ?_
      obtain ⟨g6, h⟩ := h
      refine aw_callV (M' := M_X5_mixIn) 97 245 5 l0 [.long _] [] dX5_digest_94 lk_RX5_245 mv_X5_mixIn mp_X5_mixIn rfl ⟨leb rfl, leb rfl⟩ rfl (ltb rfl) g6 rfl (leb rfl) (leb rfl) (leb rfl) rfl (am_X5_mixIn hG h) (kkV fun X5 h => ?_) (kxN KrV.no)
      refine aw_widen (cc' := 0) (ss' := 0) (leb rfl) (leb rfl) ?_
      refine aw_aload_n 98 dX5_digest_97 rfl 0 rfl rfl ?_
      refine aw_aload_n 99 dX5_digest_98 rfl 0 rfl rfl ?_
      obtain ⟨g7, h⟩ := h
      obtain ⟨g8, h⟩ := h
      refine aw_getR 102 dX5_digest_99 fl_RX5_7 rfl g7 g8 rfl ?_
      refine aw_iload_n 103 dX5_digest_102 rfl 1 rfl rfl ?_
      refine aw_bipush 105 (v := 7) dX5_digest_103 kB_7 rfl ?_
      refine aw_iload_n 106 dX5_digest_105 rfl 2 rfl rfl ?_
      refine aw_iadd 107 dX5_digest_106 rfl ?_
      refine aw_callS (M' := M_X5_at) 110 44 [.int _, .int _] [.ref _, .ref _] dX5_digest_107 lk_RX5_44 ms_X5_at mp_X5_at rfl ⟨leb rfl, leb rfl⟩ rfl (leb rfl) (leb rfl) (leb rfl) rfl (am_X5_at hG h) (kkI fun v10 X9 h => ?_) (kxN KrI.no)
      refine aw_widen (cc' := 0) (ss' := 0) (leb rfl) (leb rfl) ?_
      obtain ⟨g11, h⟩ := h
      obtain ⟨g12, h⟩ := h
      refine aw_iaload 111 dX5_digest_110 g11 g12 rfl ?_
      refine aw_i2l 112 dX5_digest_111 rfl ?_
      obtain ⟨g14, h⟩ := h
      refine aw_callV (M' := M_X5_mixIn) 115 245 5 l0 [.long _] [] dX5_digest_112 lk_RX5_245 mv_X5_mixIn mp_X5_mixIn rfl ⟨leb rfl, leb rfl⟩ rfl (ltb rfl) g14 rfl (leb rfl) (leb rfl) (leb rfl) rfl (am_X5_mixIn hG h) (kkV fun X13 h => ?_) (kxN KrV.no)
      refine aw_widen (cc' := 0) (ss' := 0) (leb rfl) (leb rfl) ?_
      refine aw_aload_n 116 dX5_digest_115 rfl 0 rfl rfl ?_
      refine aw_aload_n 117 dX5_digest_116 rfl 0 rfl rfl ?_
      refine aw_iload_n 118 dX5_digest_117 rfl 1 rfl rfl ?_
      refine aw_iload_n 119 dX5_digest_118 rfl 2 rfl rfl ?_
      obtain ⟨g17, h⟩ := h
      refine aw_callV (M' := M_X5_isTaken) 122 51 5 l0 [.int _, .int _] [.ref _] dX5_digest_119 lk_RX5_51 mv_X5_isTaken mp_X5_isTaken rfl ⟨leb rfl, leb rfl⟩ rfl (ltb rfl) g17 rfl (leb rfl) (leb rfl) (leb rfl) rfl (am_X5_isTaken hG h) (kkI fun v16 X15 h => ?_) (kxN KrI.no)
      refine aw_widen (cc' := 0) (ss' := 0) (leb rfl) (leb rfl) ?_
      refine aw_if_eq 129 125 dX5_digest_122 rfl rfl (fun c18 => ?_) (fun c18 => ?_)
      · replace h := h.1 c18
        refine aw_lconst 130 (v := 0) dX5_digest_129 kL_0 rfl ?_
        exact aw_pick [0, 1, 2] rfl (aw_X5_digest_130 hG hO27 (fun _ _ _ _ h => h) h)
      · replace h := h.2 c18
        refine aw_lconst 126 (v := 1) dX5_digest_125 kL_1 rfl ?_
        refine aw_goto 130 dX5_digest_126 rfl ?_
        exact aw_pick [0, 1, 2] rfl (aw_X5_digest_130 hG hO27 (fun _ _ _ _ h => h) h))
set_option maxRecDepth 20000 in
theorem aw_X5_digest_41 {G : GG} (hG : G.1.stackTraces = false) {P27 : Nat → Int32 → XH → Prop} {l0 : Nat} {l1 : Int32} {l2 : Int32} {X : XH} {K : Int64 → XH → Prop} (hO27 : ∀ (l0 : Nat) (l1 : Int32) (X : XH), P27 l0 l1 X → AW G M_X5_digest 27 [(0, .ref l0), (1, .int l1)] [] X 0 0 (KrL K)) (h : w_X5_digest_41 P27 l0 l1 l2 X K) : AW G M_X5_digest 41 [(0, .ref l0), (1, .int l1), (2, .int l2)] [] X 0 0 (KrL K) :=
  h (fun l0 l1 l2 X => AW G M_X5_digest 41 [(0, .ref l0), (1, .int l1), (2, .int l2)] [] X 0 0 (KrL K)) (fun l0 l1 l2 X h => by
    refine aw_iload_n 42 dX5_digest_41 rfl 2 rfl rfl ?_
    refine aw_iconst 43 (v := 3) dX5_digest_42 kI_3 rfl ?_
    refine aw_icmp_gt 67 46 dX5_digest_43 rfl rfl (fun c1 => ?_) (fun c1 => ?_)
    · replace h := h.1 c1
      refine aw_aload_n 68 dX5_digest_67 rfl 0 rfl rfl ?_
      refine aw_aload_n 69 dX5_digest_68 rfl 0 rfl rfl ?_
      refine aw_iload_n 70 dX5_digest_69 rfl 1 rfl rfl ?_
      obtain ⟨g4, h⟩ := h
      refine aw_callV (M' := M_X5_longest) 73 218 5 l0 [.int _] [.ref _] dX5_digest_70 lk_RX5_218 mv_X5_longest mp_X5_longest rfl ⟨leb rfl, leb rfl⟩ rfl (ltb rfl) g4 rfl (leb rfl) (leb rfl) (leb rfl) rfl (am_X5_longest hG h) (kkI fun v3 X2 h => ?_) (kxN KrI.no)
      refine aw_widen (cc' := 0) (ss' := 0) (leb rfl) (leb rfl) ?_
      refine aw_iconst 74 (v := 1) dX5_digest_73 kI_1 rfl ?_
      refine aw_iadd 75 dX5_digest_74 rfl ?_
      refine aw_i2l 76 dX5_digest_75 rfl ?_
      obtain ⟨g6, h⟩ := h
      refine aw_callV (M' := M_X5_mixIn) 79 245 5 l0 [.long _] [] dX5_digest_76 lk_RX5_245 mv_X5_mixIn mp_X5_mixIn rfl ⟨leb rfl, leb rfl⟩ rfl (ltb rfl) g6 rfl (leb rfl) (leb rfl) (leb rfl) rfl (am_X5_mixIn hG h) (kkV fun X5 h => ?_) (kxN KrV.no)
      refine aw_widen (cc' := 0) (ss' := 0) (leb rfl) (leb rfl) ?_
      refine aw_iconst 80 (v := 0) dX5_digest_79 kI_0 rfl ?_
      refine aw_istore_n 81 (lv' := [(2, _), (0, _), (1, _)]) dX5_digest_80 rfl (ltb rfl) rfl rfl ?_
      exact aw_pick [1, 2, 0] rfl (aw_X5_digest_81 hG hO27 h)
    · replace h := h.2 c1
      refine aw_aload_n 47 dX5_digest_46 rfl 0 rfl rfl ?_
      refine aw_aload_n 48 dX5_digest_47 rfl 0 rfl rfl ?_
      obtain ⟨g7, h⟩ := h
      obtain ⟨g8, h⟩ := h
      refine aw_getR 51 dX5_digest_48 fl_RX5_7 rfl g7 g8 rfl ?_
      refine aw_iload_n 52 dX5_digest_51 rfl 1 rfl rfl ?_
      refine aw_iload_n 53 dX5_digest_52 rfl 2 rfl rfl ?_
      refine aw_callS (M' := M_X5_at) 56 44 [.int _, .int _] [.ref _, .ref _] dX5_digest_53 lk_RX5_44 ms_X5_at mp_X5_at rfl ⟨leb rfl, leb rfl⟩ rfl (leb rfl) (leb rfl) (leb rfl) rfl (am_X5_at hG h) (kkI fun v10 X9 h => ?_) (kxN KrI.no)
      refine aw_widen (cc' := 0) (ss' := 0) (leb rfl) (leb rfl) ?_
      obtain ⟨g11, h⟩ := h
      obtain ⟨g12, h⟩ := h
      refine aw_iaload 57 dX5_digest_56 g11 g12 rfl ?_
      refine aw_i2l 58 dX5_digest_57 rfl ?_
      obtain ⟨g14, h⟩ := h
      refine aw_callV (M' := M_X5_mixIn) 61 245 5 l0 [.long _] [] dX5_digest_58 lk_RX5_245 mv_X5_mixIn mp_X5_mixIn rfl ⟨leb rfl, leb rfl⟩ rfl (ltb rfl) g14 rfl (leb rfl) (leb rfl) (leb rfl) rfl (am_X5_mixIn hG h) (kkV fun X13 h => ?_) (kxN KrV.no)
      refine aw_widen (cc' := 0) (ss' := 0) (leb rfl) (leb rfl) ?_
      refine aw_iinc 64 (v := 1) (lv' := [(2, _), (0, _), (1, _)]) dX5_digest_61 2 rfl kI_1 (ltb rfl) rfl rfl ?_
      refine aw_goto 41 dX5_digest_64 rfl ?_
      exact aw_pick [1, 2, 0] rfl h)
set_option maxRecDepth 20000 in
theorem aw_X5_digest_209 {G : GG} (hG : G.1.stackTraces = false) {P202 : Nat → Int32 → XH → Prop} {l0 : Nat} {l1 : Int32} {l2 : Int32} {X : XH} {K : Int64 → XH → Prop} (hO202 : ∀ (l0 : Nat) (l1 : Int32) (X : XH), P202 l0 l1 X → AW G M_X5_digest 202 [(0, .ref l0), (1, .int l1)] [] X 0 0 (KrL K)) (h : w_X5_digest_209 P202 l0 l1 l2 X K) : AW G M_X5_digest 209 [(0, .ref l0), (1, .int l1), (2, .int l2)] [] X 0 0 (KrL K) :=
  h (fun l0 l1 l2 X => AW G M_X5_digest 209 [(0, .ref l0), (1, .int l1), (2, .int l2)] [] X 0 0 (KrL K)) (fun l0 l1 l2 X h => by
    refine aw_iload_n 210 dX5_digest_209 rfl 2 rfl rfl ?_
    refine aw_iconst 211 (v := 3) dX5_digest_210 kI_3 rfl ?_
    refine aw_icmp_ge 287 214 dX5_digest_211 rfl rfl (fun c1 => ?_) (fun c1 => ?_)
    · replace h := h.1 c1
      refine aw_iinc 290 (v := 1) (lv' := [(1, _), (0, _), (2, _)]) dX5_digest_287 1 rfl kI_1 (ltb rfl) rfl rfl ?_
      refine aw_goto 202 dX5_digest_290 rfl ?_
      exact aw_pick [1, 0] rfl (hO202 _ _ _ h)
    · replace h := h.2 c1
      refine aw_aload_n 215 dX5_digest_214 rfl 0 rfl rfl ?_
      refine aw_aload_n 216 dX5_digest_215 rfl 0 rfl rfl ?_
      obtain ⟨g2, h⟩ := h
      obtain ⟨g3, h⟩ := h
      refine aw_getR 219 dX5_digest_216 fl_RX5_7 rfl g2 g3 rfl ?_
      refine aw_sipush 222 (v := 312) dX5_digest_219 kS_312 rfl ?_
      refine aw_iconst 223 (v := 3) dX5_digest_222 kI_3 rfl ?_
      refine aw_iload_n 224 dX5_digest_223 rfl 1 rfl rfl ?_
      refine aw_imul 225 dX5_digest_224 rfl ?_
      refine aw_iadd 226 dX5_digest_225 rfl ?_
      refine aw_iload_n 227 dX5_digest_226 rfl 2 rfl rfl ?_
      refine aw_iadd 228 dX5_digest_227 rfl ?_
      obtain ⟨g4, h⟩ := h
      obtain ⟨g5, h⟩ := h
      refine aw_iaload 229 dX5_digest_228 g4 g5 rfl ?_
      refine aw_i2l 230 dX5_digest_229 rfl ?_
      refine aw_callV (M' := M_X5_mixIn) 233 245 5 l0 [.long _] [] dX5_digest_230 lk_RX5_245 mv_X5_mixIn mp_X5_mixIn rfl ⟨leb rfl, leb rfl⟩ rfl (ltb rfl) g2 rfl (leb rfl) (leb rfl) (leb rfl) rfl (am_X5_mixIn hG h) (kkV fun X6 h => ?_) (kxN KrV.no)
      refine aw_widen (cc' := 0) (ss' := 0) (leb rfl) (leb rfl) ?_
      refine aw_aload_n 234 dX5_digest_233 rfl 0 rfl rfl ?_
      refine aw_aload_n 235 dX5_digest_234 rfl 0 rfl rfl ?_
      refine aw_iload_n 236 dX5_digest_235 rfl 1 rfl rfl ?_
      refine aw_iload_n 237 dX5_digest_236 rfl 2 rfl rfl ?_
      obtain ⟨g9, h⟩ := h
      refine aw_callV (M' := M_X5_left) 240 65 5 l0 [.int _, .int _] [.ref _] dX5_digest_237 lk_RX5_65 mv_X5_left mp_X5_left rfl ⟨leb rfl, leb rfl⟩ rfl (ltb rfl) g9 rfl (leb rfl) (leb rfl) (leb rfl) rfl (am_X5_left hG h) (kkI fun v8 X7 h => ?_) (kxN KrI.no)
      refine aw_widen (cc' := 0) (ss' := 0) (leb rfl) (leb rfl) ?_
      refine aw_i2l 241 dX5_digest_240 rfl ?_
      obtain ⟨g11, h⟩ := h
      refine aw_callV (M' := M_X5_mixIn) 244 245 5 l0 [.long _] [] dX5_digest_241 lk_RX5_245 mv_X5_mixIn mp_X5_mixIn rfl ⟨leb rfl, leb rfl⟩ rfl (ltb rfl) g11 rfl (leb rfl) (leb rfl) (leb rfl) rfl (am_X5_mixIn hG h) (kkV fun X10 h => ?_) (kxN KrV.no)
      refine aw_widen (cc' := 0) (ss' := 0) (leb rfl) (leb rfl) ?_
      refine aw_aload_n 245 dX5_digest_244 rfl 0 rfl rfl ?_
      refine aw_aload_n 246 dX5_digest_245 rfl 0 rfl rfl ?_
      refine aw_iload_n 247 dX5_digest_246 rfl 1 rfl rfl ?_
      refine aw_iload_n 248 dX5_digest_247 rfl 2 rfl rfl ?_
      obtain ⟨g14, h⟩ := h
      refine aw_callV (M' := M_X5_voiced) 251 182 5 l0 [.int _, .int _] [.ref _] dX5_digest_248 lk_RX5_182 mv_X5_voiced mp_X5_voiced rfl ⟨leb rfl, leb rfl⟩ rfl (ltb rfl) g14 rfl (leb rfl) (leb rfl) (leb rfl) rfl (am_X5_voiced hG h) (kkI fun v13 X12 h => ?_) (kxN KrI.no)
      refine aw_widen (cc' := 0) (ss' := 0) (leb rfl) (leb rfl) ?_
      refine aw_i2l 252 dX5_digest_251 rfl ?_
      obtain ⟨g16, h⟩ := h
      refine aw_callV (M' := M_X5_mixIn) 255 245 5 l0 [.long _] [] dX5_digest_252 lk_RX5_245 mv_X5_mixIn mp_X5_mixIn rfl ⟨leb rfl, leb rfl⟩ rfl (ltb rfl) g16 rfl (leb rfl) (leb rfl) (leb rfl) rfl (am_X5_mixIn hG h) (kkV fun X15 h => ?_) (kxN KrV.no)
      refine aw_widen (cc' := 0) (ss' := 0) (leb rfl) (leb rfl) ?_
      refine aw_aload_n 256 dX5_digest_255 rfl 0 rfl rfl ?_
      refine aw_aload_n 257 dX5_digest_256 rfl 0 rfl rfl ?_
      refine aw_iload_n 258 dX5_digest_257 rfl 1 rfl rfl ?_
      refine aw_iload_n 259 dX5_digest_258 rfl 2 rfl rfl ?_
      obtain ⟨g19, h⟩ := h
      refine aw_callV (M' := M_X5_sessions) 262 188 5 l0 [.int _, .int _] [.ref _] dX5_digest_259 lk_RX5_188 mv_X5_sessions mp_X5_sessions rfl ⟨leb rfl, leb rfl⟩ rfl (ltb rfl) g19 rfl (leb rfl) (leb rfl) (leb rfl) rfl (am_X5_sessions hG h) (kkI fun v18 X17 h => ?_) (kxN KrI.no)
      refine aw_widen (cc' := 0) (ss' := 0) (leb rfl) (leb rfl) ?_
      refine aw_iconst 263 (v := 1) dX5_digest_262 kI_1 rfl ?_
      refine aw_iadd 264 dX5_digest_263 rfl ?_
      refine aw_i2l 265 dX5_digest_264 rfl ?_
      obtain ⟨g21, h⟩ := h
      refine aw_callV (M' := M_X5_mixIn) 268 245 5 l0 [.long _] [] dX5_digest_265 lk_RX5_245 mv_X5_mixIn mp_X5_mixIn rfl ⟨leb rfl, leb rfl⟩ rfl (ltb rfl) g21 rfl (leb rfl) (leb rfl) (leb rfl) rfl (am_X5_mixIn hG h) (kkV fun X20 h => ?_) (kxN KrV.no)
      refine aw_widen (cc' := 0) (ss' := 0) (leb rfl) (leb rfl) ?_
      refine aw_aload_n 269 dX5_digest_268 rfl 0 rfl rfl ?_
      refine aw_aload_n 270 dX5_digest_269 rfl 0 rfl rfl ?_
      refine aw_iload_n 271 dX5_digest_270 rfl 1 rfl rfl ?_
      refine aw_iload_n 272 dX5_digest_271 rfl 2 rfl rfl ?_
      obtain ⟨g24, h⟩ := h
      refine aw_callV (M' := M_X5_sessions) 275 188 5 l0 [.int _, .int _] [.ref _] dX5_digest_272 lk_RX5_188 mv_X5_sessions mp_X5_sessions rfl ⟨leb rfl, leb rfl⟩ rfl (ltb rfl) g24 rfl (leb rfl) (leb rfl) (leb rfl) rfl (am_X5_sessions hG h) (kkI fun v23 X22 h => ?_) (kxN KrI.no)
      refine aw_widen (cc' := 0) (ss' := 0) (leb rfl) (leb rfl) ?_
      refine aw_iconst 276 (v := 1) dX5_digest_275 kI_1 rfl ?_
      refine aw_iadd 277 dX5_digest_276 rfl ?_
      refine aw_i2l 278 dX5_digest_277 rfl ?_
      obtain ⟨g26, h⟩ := h
      refine aw_callV (M' := M_X5_mixIn) 281 245 5 l0 [.long _] [] dX5_digest_278 lk_RX5_245 mv_X5_mixIn mp_X5_mixIn rfl ⟨leb rfl, leb rfl⟩ rfl (ltb rfl) g26 rfl (leb rfl) (leb rfl) (leb rfl) rfl (am_X5_mixIn hG h) (kkV fun X25 h => ?_) (kxN KrV.no)
      refine aw_widen (cc' := 0) (ss' := 0) (leb rfl) (leb rfl) ?_
      refine aw_iinc 284 (v := 1) (lv' := [(2, _), (0, _), (1, _)]) dX5_digest_281 2 rfl kI_1 (ltb rfl) rfl rfl ?_
      refine aw_goto 209 dX5_digest_284 rfl ?_
      exact aw_pick [1, 2, 0] rfl h)
set_option maxRecDepth 20000 in
theorem aw_X5_digest_360 {G : GG} (hG : G.1.stackTraces = false) {P295 : Nat → Int32 → XH → Prop} {P322 : Nat → Int32 → Int32 → XH → Prop} {l0 : Nat} {l1 : Int32} {l2 : Int32} {s0 : Nat} {s1 : Int64} {X : XH} {K : Int64 → XH → Prop} (hO295 : ∀ (l0 : Nat) (l1 : Int32) (X : XH), P295 l0 l1 X → AW G M_X5_digest 295 [(0, .ref l0), (1, .int l1)] [] X 0 0 (KrL K)) (hO322 : ∀ (l0 : Nat) (l1 : Int32) (l2 : Int32) (X : XH), P322 l0 l1 l2 X → AW G M_X5_digest 322 [(0, .ref l0), (1, .int l1), (2, .int l2)] [] X 0 0 (KrL K)) (h : w_X5_digest_360 P295 P322 l0 l1 l2 s0 s1 X K) : AW G M_X5_digest 360 [(0, .ref l0), (1, .int l1), (2, .int l2)] [.long s1, .ref s0] X 0 0 (KrL K) := by
  unfold w_X5_digest_360 at h
  obtain ⟨g2, h⟩ := h
  refine aw_callV (M' := M_X5_mixIn) 363 245 5 s0 [.long _] [] dX5_digest_360 lk_RX5_245 mv_X5_mixIn mp_X5_mixIn rfl ⟨leb rfl, leb rfl⟩ rfl (ltb rfl) g2 rfl (leb rfl) (leb rfl) (leb rfl) rfl (am_X5_mixIn hG h) (kkV fun X1 h => ?_) (kxN KrV.no)
  refine aw_widen (cc' := 0) (ss' := 0) (leb rfl) (leb rfl) ?_
  refine aw_aload_n 364 dX5_digest_363 rfl 0 rfl rfl ?_
  refine aw_aload_n 365 dX5_digest_364 rfl 0 rfl rfl ?_
  refine aw_iload_n 366 dX5_digest_365 rfl 1 rfl rfl ?_
  refine aw_iload_n 367 dX5_digest_366 rfl 2 rfl rfl ?_
  obtain ⟨g5, h⟩ := h
  refine aw_callV (M' := M_X5_signatures) 370 200 5 l0 [.int _, .int _] [.ref _] dX5_digest_367 lk_RX5_200 mv_X5_signatures mp_X5_signatures rfl ⟨leb rfl, leb rfl⟩ rfl (ltb rfl) g5 rfl (leb rfl) (leb rfl) (leb rfl) rfl (am_X5_signatures hG h) (kkI fun v4 X3 h => ?_) (kxN KrI.no)
  refine aw_widen (cc' := 0) (ss' := 0) (leb rfl) (leb rfl) ?_
  refine aw_i2l 371 dX5_digest_370 rfl ?_
  obtain ⟨g7, h⟩ := h
  refine aw_callV (M' := M_X5_mixIn) 374 245 5 l0 [.long _] [] dX5_digest_371 lk_RX5_245 mv_X5_mixIn mp_X5_mixIn rfl ⟨leb rfl, leb rfl⟩ rfl (ltb rfl) g7 rfl (leb rfl) (leb rfl) (leb rfl) rfl (am_X5_mixIn hG h) (kkV fun X6 h => ?_) (kxN KrV.no)
  refine aw_widen (cc' := 0) (ss' := 0) (leb rfl) (leb rfl) ?_
  refine aw_aload_n 375 dX5_digest_374 rfl 0 rfl rfl ?_
  refine aw_aload_n 376 dX5_digest_375 rfl 0 rfl rfl ?_
  refine aw_iload_n 377 dX5_digest_376 rfl 1 rfl rfl ?_
  refine aw_iload_n 378 dX5_digest_377 rfl 2 rfl rfl ?_
  obtain ⟨g10, h⟩ := h
  refine aw_callV (M' := M_X5_missing) 381 122 5 l0 [.int _, .int _] [.ref _] dX5_digest_378 lk_RX5_122 mv_X5_missing mp_X5_missing rfl ⟨leb rfl, leb rfl⟩ rfl (ltb rfl) g10 rfl (leb rfl) (leb rfl) (leb rfl) rfl (am_X5_missing hG h) (kkI fun v9 X8 h => ?_) (kxN KrI.no)
  refine aw_widen (cc' := 0) (ss' := 0) (leb rfl) (leb rfl) ?_
  refine aw_i2l 382 dX5_digest_381 rfl ?_
  obtain ⟨g12, h⟩ := h
  refine aw_callV (M' := M_X5_mixIn) 385 245 5 l0 [.long _] [] dX5_digest_382 lk_RX5_245 mv_X5_mixIn mp_X5_mixIn rfl ⟨leb rfl, leb rfl⟩ rfl (ltb rfl) g12 rfl (leb rfl) (leb rfl) (leb rfl) rfl (am_X5_mixIn hG h) (kkV fun X11 h => ?_) (kxN KrV.no)
  refine aw_widen (cc' := 0) (ss' := 0) (leb rfl) (leb rfl) ?_
  refine aw_iinc 388 (v := 1) (lv' := [(2, _), (0, _), (1, _)]) dX5_digest_385 2 rfl kI_1 (ltb rfl) rfl rfl ?_
  refine aw_goto 322 dX5_digest_388 rfl ?_
  exact aw_pick [1, 2, 0] rfl (hO322 _ _ _ _ h)
set_option maxRecDepth 20000 in
theorem aw_X5_digest_342 {G : GG} (hG : G.1.stackTraces = false) {P295 : Nat → Int32 → XH → Prop} {P322 : Nat → Int32 → Int32 → XH → Prop} {l0 : Nat} {l1 : Int32} {l2 : Int32} {s0 : Nat} {s1 : Int64} {X : XH} {K : Int64 → XH → Prop} (hO295 : ∀ (l0 : Nat) (l1 : Int32) (X : XH), P295 l0 l1 X → AW G M_X5_digest 295 [(0, .ref l0), (1, .int l1)] [] X 0 0 (KrL K)) (hO322 : ∀ (l0 : Nat) (l1 : Int32) (l2 : Int32) (X : XH), P322 l0 l1 l2 X → AW G M_X5_digest 322 [(0, .ref l0), (1, .int l1), (2, .int l2)] [] X 0 0 (KrL K)) (h : w_X5_digest_342 P295 P322 l0 l1 l2 s0 s1 X K) : AW G M_X5_digest 342 [(0, .ref l0), (1, .int l1), (2, .int l2)] [.long s1, .ref s0] X 0 0 (KrL K) := by
  unfold w_X5_digest_342 at h
  obtain ⟨g2, h⟩ := h
  refine aw_callV (M' := M_X5_mixIn) 345 245 5 s0 [.long _] [] dX5_digest_342 lk_RX5_245 mv_X5_mixIn mp_X5_mixIn rfl ⟨leb rfl, leb rfl⟩ rfl (ltb rfl) g2 rfl (leb rfl) (leb rfl) (leb rfl) rfl (am_X5_mixIn hG h) (kkV fun X1 h => ?_) (kxN KrV.no)
  refine aw_widen (cc' := 0) (ss' := 0) (leb rfl) (leb rfl) ?_
  refine aw_aload_n 346 dX5_digest_345 rfl 0 rfl rfl ?_
  refine aw_aload_n 347 dX5_digest_346 rfl 0 rfl rfl ?_
  refine aw_iload_n 348 dX5_digest_347 rfl 1 rfl rfl ?_
  refine aw_iload_n 349 dX5_digest_348 rfl 2 rfl rfl ?_
  obtain ⟨g5, h⟩ := h
  refine aw_callV (M' := M_X5_mixed) 352 110 5 l0 [.int _, .int _] [.ref _] dX5_digest_349 lk_RX5_110 mv_X5_mixed mp_X5_mixed rfl ⟨leb rfl, leb rfl⟩ rfl (ltb rfl) g5 rfl (leb rfl) (leb rfl) (leb rfl) rfl (am_X5_mixed hG h) (kkI fun v4 X3 h => ?_) (kxN KrI.no)
  refine aw_widen (cc' := 0) (ss' := 0) (leb rfl) (leb rfl) ?_
  refine aw_if_eq 359 355 dX5_digest_352 rfl rfl (fun c6 => ?_) (fun c6 => ?_)
  · replace h := h.1 c6
    refine aw_lconst 360 (v := 0) dX5_digest_359 kL_0 rfl ?_
    exact aw_pick [0, 1, 2] rfl (aw_X5_digest_360 hG hO295 hO322 h)
  · replace h := h.2 c6
    refine aw_lconst 356 (v := 1) dX5_digest_355 kL_1 rfl ?_
    refine aw_goto 360 dX5_digest_356 rfl ?_
    exact aw_pick [0, 1, 2] rfl (aw_X5_digest_360 hG hO295 hO322 h)
set_option maxRecDepth 20000 in
theorem aw_X5_digest_322 {G : GG} (hG : G.1.stackTraces = false) {P295 : Nat → Int32 → XH → Prop} {l0 : Nat} {l1 : Int32} {l2 : Int32} {X : XH} {K : Int64 → XH → Prop} (hO295 : ∀ (l0 : Nat) (l1 : Int32) (X : XH), P295 l0 l1 X → AW G M_X5_digest 295 [(0, .ref l0), (1, .int l1)] [] X 0 0 (KrL K)) (h : w_X5_digest_322 P295 l0 l1 l2 X K) : AW G M_X5_digest 322 [(0, .ref l0), (1, .int l1), (2, .int l2)] [] X 0 0 (KrL K) :=
  h (fun l0 l1 l2 X => AW G M_X5_digest 322 [(0, .ref l0), (1, .int l1), (2, .int l2)] [] X 0 0 (KrL K)) (fun l0 l1 l2 X h => by
    refine aw_iload_n 323 dX5_digest_322 rfl 2 rfl rfl ?_
    refine aw_iconst 324 (v := 3) dX5_digest_323 kI_3 rfl ?_
    refine aw_icmp_ge 391 327 dX5_digest_324 rfl rfl (fun c1 => ?_) (fun c1 => ?_)
    · replace h := h.1 c1
      refine aw_iinc 394 (v := 1) (lv' := [(1, _), (0, _), (2, _)]) dX5_digest_391 1 rfl kI_1 (ltb rfl) rfl rfl ?_
      refine aw_goto 295 dX5_digest_394 rfl ?_
      exact aw_pick [1, 0] rfl (hO295 _ _ _ h)
    · replace h := h.2 c1
      refine aw_aload_n 328 dX5_digest_327 rfl 0 rfl rfl ?_
      refine aw_aload_n 329 dX5_digest_328 rfl 0 rfl rfl ?_
      refine aw_iload_n 330 dX5_digest_329 rfl 1 rfl rfl ?_
      refine aw_iload_n 331 dX5_digest_330 rfl 2 rfl rfl ?_
      obtain ⟨g4, h⟩ := h
      refine aw_callV (M' := M_X5_complete) 334 113 5 l0 [.int _, .int _] [.ref _] dX5_digest_331 lk_RX5_113 mv_X5_complete mp_X5_complete rfl ⟨leb rfl, leb rfl⟩ rfl (ltb rfl) g4 rfl (leb rfl) (leb rfl) (leb rfl) rfl (am_X5_complete hG h) (kkI fun v3 X2 h => ?_) (kxN KrI.no)
      refine aw_widen (cc' := 0) (ss' := 0) (leb rfl) (leb rfl) ?_
      refine aw_if_eq 341 337 dX5_digest_334 rfl rfl (fun c5 => ?_) (fun c5 => ?_)
      · replace h := h.1 c5
        refine aw_lconst 342 (v := 0) dX5_digest_341 kL_0 rfl ?_
        exact aw_pick [0, 1, 2] rfl (aw_X5_digest_342 hG hO295 (fun _ _ _ _ h => h) h)
      · replace h := h.2 c5
        refine aw_lconst 338 (v := 1) dX5_digest_337 kL_1 rfl ?_
        refine aw_goto 342 dX5_digest_338 rfl ?_
        exact aw_pick [0, 1, 2] rfl (aw_X5_digest_342 hG hO295 (fun _ _ _ _ h => h) h))
set_option maxRecDepth 20000 in
theorem aw_X5_digest_458 {G : GG} (hG : G.1.stackTraces = false) {P399 : Nat → Int32 → XH → Prop} {l0 : Nat} {l1 : Int32} {s0 : Nat} {s1 : Int64} {X : XH} {K : Int64 → XH → Prop} (hO399 : ∀ (l0 : Nat) (l1 : Int32) (X : XH), P399 l0 l1 X → AW G M_X5_digest 399 [(0, .ref l0), (1, .int l1)] [] X 0 0 (KrL K)) (h : w_X5_digest_458 P399 l0 l1 s0 s1 X K) : AW G M_X5_digest 458 [(0, .ref l0), (1, .int l1)] [.long s1, .ref s0] X 0 0 (KrL K) := by
  unfold w_X5_digest_458 at h
  obtain ⟨g2, h⟩ := h
  refine aw_callV (M' := M_X5_mixIn) 461 245 5 s0 [.long _] [] dX5_digest_458 lk_RX5_245 mv_X5_mixIn mp_X5_mixIn rfl ⟨leb rfl, leb rfl⟩ rfl (ltb rfl) g2 rfl (leb rfl) (leb rfl) (leb rfl) rfl (am_X5_mixIn hG h) (kkV fun X1 h => ?_) (kxN KrV.no)
  refine aw_widen (cc' := 0) (ss' := 0) (leb rfl) (leb rfl) ?_
  refine aw_aload_n 462 dX5_digest_461 rfl 0 rfl rfl ?_
  refine aw_aload_n 463 dX5_digest_462 rfl 0 rfl rfl ?_
  refine aw_iload_n 464 dX5_digest_463 rfl 1 rfl rfl ?_
  obtain ⟨g5, h⟩ := h
  refine aw_callV (M' := M_X5_misfits) 467 212 5 l0 [.int _] [.ref _] dX5_digest_464 lk_RX5_212 mv_X5_misfits mp_X5_misfits rfl ⟨leb rfl, leb rfl⟩ rfl (ltb rfl) g5 rfl (leb rfl) (leb rfl) (leb rfl) rfl (am_X5_misfits hG h) (kkI fun v4 X3 h => ?_) (kxN KrI.no)
  refine aw_widen (cc' := 0) (ss' := 0) (leb rfl) (leb rfl) ?_
  refine aw_i2l 468 dX5_digest_467 rfl ?_
  obtain ⟨g7, h⟩ := h
  refine aw_callV (M' := M_X5_mixIn) 471 245 5 l0 [.long _] [] dX5_digest_468 lk_RX5_245 mv_X5_mixIn mp_X5_mixIn rfl ⟨leb rfl, leb rfl⟩ rfl (ltb rfl) g7 rfl (leb rfl) (leb rfl) (leb rfl) rfl (am_X5_mixIn hG h) (kkV fun X6 h => ?_) (kxN KrV.no)
  refine aw_widen (cc' := 0) (ss' := 0) (leb rfl) (leb rfl) ?_
  refine aw_aload_n 472 dX5_digest_471 rfl 0 rfl rfl ?_
  refine aw_aload_n 473 dX5_digest_472 rfl 0 rfl rfl ?_
  refine aw_iload_n 474 dX5_digest_473 rfl 1 rfl rfl ?_
  obtain ⟨g10, h⟩ := h
  refine aw_callV (M' := M_X5_nextOne) 477 221 5 l0 [.int _] [.ref _] dX5_digest_474 lk_RX5_221 mv_X5_nextOne mp_X5_nextOne rfl ⟨leb rfl, leb rfl⟩ rfl (ltb rfl) g10 rfl (leb rfl) (leb rfl) (leb rfl) rfl (am_X5_nextOne hG h) (kkI fun v9 X8 h => ?_) (kxN KrI.no)
  refine aw_widen (cc' := 0) (ss' := 0) (leb rfl) (leb rfl) ?_
  refine aw_iconst 478 (v := 1) dX5_digest_477 kI_1 rfl ?_
  refine aw_iadd 479 dX5_digest_478 rfl ?_
  refine aw_i2l 480 dX5_digest_479 rfl ?_
  obtain ⟨g12, h⟩ := h
  refine aw_callV (M' := M_X5_mixIn) 483 245 5 l0 [.long _] [] dX5_digest_480 lk_RX5_245 mv_X5_mixIn mp_X5_mixIn rfl ⟨leb rfl, leb rfl⟩ rfl (ltb rfl) g12 rfl (leb rfl) (leb rfl) (leb rfl) rfl (am_X5_mixIn hG h) (kkV fun X11 h => ?_) (kxN KrV.no)
  refine aw_widen (cc' := 0) (ss' := 0) (leb rfl) (leb rfl) ?_
  refine aw_aload_n 484 dX5_digest_483 rfl 0 rfl rfl ?_
  refine aw_aload_n 485 dX5_digest_484 rfl 0 rfl rfl ?_
  refine aw_iload_n 486 dX5_digest_485 rfl 1 rfl rfl ?_
  obtain ⟨g15, h⟩ := h
  refine aw_callV (M' := M_X5_mean) 489 233 5 l0 [.int _] [.ref _] dX5_digest_486 lk_RX5_233 mv_X5_mean mp_X5_mean rfl ⟨leb rfl, leb rfl⟩ rfl (ltb rfl) g15 rfl (leb rfl) (leb rfl) (leb rfl) rfl (am_X5_mean hG h) (kkD fun v14 X13 h => ?_) (kxN KrD.no)
  refine aw_widen (cc' := 0) (ss' := 0) (leb rfl) (leb rfl) ?_
  refine aw_callS (M' := M_Jxe99ae_doubleToLongBits_ccdee) 492 249 [.double _] [.ref _] dX5_digest_489 lk_RX5_249 ms_Jxe99ae_doubleToLongBits_ccdee mp_Jxe99ae_doubleToLongBits_ccdee rfl ⟨leb rfl, leb rfl⟩ rfl (leb rfl) (leb rfl) (leb rfl) rfl (am_Jxe99ae_doubleToLongBits_ccdee hG h) (kkL fun v17 X16 h => ?_) (kxN KrL.no)
  refine aw_widen (cc' := 0) (ss' := 0) (leb rfl) (leb rfl) ?_
  obtain ⟨g19, h⟩ := h
  refine aw_callV (M' := M_X5_mixIn) 495 245 5 l0 [.long _] [] dX5_digest_492 lk_RX5_245 mv_X5_mixIn mp_X5_mixIn rfl ⟨leb rfl, leb rfl⟩ rfl (ltb rfl) g19 rfl (leb rfl) (leb rfl) (leb rfl) rfl (am_X5_mixIn hG h) (kkV fun X18 h => ?_) (kxN KrV.no)
  refine aw_widen (cc' := 0) (ss' := 0) (leb rfl) (leb rfl) ?_
  refine aw_iinc 498 (v := 1) (lv' := [(1, _), (0, _)]) dX5_digest_495 1 rfl kI_1 (ltb rfl) rfl rfl ?_
  refine aw_goto 399 dX5_digest_498 rfl ?_
  exact aw_pick [1, 0] rfl (hO399 _ _ _ h)
set_option maxRecDepth 20000 in
theorem aw_X5_digest_603 {G : GG} (hG : G.1.stackTraces = false)  {l0 : Nat} {l1 : Int32} {X : XH} {K : Int64 → XH → Prop}  (h : w_X5_digest_603  l0 l1 X K) : AW G M_X5_digest 603 [(0, .ref l0), (1, .int l1)] [] X 0 0 (KrL K) :=
  h (fun l0 l1 X => AW G M_X5_digest 603 [(0, .ref l0), (1, .int l1)] [] X 0 0 (KrL K)) (fun l0 l1 X h => by
    refine aw_iload_n 604 dX5_digest_603 rfl 1 rfl rfl ?_
    refine aw_aload_n 605 dX5_digest_604 rfl 0 rfl rfl ?_
    obtain ⟨g1, h⟩ := h
    refine aw_getI 608 dX5_digest_605 fl_RX5_125 rfl g1 rfl ?_
    refine aw_icmp_ge 628 611 dX5_digest_608 rfl rfl (fun c2 => ?_) (fun c2 => ?_)
    · replace h := h.1 c2
      refine aw_aload_n 629 dX5_digest_628 rfl 0 rfl rfl ?_
      refine aw_getL 632 dX5_digest_629 fl_RX5_239 rfl g1 rfl ?_
      exact aw_lreturn dX5_digest_632 rfl (leb rfl) (leb rfl) ⟨_, rfl, h⟩
    · replace h := h.2 c2
      refine aw_aload_n 612 dX5_digest_611 rfl 0 rfl rfl ?_
      refine aw_aload_n 613 dX5_digest_612 rfl 0 rfl rfl ?_
      obtain ⟨g3, h⟩ := h
      refine aw_getR 616 dX5_digest_613 fl_RX5_23 rfl g1 g3 rfl ?_
      refine aw_iload_n 617 dX5_digest_616 rfl 1 rfl rfl ?_
      obtain ⟨g4, h⟩ := h
      obtain ⟨g5, h⟩ := h
      refine aw_iaload 618 dX5_digest_617 g4 g5 rfl ?_
      refine aw_i2l 619 dX5_digest_618 rfl ?_
      refine aw_callV (M' := M_X5_mixIn) 622 245 5 l0 [.long _] [] dX5_digest_619 lk_RX5_245 mv_X5_mixIn mp_X5_mixIn rfl ⟨leb rfl, leb rfl⟩ rfl (ltb rfl) g1 rfl (leb rfl) (leb rfl) (leb rfl) rfl (am_X5_mixIn hG h) (kkV fun X6 h => ?_) (kxN KrV.no)
      refine aw_widen (cc' := 0) (ss' := 0) (leb rfl) (leb rfl) ?_
      refine aw_iinc 625 (v := 1) (lv' := [(1, _), (0, _)]) dX5_digest_622 1 rfl kI_1 (ltb rfl) rfl rfl ?_
      refine aw_goto 603 dX5_digest_625 rfl ?_
      exact aw_pick [1, 0] rfl h)
set_option maxRecDepth 20000 in
theorem aw_X5_digest_571 {G : GG} (hG : G.1.stackTraces = false)  {l0 : Nat} {s0 : Nat} {s1 : Int64} {X : XH} {K : Int64 → XH → Prop}  (h : w_X5_digest_571  l0 s0 s1 X K) : AW G M_X5_digest 571 [(0, .ref l0)] [.long s1, .ref s0] X 0 0 (KrL K) := by
  unfold w_X5_digest_571 at h
  obtain ⟨g2, h⟩ := h
  refine aw_callV (M' := M_X5_mixIn) 574 245 5 s0 [.long _] [] dX5_digest_571 lk_RX5_245 mv_X5_mixIn mp_X5_mixIn rfl ⟨leb rfl, leb rfl⟩ rfl (ltb rfl) g2 rfl (leb rfl) (leb rfl) (leb rfl) rfl (am_X5_mixIn hG h) (kkV fun X1 h => ?_) (kxN KrV.no)
  refine aw_widen (cc' := 0) (ss' := 0) (leb rfl) (leb rfl) ?_
  refine aw_aload_n 575 dX5_digest_574 rfl 0 rfl rfl ?_
  refine aw_aload_n 576 dX5_digest_575 rfl 0 rfl rfl ?_
  obtain ⟨g3, h⟩ := h
  obtain ⟨g4, h⟩ := h
  refine aw_getR 579 dX5_digest_576 fl_RX5_19 rfl g3 g4 rfl ?_
  refine aw_iconst 580 (v := 1) dX5_digest_579 kI_1 rfl ?_
  obtain ⟨g5, h⟩ := h
  obtain ⟨g6, h⟩ := h
  refine aw_baload 581 dX5_digest_580 g5 g6 rfl ?_
  refine aw_if_eq 588 584 dX5_digest_581 rfl rfl (fun c7 => ?_) (fun c7 => ?_)
  · replace h := h.1 c7
    refine aw_lconst 589 (v := 0) dX5_digest_588 kL_0 rfl ?_
    refine aw_callV (M' := M_X5_mixIn) 592 245 5 l0 [.long _] [] dX5_digest_589 lk_RX5_245 mv_X5_mixIn mp_X5_mixIn rfl ⟨leb rfl, leb rfl⟩ rfl (ltb rfl) g3 rfl (leb rfl) (leb rfl) (leb rfl) rfl (am_X5_mixIn hG h) (kkV fun X8 h => ?_) (kxN KrV.no)
    refine aw_widen (cc' := 0) (ss' := 0) (leb rfl) (leb rfl) ?_
    refine aw_aload_n 593 dX5_digest_592 rfl 0 rfl rfl ?_
    refine aw_aload_n 594 dX5_digest_593 rfl 0 rfl rfl ?_
    obtain ⟨g9, h⟩ := h
    refine aw_getI 597 dX5_digest_594 fl_RX5_125 rfl g9 rfl ?_
    refine aw_i2l 598 dX5_digest_597 rfl ?_
    refine aw_callV (M' := M_X5_mixIn) 601 245 5 l0 [.long _] [] dX5_digest_598 lk_RX5_245 mv_X5_mixIn mp_X5_mixIn rfl ⟨leb rfl, leb rfl⟩ rfl (ltb rfl) g9 rfl (leb rfl) (leb rfl) (leb rfl) rfl (am_X5_mixIn hG h) (kkV fun X10 h => ?_) (kxN KrV.no)
    refine aw_widen (cc' := 0) (ss' := 0) (leb rfl) (leb rfl) ?_
    refine aw_iconst 602 (v := 0) dX5_digest_601 kI_0 rfl ?_
    refine aw_istore_n 603 (lv' := [(1, _), (0, _)]) dX5_digest_602 rfl (ltb rfl) rfl rfl ?_
    exact aw_pick [1, 0] rfl (aw_X5_digest_603 hG  h)
  · replace h := h.2 c7
    refine aw_lconst 585 (v := 1) dX5_digest_584 kL_1 rfl ?_
    refine aw_goto 589 dX5_digest_585 rfl ?_
    refine aw_callV (M' := M_X5_mixIn) 592 245 5 l0 [.long _] [] dX5_digest_589 lk_RX5_245 mv_X5_mixIn mp_X5_mixIn rfl ⟨leb rfl, leb rfl⟩ rfl (ltb rfl) g3 rfl (leb rfl) (leb rfl) (leb rfl) rfl (am_X5_mixIn hG h) (kkV fun X11 h => ?_) (kxN KrV.no)
    refine aw_widen (cc' := 0) (ss' := 0) (leb rfl) (leb rfl) ?_
    refine aw_aload_n 593 dX5_digest_592 rfl 0 rfl rfl ?_
    refine aw_aload_n 594 dX5_digest_593 rfl 0 rfl rfl ?_
    obtain ⟨g12, h⟩ := h
    refine aw_getI 597 dX5_digest_594 fl_RX5_125 rfl g12 rfl ?_
    refine aw_i2l 598 dX5_digest_597 rfl ?_
    refine aw_callV (M' := M_X5_mixIn) 601 245 5 l0 [.long _] [] dX5_digest_598 lk_RX5_245 mv_X5_mixIn mp_X5_mixIn rfl ⟨leb rfl, leb rfl⟩ rfl (ltb rfl) g12 rfl (leb rfl) (leb rfl) (leb rfl) rfl (am_X5_mixIn hG h) (kkV fun X13 h => ?_) (kxN KrV.no)
    refine aw_widen (cc' := 0) (ss' := 0) (leb rfl) (leb rfl) ?_
    refine aw_iconst 602 (v := 0) dX5_digest_601 kI_0 rfl ?_
    refine aw_istore_n 603 (lv' := [(1, _), (0, _)]) dX5_digest_602 rfl (ltb rfl) rfl rfl ?_
    exact aw_pick [1, 0] rfl (aw_X5_digest_603 hG  h)
set_option maxRecDepth 20000 in
theorem aw_X5_digest_505 {G : GG} (hG : G.1.stackTraces = false)  {l0 : Nat} {l1 : Int32} {X : XH} {K : Int64 → XH → Prop}  (h : w_X5_digest_505  l0 l1 X K) : AW G M_X5_digest 505 [(0, .ref l0), (1, .int l1)] [] X 0 0 (KrL K) :=
  h (fun l0 l1 X => AW G M_X5_digest 505 [(0, .ref l0), (1, .int l1)] [] X 0 0 (KrL K)) (fun l0 l1 X h => by
    refine aw_iload_n 506 dX5_digest_505 rfl 1 rfl rfl ?_
    refine aw_sipush 509 (v := 370) dX5_digest_506 kS_370 rfl ?_
    refine aw_icmp_gt 529 512 dX5_digest_509 rfl rfl (fun c1 => ?_) (fun c1 => ?_)
    · replace h := h.1 c1
      refine aw_aload_n 530 dX5_digest_529 rfl 0 rfl rfl ?_
      refine aw_aload_n 531 dX5_digest_530 rfl 0 rfl rfl ?_
      obtain ⟨g4, h⟩ := h
      refine aw_callV (M' := M_X5_best) 534 224 5 l0 [] [.ref _] dX5_digest_531 lk_RX5_224 mv_X5_best mp_X5_best rfl ⟨leb rfl, leb rfl⟩ rfl (ltb rfl) g4 rfl (leb rfl) (leb rfl) (leb rfl) rfl (am_X5_best hG h) (kkI fun v3 X2 h => ?_) (kxN KrI.no)
      refine aw_widen (cc' := 0) (ss' := 0) (leb rfl) (leb rfl) ?_
      refine aw_i2l 535 dX5_digest_534 rfl ?_
      obtain ⟨g6, h⟩ := h
      refine aw_callV (M' := M_X5_mixIn) 538 245 5 l0 [.long _] [] dX5_digest_535 lk_RX5_245 mv_X5_mixIn mp_X5_mixIn rfl ⟨leb rfl, leb rfl⟩ rfl (ltb rfl) g6 rfl (leb rfl) (leb rfl) (leb rfl) rfl (am_X5_mixIn hG h) (kkV fun X5 h => ?_) (kxN KrV.no)
      refine aw_widen (cc' := 0) (ss' := 0) (leb rfl) (leb rfl) ?_
      refine aw_aload_n 539 dX5_digest_538 rfl 0 rfl rfl ?_
      refine aw_aload_n 540 dX5_digest_539 rfl 0 rfl rfl ?_
      obtain ⟨g9, h⟩ := h
      refine aw_callV (M' := M_X5_loudest) 543 230 5 l0 [] [.ref _] dX5_digest_540 lk_RX5_230 mv_X5_loudest mp_X5_loudest rfl ⟨leb rfl, leb rfl⟩ rfl (ltb rfl) g9 rfl (leb rfl) (leb rfl) (leb rfl) rfl (am_X5_loudest hG h) (kkI fun v8 X7 h => ?_) (kxN KrI.no)
      refine aw_widen (cc' := 0) (ss' := 0) (leb rfl) (leb rfl) ?_
      refine aw_i2l 544 dX5_digest_543 rfl ?_
      obtain ⟨g11, h⟩ := h
      refine aw_callV (M' := M_X5_mixIn) 547 245 5 l0 [.long _] [] dX5_digest_544 lk_RX5_245 mv_X5_mixIn mp_X5_mixIn rfl ⟨leb rfl, leb rfl⟩ rfl (ltb rfl) g11 rfl (leb rfl) (leb rfl) (leb rfl) rfl (am_X5_mixIn hG h) (kkV fun X10 h => ?_) (kxN KrV.no)
      refine aw_widen (cc' := 0) (ss' := 0) (leb rfl) (leb rfl) ?_
      refine aw_aload_n 548 dX5_digest_547 rfl 0 rfl rfl ?_
      refine aw_aload_n 549 dX5_digest_548 rfl 0 rfl rfl ?_
      obtain ⟨g12, h⟩ := h
      refine aw_getI 552 dX5_digest_549 fl_RX5_41 rfl g12 rfl ?_
      refine aw_i2l 553 dX5_digest_552 rfl ?_
      refine aw_callV (M' := M_X5_mixIn) 556 245 5 l0 [.long _] [] dX5_digest_553 lk_RX5_245 mv_X5_mixIn mp_X5_mixIn rfl ⟨leb rfl, leb rfl⟩ rfl (ltb rfl) g12 rfl (leb rfl) (leb rfl) (leb rfl) rfl (am_X5_mixIn hG h) (kkV fun X13 h => ?_) (kxN KrV.no)
      refine aw_widen (cc' := 0) (ss' := 0) (leb rfl) (leb rfl) ?_
      refine aw_aload_n 557 dX5_digest_556 rfl 0 rfl rfl ?_
      refine aw_aload_n 558 dX5_digest_557 rfl 0 rfl rfl ?_
      obtain ⟨g14, h⟩ := h
      obtain ⟨g15, h⟩ := h
      refine aw_getR 561 dX5_digest_558 fl_RX5_19 rfl g14 g15 rfl ?_
      refine aw_iconst 562 (v := 0) dX5_digest_561 kI_0 rfl ?_
      obtain ⟨g16, h⟩ := h
      obtain ⟨g17, h⟩ := h
      refine aw_baload 563 dX5_digest_562 g16 g17 rfl ?_
      refine aw_if_eq 570 566 dX5_digest_563 rfl rfl (fun c18 => ?_) (fun c18 => ?_)
      · replace h := h.1 c18
        refine aw_lconst 571 (v := 0) dX5_digest_570 kL_0 rfl ?_
        exact aw_pick [0] rfl (aw_X5_digest_571 hG  h)
      · replace h := h.2 c18
        refine aw_lconst 567 (v := 1) dX5_digest_566 kL_1 rfl ?_
        refine aw_goto 571 dX5_digest_567 rfl ?_
        exact aw_pick [0] rfl (aw_X5_digest_571 hG  h)
    · replace h := h.2 c1
      refine aw_aload_n 513 dX5_digest_512 rfl 0 rfl rfl ?_
      refine aw_aload_n 514 dX5_digest_513 rfl 0 rfl rfl ?_
      obtain ⟨g19, h⟩ := h
      obtain ⟨g20, h⟩ := h
      refine aw_getR 517 dX5_digest_514 fl_RX5_7 rfl g19 g20 rfl ?_
      refine aw_iload_n 518 dX5_digest_517 rfl 1 rfl rfl ?_
      obtain ⟨g21, h⟩ := h
      obtain ⟨g22, h⟩ := h
      refine aw_iaload 519 dX5_digest_518 g21 g22 rfl ?_
      refine aw_i2l 520 dX5_digest_519 rfl ?_
      refine aw_callV (M' := M_X5_mixIn) 523 245 5 l0 [.long _] [] dX5_digest_520 lk_RX5_245 mv_X5_mixIn mp_X5_mixIn rfl ⟨leb rfl, leb rfl⟩ rfl (ltb rfl) g19 rfl (leb rfl) (leb rfl) (leb rfl) rfl (am_X5_mixIn hG h) (kkV fun X23 h => ?_) (kxN KrV.no)
      refine aw_widen (cc' := 0) (ss' := 0) (leb rfl) (leb rfl) ?_
      refine aw_iinc 526 (v := 1) (lv' := [(1, _), (0, _)]) dX5_digest_523 1 rfl kI_1 (ltb rfl) rfl rfl ?_
      refine aw_goto 505 dX5_digest_526 rfl ?_
      exact aw_pick [1, 0] rfl h)
set_option maxRecDepth 20000 in
theorem aw_X5_digest_399 {G : GG} (hG : G.1.stackTraces = false)  {l0 : Nat} {l1 : Int32} {X : XH} {K : Int64 → XH → Prop}  (h : w_X5_digest_399  l0 l1 X K) : AW G M_X5_digest 399 [(0, .ref l0), (1, .int l1)] [] X 0 0 (KrL K) :=
  h (fun l0 l1 X => AW G M_X5_digest 399 [(0, .ref l0), (1, .int l1)] [] X 0 0 (KrL K)) (fun l0 l1 X h => by
    refine aw_iload_n 400 dX5_digest_399 rfl 1 rfl rfl ?_
    refine aw_iconst 401 (v := 3) dX5_digest_400 kI_3 rfl ?_
    refine aw_icmp_ge 501 404 dX5_digest_401 rfl rfl (fun c1 => ?_) (fun c1 => ?_)
    · replace h := h.1 c1
      refine aw_sipush 504 (v := 367) dX5_digest_501 kS_367 rfl ?_
      refine aw_istore_n 505 (lv' := [(1, _), (0, _)]) dX5_digest_504 rfl (ltb rfl) rfl rfl ?_
      exact aw_pick [1, 0] rfl (aw_X5_digest_505 hG  h)
    · replace h := h.2 c1
      refine aw_aload_n 405 dX5_digest_404 rfl 0 rfl rfl ?_
      refine aw_aload_n 406 dX5_digest_405 rfl 0 rfl rfl ?_
      refine aw_iload_n 407 dX5_digest_406 rfl 1 rfl rfl ?_
      obtain ⟨g4, h⟩ := h
      refine aw_callV (M' := M_X5_annexed) 410 100 5 l0 [.int _] [.ref _] dX5_digest_407 lk_RX5_100 mv_X5_annexed mp_X5_annexed rfl ⟨leb rfl, leb rfl⟩ rfl (ltb rfl) g4 rfl (leb rfl) (leb rfl) (leb rfl) rfl (am_X5_annexed hG h) (kkI fun v3 X2 h => ?_) (kxN KrI.no)
      refine aw_widen (cc' := 0) (ss' := 0) (leb rfl) (leb rfl) ?_
      refine aw_i2l 411 dX5_digest_410 rfl ?_
      obtain ⟨g6, h⟩ := h
      refine aw_callV (M' := M_X5_mixIn) 414 245 5 l0 [.long _] [] dX5_digest_411 lk_RX5_245 mv_X5_mixIn mp_X5_mixIn rfl ⟨leb rfl, leb rfl⟩ rfl (ltb rfl) g6 rfl (leb rfl) (leb rfl) (leb rfl) rfl (am_X5_mixIn hG h) (kkV fun X5 h => ?_) (kxN KrV.no)
      refine aw_widen (cc' := 0) (ss' := 0) (leb rfl) (leb rfl) ?_
      refine aw_aload_n 415 dX5_digest_414 rfl 0 rfl rfl ?_
      refine aw_aload_n 416 dX5_digest_415 rfl 0 rfl rfl ?_
      refine aw_iload_n 417 dX5_digest_416 rfl 1 rfl rfl ?_
      obtain ⟨g9, h⟩ := h
      refine aw_callV (M' := M_X5_taken) 420 203 5 l0 [.int _] [.ref _] dX5_digest_417 lk_RX5_203 mv_X5_taken mp_X5_taken rfl ⟨leb rfl, leb rfl⟩ rfl (ltb rfl) g9 rfl (leb rfl) (leb rfl) (leb rfl) rfl (am_X5_taken hG h) (kkI fun v8 X7 h => ?_) (kxN KrI.no)
      refine aw_widen (cc' := 0) (ss' := 0) (leb rfl) (leb rfl) ?_
      refine aw_i2l 421 dX5_digest_420 rfl ?_
      obtain ⟨g11, h⟩ := h
      refine aw_callV (M' := M_X5_mixIn) 424 245 5 l0 [.long _] [] dX5_digest_421 lk_RX5_245 mv_X5_mixIn mp_X5_mixIn rfl ⟨leb rfl, leb rfl⟩ rfl (ltb rfl) g11 rfl (leb rfl) (leb rfl) (leb rfl) rfl (am_X5_mixIn hG h) (kkV fun X10 h => ?_) (kxN KrV.no)
      refine aw_widen (cc' := 0) (ss' := 0) (leb rfl) (leb rfl) ?_
      refine aw_aload_n 425 dX5_digest_424 rfl 0 rfl rfl ?_
      refine aw_aload_n 426 dX5_digest_425 rfl 0 rfl rfl ?_
      refine aw_iload_n 427 dX5_digest_426 rfl 1 rfl rfl ?_
      obtain ⟨g14, h⟩ := h
      refine aw_callV (M' := M_X5_ready) 430 206 5 l0 [.int _] [.ref _] dX5_digest_427 lk_RX5_206 mv_X5_ready mp_X5_ready rfl ⟨leb rfl, leb rfl⟩ rfl (ltb rfl) g14 rfl (leb rfl) (leb rfl) (leb rfl) rfl (am_X5_ready hG h) (kkI fun v13 X12 h => ?_) (kxN KrI.no)
      refine aw_widen (cc' := 0) (ss' := 0) (leb rfl) (leb rfl) ?_
      refine aw_i2l 431 dX5_digest_430 rfl ?_
      obtain ⟨g16, h⟩ := h
      refine aw_callV (M' := M_X5_mixIn) 434 245 5 l0 [.long _] [] dX5_digest_431 lk_RX5_245 mv_X5_mixIn mp_X5_mixIn rfl ⟨leb rfl, leb rfl⟩ rfl (ltb rfl) g16 rfl (leb rfl) (leb rfl) (leb rfl) rfl (am_X5_mixIn hG h) (kkV fun X15 h => ?_) (kxN KrV.no)
      refine aw_widen (cc' := 0) (ss' := 0) (leb rfl) (leb rfl) ?_
      refine aw_aload_n 435 dX5_digest_434 rfl 0 rfl rfl ?_
      refine aw_aload_n 436 dX5_digest_435 rfl 0 rfl rfl ?_
      refine aw_iload_n 437 dX5_digest_436 rfl 1 rfl rfl ?_
      obtain ⟨g19, h⟩ := h
      refine aw_callV (M' := M_X5_ready) 440 206 5 l0 [.int _] [.ref _] dX5_digest_437 lk_RX5_206 mv_X5_ready mp_X5_ready rfl ⟨leb rfl, leb rfl⟩ rfl (ltb rfl) g19 rfl (leb rfl) (leb rfl) (leb rfl) rfl (am_X5_ready hG h) (kkI fun v18 X17 h => ?_) (kxN KrI.no)
      refine aw_widen (cc' := 0) (ss' := 0) (leb rfl) (leb rfl) ?_
      refine aw_i2l 441 dX5_digest_440 rfl ?_
      obtain ⟨g21, h⟩ := h
      refine aw_callV (M' := M_X5_mixIn) 444 245 5 l0 [.long _] [] dX5_digest_441 lk_RX5_245 mv_X5_mixIn mp_X5_mixIn rfl ⟨leb rfl, leb rfl⟩ rfl (ltb rfl) g21 rfl (leb rfl) (leb rfl) (leb rfl) rfl (am_X5_mixIn hG h) (kkV fun X20 h => ?_) (kxN KrV.no)
      refine aw_widen (cc' := 0) (ss' := 0) (leb rfl) (leb rfl) ?_
      refine aw_aload_n 445 dX5_digest_444 rfl 0 rfl rfl ?_
      refine aw_aload_n 446 dX5_digest_445 rfl 0 rfl rfl ?_
      refine aw_iload_n 447 dX5_digest_446 rfl 1 rfl rfl ?_
      obtain ⟨g24, h⟩ := h
      refine aw_callV (M' := M_X5_ratified) 450 209 5 l0 [.int _] [.ref _] dX5_digest_447 lk_RX5_209 mv_X5_ratified mp_X5_ratified rfl ⟨leb rfl, leb rfl⟩ rfl (ltb rfl) g24 rfl (leb rfl) (leb rfl) (leb rfl) rfl (am_X5_ratified hG h) (kkI fun v23 X22 h => ?_) (kxN KrI.no)
      refine aw_widen (cc' := 0) (ss' := 0) (leb rfl) (leb rfl) ?_
      refine aw_if_eq 457 453 dX5_digest_450 rfl rfl (fun c25 => ?_) (fun c25 => ?_)
      · replace h := h.1 c25
        refine aw_lconst 458 (v := 0) dX5_digest_457 kL_0 rfl ?_
        exact aw_pick [0, 1] rfl (aw_X5_digest_458 hG (fun _ _ _ h => h) h)
      · replace h := h.2 c25
        refine aw_lconst 454 (v := 1) dX5_digest_453 kL_1 rfl ?_
        refine aw_goto 458 dX5_digest_454 rfl ?_
        exact aw_pick [0, 1] rfl (aw_X5_digest_458 hG (fun _ _ _ h => h) h))
set_option maxRecDepth 20000 in
theorem aw_X5_digest_295 {G : GG} (hG : G.1.stackTraces = false)  {l0 : Nat} {l1 : Int32} {X : XH} {K : Int64 → XH → Prop}  (h : w_X5_digest_295  l0 l1 X K) : AW G M_X5_digest 295 [(0, .ref l0), (1, .int l1)] [] X 0 0 (KrL K) :=
  h (fun l0 l1 X => AW G M_X5_digest 295 [(0, .ref l0), (1, .int l1)] [] X 0 0 (KrL K)) (fun l0 l1 X h => by
    refine aw_iload_n 296 dX5_digest_295 rfl 1 rfl rfl ?_
    refine aw_iconst 297 (v := 4) dX5_digest_296 kI_4 rfl ?_
    refine aw_icmp_ge 397 300 dX5_digest_297 rfl rfl (fun c1 => ?_) (fun c1 => ?_)
    · replace h := h.1 c1
      refine aw_iconst 398 (v := 0) dX5_digest_397 kI_0 rfl ?_
      refine aw_istore_n 399 (lv' := [(1, _), (0, _)]) dX5_digest_398 rfl (ltb rfl) rfl rfl ?_
      exact aw_pick [1, 0] rfl (aw_X5_digest_399 hG  h)
    · replace h := h.2 c1
      refine aw_aload_n 301 dX5_digest_300 rfl 0 rfl rfl ?_
      refine aw_aload_n 302 dX5_digest_301 rfl 0 rfl rfl ?_
      refine aw_iload_n 303 dX5_digest_302 rfl 1 rfl rfl ?_
      obtain ⟨g4, h⟩ := h
      refine aw_callV (M' := M_X5_many) 306 194 5 l0 [.int _] [.ref _] dX5_digest_303 lk_RX5_194 mv_X5_many mp_X5_many rfl ⟨leb rfl, leb rfl⟩ rfl (ltb rfl) g4 rfl (leb rfl) (leb rfl) (leb rfl) rfl (am_X5_many hG h) (kkI fun v3 X2 h => ?_) (kxN KrI.no)
      refine aw_widen (cc' := 0) (ss' := 0) (leb rfl) (leb rfl) ?_
      refine aw_i2l 307 dX5_digest_306 rfl ?_
      obtain ⟨g6, h⟩ := h
      refine aw_callV (M' := M_X5_mixIn) 310 245 5 l0 [.long _] [] dX5_digest_307 lk_RX5_245 mv_X5_mixIn mp_X5_mixIn rfl ⟨leb rfl, leb rfl⟩ rfl (ltb rfl) g6 rfl (leb rfl) (leb rfl) (leb rfl) rfl (am_X5_mixIn hG h) (kkV fun X5 h => ?_) (kxN KrV.no)
      refine aw_widen (cc' := 0) (ss' := 0) (leb rfl) (leb rfl) ?_
      refine aw_aload_n 311 dX5_digest_310 rfl 0 rfl rfl ?_
      refine aw_aload_n 312 dX5_digest_311 rfl 0 rfl rfl ?_
      refine aw_iload_n 313 dX5_digest_312 rfl 1 rfl rfl ?_
      obtain ⟨g9, h⟩ := h
      refine aw_callV (M' := M_X5_long1) 316 197 5 l0 [.int _] [.ref _] dX5_digest_313 lk_RX5_197 mv_X5_long1 mp_X5_long1 rfl ⟨leb rfl, leb rfl⟩ rfl (ltb rfl) g9 rfl (leb rfl) (leb rfl) (leb rfl) rfl (am_X5_long1 hG h) (kkI fun v8 X7 h => ?_) (kxN KrI.no)
      refine aw_widen (cc' := 0) (ss' := 0) (leb rfl) (leb rfl) ?_
      refine aw_i2l 317 dX5_digest_316 rfl ?_
      obtain ⟨g11, h⟩ := h
      refine aw_callV (M' := M_X5_mixIn) 320 245 5 l0 [.long _] [] dX5_digest_317 lk_RX5_245 mv_X5_mixIn mp_X5_mixIn rfl ⟨leb rfl, leb rfl⟩ rfl (ltb rfl) g11 rfl (leb rfl) (leb rfl) (leb rfl) rfl (am_X5_mixIn hG h) (kkV fun X10 h => ?_) (kxN KrV.no)
      refine aw_widen (cc' := 0) (ss' := 0) (leb rfl) (leb rfl) ?_
      refine aw_iconst 321 (v := 0) dX5_digest_320 kI_0 rfl ?_
      refine aw_istore_n 322 (lv' := [(2, _), (0, _), (1, _)]) dX5_digest_321 rfl (ltb rfl) rfl rfl ?_
      exact aw_pick [1, 2, 0] rfl (aw_X5_digest_322 hG (fun _ _ _ h => h) h))
set_option maxRecDepth 20000 in
theorem aw_X5_digest_202 {G : GG} (hG : G.1.stackTraces = false)  {l0 : Nat} {l1 : Int32} {X : XH} {K : Int64 → XH → Prop}  (h : w_X5_digest_202  l0 l1 X K) : AW G M_X5_digest 202 [(0, .ref l0), (1, .int l1)] [] X 0 0 (KrL K) :=
  h (fun l0 l1 X => AW G M_X5_digest 202 [(0, .ref l0), (1, .int l1)] [] X 0 0 (KrL K)) (fun l0 l1 X h => by
    refine aw_iload_n 203 dX5_digest_202 rfl 1 rfl rfl ?_
    refine aw_iconst 204 (v := 5) dX5_digest_203 kI_5 rfl ?_
    refine aw_icmp_ge 293 207 dX5_digest_204 rfl rfl (fun c1 => ?_) (fun c1 => ?_)
    · replace h := h.1 c1
      refine aw_iconst 294 (v := 0) dX5_digest_293 kI_0 rfl ?_
      refine aw_istore_n 295 (lv' := [(1, _), (0, _)]) dX5_digest_294 rfl (ltb rfl) rfl rfl ?_
      exact aw_pick [1, 0] rfl (aw_X5_digest_295 hG  h)
    · replace h := h.2 c1
      refine aw_iconst 208 (v := 0) dX5_digest_207 kI_0 rfl ?_
      refine aw_istore_n 209 (lv' := [(2, _), (0, _), (1, _)]) dX5_digest_208 rfl (ltb rfl) rfl rfl ?_
      exact aw_pick [1, 2, 0] rfl (aw_X5_digest_209 hG (fun _ _ _ h => h) h))
set_option maxRecDepth 20000 in
theorem aw_X5_digest_27 {G : GG} (hG : G.1.stackTraces = false)  {l0 : Nat} {l1 : Int32} {X : XH} {K : Int64 → XH → Prop}  (h : w_X5_digest_27  l0 l1 X K) : AW G M_X5_digest 27 [(0, .ref l0), (1, .int l1)] [] X 0 0 (KrL K) :=
  h (fun l0 l1 X => AW G M_X5_digest 27 [(0, .ref l0), (1, .int l1)] [] X 0 0 (KrL K)) (fun l0 l1 X h => by
    refine aw_iload_n 28 dX5_digest_27 rfl 1 rfl rfl ?_
    refine aw_aload_n 29 dX5_digest_28 rfl 0 rfl rfl ?_
    obtain ⟨g1, h⟩ := h
    obtain ⟨g2, h⟩ := h
    refine aw_getR 32 dX5_digest_29 fl_RX5_7 rfl g1 g2 rfl ?_
    refine aw_sipush 35 (v := 366) dX5_digest_32 kS_366 rfl ?_
    obtain ⟨g3, h⟩ := h
    obtain ⟨g4, h⟩ := h
    refine aw_iaload 36 dX5_digest_35 g3 g4 rfl ?_
    refine aw_icmp_ge 200 39 dX5_digest_36 rfl rfl (fun c5 => ?_) (fun c5 => ?_)
    · replace h := h.1 c5
      refine aw_iconst 201 (v := 0) dX5_digest_200 kI_0 rfl ?_
      refine aw_istore_n 202 (lv' := [(1, _), (0, _)]) dX5_digest_201 rfl (ltb rfl) rfl rfl ?_
      exact aw_pick [1, 0] rfl (aw_X5_digest_202 hG  h)
    · replace h := h.2 c5
      refine aw_iconst 40 (v := 0) dX5_digest_39 kI_0 rfl ?_
      refine aw_istore_n 41 (lv' := [(2, _), (0, _), (1, _)]) dX5_digest_40 rfl (ltb rfl) rfl rfl ?_
      exact aw_pick [1, 2, 0] rfl (aw_X5_digest_41 hG (fun _ _ _ h => h) h))
set_option maxRecDepth 20000 in
theorem am_X5_digest {G : GG} (hG : G.1.stackTraces = false) {l0 : Nat} {X : XH} {K : Int64 → XH → Prop} (h : w_X5_digest l0 X K) : AM G M_X5_digest X [.ref l0] (KrL K) := AM_of (by decide +kernel) rfl (leb rfl) hG (by
  show AW G M_X5_digest 0 [(0, .ref l0)] [] X 0 0 _
  unfold w_X5_digest at h
  refine aw_aload_n 1 dX5_digest_0 rfl 0 rfl rfl ?_
  refine aw_iconst 2 (v := 0) dX5_digest_1 kI_0 rfl ?_
  obtain ⟨g1, h⟩ := h
  refine aw_putI 5 dX5_digest_2 fl_RX5_26 rfl rfl rfl rfl g1 rfl ?_
  refine aw_aload_n 6 dX5_digest_5 rfl 0 rfl rfl ?_
  refine aw_ldc2 9 (v := 4229) dX5_digest_6 (tk8 (i := 41) (by decide +kernel) rfl) rfl ?_
  refine aw_putL 12 dX5_digest_9 fl_RX5_239 rfl rfl g1 rfl ?_
  refine aw_aload_n 13 dX5_digest_12 rfl 0 rfl rfl ?_
  refine aw_aload_n 14 dX5_digest_13 rfl 0 rfl rfl ?_
  obtain ⟨g2, h⟩ := h
  refine aw_getR 17 dX5_digest_14 fl_RX5_7 rfl g1 g2 rfl ?_
  refine aw_sipush 20 (v := 366) dX5_digest_17 kS_366 rfl ?_
  obtain ⟨g3, h⟩ := h
  obtain ⟨g4, h⟩ := h
  refine aw_iaload 21 dX5_digest_20 g3 g4 rfl ?_
  refine aw_i2l 22 dX5_digest_21 rfl ?_
  refine aw_callV (M' := M_X5_mixIn) 25 245 5 l0 [.long _] [] dX5_digest_22 lk_RX5_245 mv_X5_mixIn mp_X5_mixIn rfl ⟨leb rfl, leb rfl⟩ rfl (ltb rfl) g1 rfl (leb rfl) (leb rfl) (leb rfl) rfl (am_X5_mixIn hG h) (kkV fun X5 h => ?_) (kxN KrV.no)
  refine aw_widen (cc' := 0) (ss' := 0) (leb rfl) (leb rfl) ?_
  refine aw_iconst 26 (v := 0) dX5_digest_25 kI_0 rfl ?_
  refine aw_istore_n 27 (lv' := [(1, _), (0, _)]) dX5_digest_26 rfl (ltb rfl) rfl rfl ?_
  exact aw_pick [1, 0] rfl (aw_X5_digest_27 hG  h))
end XWK11
