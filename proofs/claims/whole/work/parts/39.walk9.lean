/-! the walks of methods, as predicates -/
section XWK9
set_option maxRecDepth 20000 in
theorem am_L_readyByVoices {G : GG} (hG : G.1.stackTraces = false) {l0 : Nat} {l1 : Int32} {l2 : Nat} {X : XH} {K : Int32 → XH → Prop} (h : w_L_readyByVoices l0 l1 l2 X K) : AM G M_L_readyByVoices X [.ref l0, .int l1, .ref l2] (KrI K) := AM_ofH (by decide +kernel) (0, 9, 12, 13) [] rfl (leb rfl) hG (by
  show AW G M_L_readyByVoices 0 [(0, .ref l0), (1, .int l1), (2, .ref l2)] [] X 0 0 _
  unfold w_L_readyByVoices at h
  refine aw_aload_n 1 dL_readyByVoices_0 rfl 2 rfl rfl ?_
  refine aw_iconst 2 (v := 0) dL_readyByVoices_1 kI_0 rfl ?_
  refine aw_aload_n 3 dL_readyByVoices_2 rfl 0 rfl rfl ?_
  refine aw_iload_n 4 dL_readyByVoices_3 rfl 1 rfl rfl ?_
  obtain ⟨g3, h⟩ := h
  refine aw_callV (M' := M_X4_readyByVoices) 7 163 4 l0 [.int _] [.int _, .ref _] dL_readyByVoices_4 lk_RL_163 mv_X4_readyByVoices mp_X4_readyByVoices rfl ⟨leb rfl, leb rfl⟩ rfl (ltb rfl) g3 rfl (leb rfl) (leb rfl) (leb rfl) rfl (am_X4_readyByVoices hG h) (kkT (kkI fun v2 X1 h => ?_)) (kxT KrI.no fun E X1 h => ?_)
  · refine aw_widen (cc' := 1) (ss' := 6) (leb rfl) (leb rfl) ?_
    refine aw_i2l 8 dL_readyByVoices_7 rfl ?_
    obtain ⟨g4, h⟩ := h
    obtain ⟨g5, h⟩ := h
    refine aw_lastore 9 dL_readyByVoices_8 g4 g5 rfl ?_
    refine aw_goto 15 dL_readyByVoices_9 rfl ?_
    refine aw_iconst 16 (v := 0) dL_readyByVoices_15 kI_0 rfl ?_
    exact aw_ireturn (ty := .int) dL_readyByVoices_16 rfl rfl (leb rfl) (leb rfl) ⟨_, rfl, h⟩
  · obtain ⟨hE, h⟩ := h
    rcases hE with rfl
    refine aw_atc (lv' := [(0, .ref _), (1, .int _), (2, .ref _)]) [] (0, 9, 12, 13) [] rfl (fun z hz => nomatch hz) (by decide) (by decide) (tk3 (i := 61) (by decide +kernel) rfl) (by decide) 3 1 13 (Or.inl ⟨3, rfl, dL_readyByVoices_12, rfl⟩) (ltb rfl) rfl ?_
    refine aw_widen (cc' := 1) (ss' := 6) (leb rfl) (leb rfl) ?_
    replace h := h rfl
    refine aw_iconst 14 (v := 1) dL_readyByVoices_13 kI_1 rfl ?_
    exact aw_ireturn (ty := .int) dL_readyByVoices_14 rfl rfl (leb rfl) (leb rfl) ⟨_, rfl, h⟩)
set_option maxRecDepth 20000 in
theorem aw_X5_readyByVoices_13 {G : GG} (hG : G.1.stackTraces = false)  {l0 : Nat} {l1 : Int32} {s0 : Nat} {s1 : Int32} {X : XH} {K : Int32 → XH → Prop}  (h : w_X5_readyByVoices_13  l0 l1 s0 s1 X K) : AW G M_X5_readyByVoices 13 [(0, .ref l0), (1, .int l1)] [.int s1, .ref s0] X 0 0 (KrI K) := by
  unfold w_X5_readyByVoices_13 at h
  obtain ⟨g3, h⟩ := h
  refine aw_callV (M' := M_X5_refused) 16 81 5 s0 [.int _] [] dX5_readyByVoices_13 lk_RX5_81 mv_X5_refused mp_X5_refused rfl ⟨leb rfl, leb rfl⟩ rfl (ltb rfl) g3 rfl (leb rfl) (leb rfl) (leb rfl) rfl (am_X5_refused hG h) (kkI fun v2 X1 h => ?_) (kxN KrI.no)
  refine aw_widen (cc' := 0) (ss' := 0) (leb rfl) (leb rfl) ?_
  refine aw_if_eq 23 19 dX5_readyByVoices_16 rfl rfl (fun c4 => ?_) (fun c4 => ?_)
  · replace h := h.1 c4
    refine aw_aload_n 24 dX5_readyByVoices_23 rfl 0 rfl rfl ?_
    refine aw_iload_n 25 dX5_readyByVoices_24 rfl 1 rfl rfl ?_
    obtain ⟨g7, h⟩ := h
    refine aw_callV (M' := M_X5_ready) 28 206 5 l0 [.int _] [] dX5_readyByVoices_25 lk_RX5_206 mv_X5_ready mp_X5_ready rfl ⟨leb rfl, leb rfl⟩ rfl (ltb rfl) g7 rfl (leb rfl) (leb rfl) (leb rfl) rfl (am_X5_ready hG h) (kkI fun v6 X5 h => ?_) (kxN KrI.no)
    refine aw_widen (cc' := 0) (ss' := 0) (leb rfl) (leb rfl) ?_
    exact aw_ireturn (ty := .int) dX5_readyByVoices_28 rfl rfl (leb rfl) (leb rfl) ⟨_, rfl, h⟩
  · replace h := h.2 c4
    refine aw_iconst 20 (v := 0) dX5_readyByVoices_19 kI_0 rfl ?_
    refine aw_goto 28 dX5_readyByVoices_20 rfl ?_
    exact aw_ireturn (ty := .int) dX5_readyByVoices_28 rfl rfl (leb rfl) (leb rfl) ⟨_, rfl, h⟩
set_option maxRecDepth 20000 in
theorem am_X5_readyByVoices {G : GG} (hG : G.1.stackTraces = false) {l0 : Nat} {l1 : Int32} {X : XH} {K : Int32 → XH → Prop} (h : w_X5_readyByVoices l0 l1 X K) : AM G M_X5_readyByVoices X [.ref l0, .int l1] (KrI K) := AM_of (by decide +kernel) rfl (leb rfl) hG (by
  show AW G M_X5_readyByVoices 0 [(0, .ref l0), (1, .int l1)] [] X 0 0 _
  unfold w_X5_readyByVoices at h
  refine aw_aload_n 1 dX5_readyByVoices_0 rfl 0 rfl rfl ?_
  refine aw_iload_n 2 dX5_readyByVoices_1 rfl 1 rfl rfl ?_
  refine aw_callS (M' := M_X5_isTongue) 5 38 [.int _] [.ref _] dX5_readyByVoices_2 lk_RX5_38 ms_X5_isTongue mp_X5_isTongue rfl ⟨leb rfl, leb rfl⟩ rfl (leb rfl) (leb rfl) (leb rfl) rfl (am_X5_isTongue hG h) (kkI fun v2 X1 h => ?_) (kxN KrI.no)
  refine aw_widen (cc' := 0) (ss' := 0) (leb rfl) (leb rfl) ?_
  refine aw_if_eq 12 8 dX5_readyByVoices_5 rfl rfl (fun c3 => ?_) (fun c3 => ?_)
  · replace h := h.1 c3
    refine aw_iconst 13 (v := 1) dX5_readyByVoices_12 kI_1 rfl ?_
    exact aw_pick [0, 1] rfl (aw_X5_readyByVoices_13 hG  h)
  · replace h := h.2 c3
    refine aw_iconst 9 (v := 0) dX5_readyByVoices_8 kI_0 rfl ?_
    refine aw_goto 13 dX5_readyByVoices_9 rfl ?_
    exact aw_pick [0, 1] rfl (aw_X5_readyByVoices_13 hG  h))
set_option maxRecDepth 20000 in
theorem aw_X5_ratified_19 {G : GG} (hG : G.1.stackTraces = false)  {l0 : Nat} {l1 : Int32} {l2 : Int32} {l3 : Int32} {X : XH} {K : Int32 → XH → Prop}  (h : w_X5_ratified_19  l0 l1 l2 l3 X K) : AW G M_X5_ratified 19 [(0, .ref l0), (1, .int l1), (2, .int l2), (3, .int l3)] [] X 0 0 (KrI K) :=
  h (fun l0 l1 l2 l3 X => AW G M_X5_ratified 19 [(0, .ref l0), (1, .int l1), (2, .int l2), (3, .int l3)] [] X 0 0 (KrI K)) (fun l0 l1 l2 l3 X h => by
    refine aw_iload_n 20 dX5_ratified_19 rfl 3 rfl rfl ?_
    refine aw_iconst 21 (v := 4) dX5_ratified_20 kI_4 rfl ?_
    refine aw_icmp_ge 66 24 dX5_ratified_21 rfl rfl (fun c1 => ?_) (fun c1 => ?_)
    · replace h := h.1 c1
      refine aw_iload_n 67 dX5_ratified_66 rfl 2 rfl rfl ?_
      obtain ⟨g2, h⟩ := h
      exact aw_ireturn (ty := .boolean) dX5_ratified_67 rfl (narZ g2) (leb rfl) (leb rfl) ⟨_, rfl, h⟩
    · replace h := h.2 c1
      refine aw_iload_n 25 dX5_ratified_24 rfl 2 rfl rfl ?_
      refine aw_if_eq 58 28 dX5_ratified_25 rfl rfl (fun c3 => ?_) (fun c3 => ?_)
      · replace h := h.1 c3
        refine aw_iconst 59 (v := 0) dX5_ratified_58 kI_0 rfl ?_
        refine aw_istore_n 60 (lv' := [(2, _), (0, _), (1, _), (3, _)]) dX5_ratified_59 rfl (ltb rfl) rfl rfl ?_
        refine aw_iinc 63 (v := 1) (lv' := [(3, _), (2, _), (0, _), (1, _)]) dX5_ratified_60 3 rfl kI_1 (ltb rfl) rfl rfl ?_
        refine aw_goto 19 dX5_ratified_63 rfl ?_
        exact aw_pick [2, 3, 1, 0] rfl h
      · replace h := h.2 c3
        refine aw_aload_n 29 dX5_ratified_28 rfl 0 rfl rfl ?_
        refine aw_iload_n 30 dX5_ratified_29 rfl 3 rfl rfl ?_
        obtain ⟨g6, h⟩ := h
        refine aw_callV (M' := M_X5_many) 33 194 5 l0 [.int _] [] dX5_ratified_30 lk_RX5_194 mv_X5_many mp_X5_many rfl ⟨leb rfl, leb rfl⟩ rfl (ltb rfl) g6 rfl (leb rfl) (leb rfl) (leb rfl) rfl (am_X5_many hG h) (kkI fun v5 X4 h => ?_) (kxN KrI.no)
        refine aw_widen (cc' := 0) (ss' := 0) (leb rfl) (leb rfl) ?_
        refine aw_if_eq 54 36 dX5_ratified_33 rfl rfl (fun c7 => ?_) (fun c7 => ?_)
        · replace h := h.1 c7
          refine aw_iconst 55 (v := 1) dX5_ratified_54 kI_1 rfl ?_
          refine aw_goto 59 dX5_ratified_55 rfl ?_
          refine aw_istore_n 60 (lv' := [(2, _), (0, _), (1, _), (3, _)]) dX5_ratified_59 rfl (ltb rfl) rfl rfl ?_
          refine aw_iinc 63 (v := 1) (lv' := [(3, _), (2, _), (0, _), (1, _)]) dX5_ratified_60 3 rfl kI_1 (ltb rfl) rfl rfl ?_
          refine aw_goto 19 dX5_ratified_63 rfl ?_
          exact aw_pick [2, 3, 1, 0] rfl h
        · replace h := h.2 c7
          refine aw_aload_n 37 dX5_ratified_36 rfl 0 rfl rfl ?_
          refine aw_iload_n 38 dX5_ratified_37 rfl 3 rfl rfl ?_
          refine aw_iload_n 39 dX5_ratified_38 rfl 1 rfl rfl ?_
          obtain ⟨g10, h⟩ := h
          refine aw_callV (M' := M_X5_mixed) 42 110 5 l0 [.int _, .int _] [] dX5_ratified_39 lk_RX5_110 mv_X5_mixed mp_X5_mixed rfl ⟨leb rfl, leb rfl⟩ rfl (ltb rfl) g10 rfl (leb rfl) (leb rfl) (leb rfl) rfl (am_X5_mixed hG h) (kkI fun v9 X8 h => ?_) (kxN KrI.no)
          refine aw_widen (cc' := 0) (ss' := 0) (leb rfl) (leb rfl) ?_
          refine aw_if_eq 58 45 dX5_ratified_42 rfl rfl (fun c11 => ?_) (fun c11 => ?_)
          · replace h := h.1 c11
            refine aw_iconst 59 (v := 0) dX5_ratified_58 kI_0 rfl ?_
            refine aw_istore_n 60 (lv' := [(2, _), (0, _), (1, _), (3, _)]) dX5_ratified_59 rfl (ltb rfl) rfl rfl ?_
            refine aw_iinc 63 (v := 1) (lv' := [(3, _), (2, _), (0, _), (1, _)]) dX5_ratified_60 3 rfl kI_1 (ltb rfl) rfl rfl ?_
            refine aw_goto 19 dX5_ratified_63 rfl ?_
            exact aw_pick [2, 3, 1, 0] rfl h
          · replace h := h.2 c11
            refine aw_aload_n 46 dX5_ratified_45 rfl 0 rfl rfl ?_
            refine aw_iload_n 47 dX5_ratified_46 rfl 3 rfl rfl ?_
            refine aw_iload_n 48 dX5_ratified_47 rfl 1 rfl rfl ?_
            obtain ⟨g14, h⟩ := h
            refine aw_callV (M' := M_X5_missing) 51 122 5 l0 [.int _, .int _] [] dX5_ratified_48 lk_RX5_122 mv_X5_missing mp_X5_missing rfl ⟨leb rfl, leb rfl⟩ rfl (ltb rfl) g14 rfl (leb rfl) (leb rfl) (leb rfl) rfl (am_X5_missing hG h) (kkI fun v13 X12 h => ?_) (kxN KrI.no)
            refine aw_widen (cc' := 0) (ss' := 0) (leb rfl) (leb rfl) ?_
            refine aw_if_ne 58 54 dX5_ratified_51 rfl rfl (fun c15 => ?_) (fun c15 => ?_)
            · replace h := h.1 c15
              refine aw_iconst 59 (v := 0) dX5_ratified_58 kI_0 rfl ?_
              refine aw_istore_n 60 (lv' := [(2, _), (0, _), (1, _), (3, _)]) dX5_ratified_59 rfl (ltb rfl) rfl rfl ?_
              refine aw_iinc 63 (v := 1) (lv' := [(3, _), (2, _), (0, _), (1, _)]) dX5_ratified_60 3 rfl kI_1 (ltb rfl) rfl rfl ?_
              refine aw_goto 19 dX5_ratified_63 rfl ?_
              exact aw_pick [2, 3, 1, 0] rfl h
            · replace h := h.2 c15
              refine aw_iconst 55 (v := 1) dX5_ratified_54 kI_1 rfl ?_
              refine aw_goto 59 dX5_ratified_55 rfl ?_
              refine aw_istore_n 60 (lv' := [(2, _), (0, _), (1, _), (3, _)]) dX5_ratified_59 rfl (ltb rfl) rfl rfl ?_
              refine aw_iinc 63 (v := 1) (lv' := [(3, _), (2, _), (0, _), (1, _)]) dX5_ratified_60 3 rfl kI_1 (ltb rfl) rfl rfl ?_
              refine aw_goto 19 dX5_ratified_63 rfl ?_
              exact aw_pick [2, 3, 1, 0] rfl h)
set_option maxRecDepth 20000 in
theorem am_X5_ratified {G : GG} (hG : G.1.stackTraces = false) {l0 : Nat} {l1 : Int32} {X : XH} {K : Int32 → XH → Prop} (h : w_X5_ratified l0 l1 X K) : AM G M_X5_ratified X [.ref l0, .int l1] (KrI K) := AM_of (by decide +kernel) rfl (leb rfl) hG (by
  show AW G M_X5_ratified 0 [(0, .ref l0), (1, .int l1)] [] X 0 0 _
  unfold w_X5_ratified at h
  refine aw_aload_n 1 dX5_ratified_0 rfl 0 rfl rfl ?_
  obtain ⟨g1, h⟩ := h
  obtain ⟨g2, h⟩ := h
  refine aw_getR 4 dX5_ratified_1 fl_RX5_7 rfl g1 g2 rfl ?_
  refine aw_sipush 7 (v := 366) dX5_ratified_4 kS_366 rfl ?_
  obtain ⟨g3, h⟩ := h
  obtain ⟨g4, h⟩ := h
  refine aw_iaload 8 dX5_ratified_7 g3 g4 rfl ?_
  refine aw_if_le 15 11 dX5_ratified_8 rfl rfl (fun c5 => ?_) (fun c5 => ?_)
  · replace h := h.1 c5
    refine aw_iconst 16 (v := 0) dX5_ratified_15 kI_0 rfl ?_
    refine aw_istore_n 17 (lv' := [(2, _), (0, _), (1, _)]) dX5_ratified_16 rfl (ltb rfl) rfl rfl ?_
    refine aw_iconst 18 (v := 0) dX5_ratified_17 kI_0 rfl ?_
    refine aw_istore_n 19 (lv' := [(3, _), (2, _), (0, _), (1, _)]) dX5_ratified_18 rfl (ltb rfl) rfl rfl ?_
    exact aw_pick [2, 3, 1, 0] rfl (aw_X5_ratified_19 hG  h)
  · replace h := h.2 c5
    refine aw_iconst 12 (v := 1) dX5_ratified_11 kI_1 rfl ?_
    refine aw_goto 16 dX5_ratified_12 rfl ?_
    refine aw_istore_n 17 (lv' := [(2, _), (0, _), (1, _)]) dX5_ratified_16 rfl (ltb rfl) rfl rfl ?_
    refine aw_iconst 18 (v := 0) dX5_ratified_17 kI_0 rfl ?_
    refine aw_istore_n 19 (lv' := [(3, _), (2, _), (0, _), (1, _)]) dX5_ratified_18 rfl (ltb rfl) rfl rfl ?_
    exact aw_pick [2, 3, 1, 0] rfl (aw_X5_ratified_19 hG  h))
set_option maxRecDepth 20000 in
theorem aw_X5_isRatified_13 {G : GG} (hG : G.1.stackTraces = false)  {l0 : Nat} {l1 : Int32} {s0 : Nat} {s1 : Int32} {X : XH} {K : Int32 → XH → Prop}  (h : w_X5_isRatified_13  l0 l1 s0 s1 X K) : AW G M_X5_isRatified 13 [(0, .ref l0), (1, .int l1)] [.int s1, .ref s0] X 0 0 (KrI K) := by
  unfold w_X5_isRatified_13 at h
  obtain ⟨g3, h⟩ := h
  refine aw_callV (M' := M_X5_refused) 16 81 5 s0 [.int _] [] dX5_isRatified_13 lk_RX5_81 mv_X5_refused mp_X5_refused rfl ⟨leb rfl, leb rfl⟩ rfl (ltb rfl) g3 rfl (leb rfl) (leb rfl) (leb rfl) rfl (am_X5_refused hG h) (kkI fun v2 X1 h => ?_) (kxN KrI.no)
  refine aw_widen (cc' := 0) (ss' := 0) (leb rfl) (leb rfl) ?_
  refine aw_if_ne 31 19 dX5_isRatified_16 rfl rfl (fun c4 => ?_) (fun c4 => ?_)
  · replace h := h.1 c4
    refine aw_iconst 32 (v := 0) dX5_isRatified_31 kI_0 rfl ?_
    exact aw_ireturn (ty := .boolean) dX5_isRatified_32 rfl rfl (leb rfl) (leb rfl) ⟨_, rfl, h⟩
  · replace h := h.2 c4
    refine aw_aload_n 20 dX5_isRatified_19 rfl 0 rfl rfl ?_
    refine aw_iload_n 21 dX5_isRatified_20 rfl 1 rfl rfl ?_
    obtain ⟨g7, h⟩ := h
    refine aw_callV (M' := M_X5_ratified) 24 209 5 l0 [.int _] [] dX5_isRatified_21 lk_RX5_209 mv_X5_ratified mp_X5_ratified rfl ⟨leb rfl, leb rfl⟩ rfl (ltb rfl) g7 rfl (leb rfl) (leb rfl) (leb rfl) rfl (am_X5_ratified hG h) (kkI fun v6 X5 h => ?_) (kxN KrI.no)
    refine aw_widen (cc' := 0) (ss' := 0) (leb rfl) (leb rfl) ?_
    refine aw_if_eq 31 27 dX5_isRatified_24 rfl rfl (fun c8 => ?_) (fun c8 => ?_)
    · replace h := h.1 c8
      refine aw_iconst 32 (v := 0) dX5_isRatified_31 kI_0 rfl ?_
      exact aw_ireturn (ty := .boolean) dX5_isRatified_32 rfl rfl (leb rfl) (leb rfl) ⟨_, rfl, h⟩
    · replace h := h.2 c8
      refine aw_iconst 28 (v := 1) dX5_isRatified_27 kI_1 rfl ?_
      refine aw_goto 32 dX5_isRatified_28 rfl ?_
      exact aw_ireturn (ty := .boolean) dX5_isRatified_32 rfl rfl (leb rfl) (leb rfl) ⟨_, rfl, h⟩
set_option maxRecDepth 20000 in
theorem am_X5_isRatified {G : GG} (hG : G.1.stackTraces = false) {l0 : Nat} {l1 : Int32} {X : XH} {K : Int32 → XH → Prop} (h : w_X5_isRatified l0 l1 X K) : AM G M_X5_isRatified X [.ref l0, .int l1] (KrI K) := AM_of (by decide +kernel) rfl (leb rfl) hG (by
  show AW G M_X5_isRatified 0 [(0, .ref l0), (1, .int l1)] [] X 0 0 _
  unfold w_X5_isRatified at h
  refine aw_aload_n 1 dX5_isRatified_0 rfl 0 rfl rfl ?_
  refine aw_iload_n 2 dX5_isRatified_1 rfl 1 rfl rfl ?_
  refine aw_callS (M' := M_X5_isTongue) 5 38 [.int _] [.ref _] dX5_isRatified_2 lk_RX5_38 ms_X5_isTongue mp_X5_isTongue rfl ⟨leb rfl, leb rfl⟩ rfl (leb rfl) (leb rfl) (leb rfl) rfl (am_X5_isTongue hG h) (kkI fun v2 X1 h => ?_) (kxN KrI.no)
  refine aw_widen (cc' := 0) (ss' := 0) (leb rfl) (leb rfl) ?_
  refine aw_if_eq 12 8 dX5_isRatified_5 rfl rfl (fun c3 => ?_) (fun c3 => ?_)
  · replace h := h.1 c3
    refine aw_iconst 13 (v := 1) dX5_isRatified_12 kI_1 rfl ?_
    exact aw_pick [0, 1] rfl (aw_X5_isRatified_13 hG  h)
  · replace h := h.2 c3
    refine aw_iconst 9 (v := 0) dX5_isRatified_8 kI_0 rfl ?_
    refine aw_goto 13 dX5_isRatified_9 rfl ?_
    exact aw_pick [0, 1] rfl (aw_X5_isRatified_13 hG  h))
set_option maxRecDepth 20000 in
theorem aw_X3_misfitTotal_4 {G : GG} (hG : G.1.stackTraces = false)  {l0 : Nat} {l1 : Int32} {l2 : Int32} {l3 : Int32} {X : XH} {K : Int32 → XH → Prop}  (h : w_X3_misfitTotal_4  l0 l1 l2 l3 X K) : AW G M_X3_misfitTotal 4 [(0, .ref l0), (1, .int l1), (2, .int l2), (3, .int l3)] [] X 0 0 (KrI K) :=
  h (fun l0 l1 l2 l3 X => AW G M_X3_misfitTotal 4 [(0, .ref l0), (1, .int l1), (2, .int l2), (3, .int l3)] [] X 0 0 (KrI K)) (fun l0 l1 l2 l3 X h => by
    refine aw_iload_n 5 dX3_misfitTotal_4 rfl 3 rfl rfl ?_
    refine aw_aload_n 6 dX3_misfitTotal_5 rfl 0 rfl rfl ?_
    obtain ⟨g1, h⟩ := h
    refine aw_getI 9 dX3_misfitTotal_6 fl_RX3_45 rfl g1 rfl ?_
    refine aw_icmp_ge 39 12 dX3_misfitTotal_9 rfl rfl (fun c2 => ?_) (fun c2 => ?_)
    · replace h := h.1 c2
      refine aw_iload_n 40 dX3_misfitTotal_39 rfl 2 rfl rfl ?_
      exact aw_ireturn (ty := .int) dX3_misfitTotal_40 rfl rfl (leb rfl) (leb rfl) ⟨_, rfl, h⟩
    · replace h := h.2 c2
      refine aw_aload_n 13 dX3_misfitTotal_12 rfl 0 rfl rfl ?_
      refine aw_iload_n 14 dX3_misfitTotal_13 rfl 3 rfl rfl ?_
      refine aw_iload_n 15 dX3_misfitTotal_14 rfl 1 rfl rfl ?_
      refine aw_callV (M' := M_X3_hasTranslation) 18 108 3 l0 [.int _, .int _] [] dX3_misfitTotal_15 lk_RX3_108 mv_X3_hasTranslation mp_X3_hasTranslation rfl ⟨leb rfl, leb rfl⟩ rfl (ltb rfl) g1 rfl (leb rfl) (leb rfl) (leb rfl) rfl (am_X3_hasTranslation hG h) (kkI fun v4 X3 h => ?_) (kxN KrI.no)
      refine aw_widen (cc' := 0) (ss' := 0) (leb rfl) (leb rfl) ?_
      refine aw_if_eq 33 21 dX3_misfitTotal_18 rfl rfl (fun c5 => ?_) (fun c5 => ?_)
      · replace h := h.1 c5
        refine aw_iinc 36 (v := 1) (lv' := [(3, _), (0, _), (1, _), (2, _)]) dX3_misfitTotal_33 3 rfl kI_1 (ltb rfl) rfl rfl ?_
        refine aw_goto 4 dX3_misfitTotal_36 rfl ?_
        exact aw_pick [1, 2, 3, 0] rfl h
      · replace h := h.2 c5
        refine aw_aload_n 22 dX3_misfitTotal_21 rfl 0 rfl rfl ?_
        refine aw_iload_n 23 dX3_misfitTotal_22 rfl 3 rfl rfl ?_
        refine aw_iload_n 24 dX3_misfitTotal_23 rfl 1 rfl rfl ?_
        obtain ⟨g8, h⟩ := h
        refine aw_callV (M' := M_X3_hasFit) 27 105 3 l0 [.int _, .int _] [] dX3_misfitTotal_24 lk_RX3_105 mv_X3_hasFit mp_X3_hasFit rfl ⟨leb rfl, leb rfl⟩ rfl (ltb rfl) g8 rfl (leb rfl) (leb rfl) (leb rfl) rfl (am_X3_hasFit hG h) (kkI fun v7 X6 h => ?_) (kxN KrI.no)
        refine aw_widen (cc' := 0) (ss' := 0) (leb rfl) (leb rfl) ?_
        refine aw_if_ne 33 30 dX3_misfitTotal_27 rfl rfl (fun c9 => ?_) (fun c9 => ?_)
        · replace h := h.1 c9
          refine aw_iinc 36 (v := 1) (lv' := [(3, _), (0, _), (1, _), (2, _)]) dX3_misfitTotal_33 3 rfl kI_1 (ltb rfl) rfl rfl ?_
          refine aw_goto 4 dX3_misfitTotal_36 rfl ?_
          exact aw_pick [1, 2, 3, 0] rfl h
        · replace h := h.2 c9
          refine aw_iinc 33 (v := 1) (lv' := [(2, _), (0, _), (1, _), (3, _)]) dX3_misfitTotal_30 2 rfl kI_1 (ltb rfl) rfl rfl ?_
          refine aw_iinc 36 (v := 1) (lv' := [(3, _), (2, _), (0, _), (1, _)]) dX3_misfitTotal_33 3 rfl kI_1 (ltb rfl) rfl rfl ?_
          refine aw_goto 4 dX3_misfitTotal_36 rfl ?_
          exact aw_pick [2, 3, 1, 0] rfl h)
set_option maxRecDepth 20000 in
theorem am_X3_misfitTotal {G : GG} (hG : G.1.stackTraces = false) {l0 : Nat} {l1 : Int32} {X : XH} {K : Int32 → XH → Prop} (h : w_X3_misfitTotal l0 l1 X K) : AM G M_X3_misfitTotal X [.ref l0, .int l1] (KrI K) := AM_of (by decide +kernel) rfl (leb rfl) hG (by
  show AW G M_X3_misfitTotal 0 [(0, .ref l0), (1, .int l1)] [] X 0 0 _
  unfold w_X3_misfitTotal at h
  refine aw_iconst 1 (v := 0) dX3_misfitTotal_0 kI_0 rfl ?_
  refine aw_istore_n 2 (lv' := [(2, _), (0, _), (1, _)]) dX3_misfitTotal_1 rfl (ltb rfl) rfl rfl ?_
  refine aw_iconst 3 (v := 0) dX3_misfitTotal_2 kI_0 rfl ?_
  refine aw_istore_n 4 (lv' := [(3, _), (2, _), (0, _), (1, _)]) dX3_misfitTotal_3 rfl (ltb rfl) rfl rfl ?_
  exact aw_pick [2, 3, 1, 0] rfl (aw_X3_misfitTotal_4 hG  h))
set_option maxRecDepth 20000 in
theorem am_X4_misfitsIn {G : GG} (hG : G.1.stackTraces = false) {l0 : Nat} {l1 : Int32} {X : XH} {K : Int32 → XH → Prop} {KX : String → XH → Prop} (h : w_X4_misfitsIn l0 l1 X K KX) : AM G M_X4_misfitsIn X [.ref l0, .int l1] (KxT (KrI K) KX) := AM_of (by decide +kernel) rfl (leb rfl) hG (by
  show AW G M_X4_misfitsIn 0 [(0, .ref l0), (1, .int l1)] [] X 0 0 _
  unfold w_X4_misfitsIn at h
  refine aw_iload_n 1 dX4_misfitsIn_0 rfl 1 rfl rfl ?_
  refine aw_callS (M' := M_X4_checkTongue) 4 195 [.int _] [] dX4_misfitsIn_1 lk_RX4_195 ms_X4_checkTongue mp_X4_checkTongue rfl ⟨leb rfl, leb rfl⟩ rfl (leb rfl) (leb rfl) (leb rfl) rfl (am_X4_checkTongue hG h) (kkT (kkV fun X1 h => ?_)) (kxT KrV.no fun E X h => at_out rfl (leb rfl) (leb rfl) (Or.inr ⟨_, rfl, h⟩))
  refine aw_widen (cc' := 1) (ss' := 6) (leb rfl) (leb rfl) ?_
  refine aw_aload_n 5 dX4_misfitsIn_4 rfl 0 rfl rfl ?_
  obtain ⟨g2, h⟩ := h
  obtain ⟨g3, h⟩ := h
  refine aw_getR 8 dX4_misfitsIn_5 fl_RX4_10 rfl g2 g3 rfl ?_
  refine aw_iload_n 9 dX4_misfitsIn_8 rfl 1 rfl rfl ?_
  obtain ⟨g6, h⟩ := h
  refine aw_callV (M' := M_X3_misfitTotal) 12 328 3 (hR X1 l0 0) [.int _] [] dX4_misfitsIn_9 lk_RX4_328 mv_X3_misfitTotal mp_X3_misfitTotal rfl ⟨leb rfl, leb rfl⟩ rfl (ltb rfl) g6 rfl (leb rfl) (leb rfl) (leb rfl) rfl (am_X3_misfitTotal hG h) (kkI fun v5 X4 h => ?_) (kxN KrI.no)
  refine aw_widen (cc' := 1) (ss' := 6) (leb rfl) (leb rfl) ?_
  exact aw_ireturn (ty := .int) dX4_misfitsIn_12 rfl rfl (leb rfl) (leb rfl) (Or.inl ⟨_, rfl, h⟩))
set_option maxRecDepth 20000 in
theorem am_L_misfitsIn {G : GG} (hG : G.1.stackTraces = false) {l0 : Nat} {l1 : Int32} {l2 : Nat} {X : XH} {K : Int32 → XH → Prop} (h : w_L_misfitsIn l0 l1 l2 X K) : AM G M_L_misfitsIn X [.ref l0, .int l1, .ref l2] (KrI K) := AM_ofH (by decide +kernel) (0, 9, 12, 13) [] rfl (leb rfl) hG (by
  show AW G M_L_misfitsIn 0 [(0, .ref l0), (1, .int l1), (2, .ref l2)] [] X 0 0 _
  unfold w_L_misfitsIn at h
  refine aw_aload_n 1 dL_misfitsIn_0 rfl 2 rfl rfl ?_
  refine aw_iconst 2 (v := 0) dL_misfitsIn_1 kI_0 rfl ?_
  refine aw_aload_n 3 dL_misfitsIn_2 rfl 0 rfl rfl ?_
  refine aw_iload_n 4 dL_misfitsIn_3 rfl 1 rfl rfl ?_
  obtain ⟨g3, h⟩ := h
  refine aw_callV (M' := M_X4_misfitsIn) 7 170 4 l0 [.int _] [.int _, .ref _] dL_misfitsIn_4 lk_RL_170 mv_X4_misfitsIn mp_X4_misfitsIn rfl ⟨leb rfl, leb rfl⟩ rfl (ltb rfl) g3 rfl (leb rfl) (leb rfl) (leb rfl) rfl (am_X4_misfitsIn hG h) (kkT (kkI fun v2 X1 h => ?_)) (kxT KrI.no fun E X1 h => ?_)
  · refine aw_widen (cc' := 1) (ss' := 6) (leb rfl) (leb rfl) ?_
    refine aw_i2l 8 dL_misfitsIn_7 rfl ?_
    obtain ⟨g4, h⟩ := h
    obtain ⟨g5, h⟩ := h
    refine aw_lastore 9 dL_misfitsIn_8 g4 g5 rfl ?_
    refine aw_goto 15 dL_misfitsIn_9 rfl ?_
    refine aw_iconst 16 (v := 0) dL_misfitsIn_15 kI_0 rfl ?_
    exact aw_ireturn (ty := .int) dL_misfitsIn_16 rfl rfl (leb rfl) (leb rfl) ⟨_, rfl, h⟩
  · obtain ⟨hE, h⟩ := h
    rcases hE with rfl
    refine aw_atc (lv' := [(0, .ref _), (1, .int _), (2, .ref _)]) [] (0, 9, 12, 13) [] rfl (fun z hz => nomatch hz) (by decide) (by decide) (tk3 (i := 61) (by decide +kernel) rfl) (by decide) 3 1 13 (Or.inl ⟨3, rfl, dL_misfitsIn_12, rfl⟩) (ltb rfl) rfl ?_
    refine aw_widen (cc' := 1) (ss' := 6) (leb rfl) (leb rfl) ?_
    replace h := h rfl
    refine aw_iconst 14 (v := 1) dL_misfitsIn_13 kI_1 rfl ?_
    exact aw_ireturn (ty := .int) dL_misfitsIn_14 rfl rfl (leb rfl) (leb rfl) ⟨_, rfl, h⟩)
set_option maxRecDepth 20000 in
theorem aw_X5_misfits_4 {G : GG} (hG : G.1.stackTraces = false)  {l0 : Nat} {l1 : Int32} {l2 : Int32} {l3 : Int32} {X : XH} {K : Int32 → XH → Prop}  (h : w_X5_misfits_4  l0 l1 l2 l3 X K) : AW G M_X5_misfits 4 [(0, .ref l0), (1, .int l1), (2, .int l2), (3, .int l3)] [] X 0 0 (KrI K) :=
  h (fun l0 l1 l2 l3 X => AW G M_X5_misfits 4 [(0, .ref l0), (1, .int l1), (2, .int l2), (3, .int l3)] [] X 0 0 (KrI K)) (fun l0 l1 l2 l3 X h => by
    refine aw_iload_n 5 dX5_misfits_4 rfl 3 rfl rfl ?_
    refine aw_aload_n 6 dX5_misfits_5 rfl 0 rfl rfl ?_
    obtain ⟨g1, h⟩ := h
    obtain ⟨g2, h⟩ := h
    refine aw_getR 9 dX5_misfits_6 fl_RX5_7 rfl g1 g2 rfl ?_
    refine aw_sipush 12 (v := 366) dX5_misfits_9 kS_366 rfl ?_
    obtain ⟨g3, h⟩ := h
    obtain ⟨g4, h⟩ := h
    refine aw_iaload 13 dX5_misfits_12 g3 g4 rfl ?_
    refine aw_icmp_ge 48 16 dX5_misfits_13 rfl rfl (fun c5 => ?_) (fun c5 => ?_)
    · replace h := h.1 c5
      refine aw_iload_n 49 dX5_misfits_48 rfl 2 rfl rfl ?_
      exact aw_ireturn (ty := .int) dX5_misfits_49 rfl rfl (leb rfl) (leb rfl) ⟨_, rfl, h⟩
    · replace h := h.2 c5
      refine aw_iload_n 17 dX5_misfits_16 rfl 2 rfl rfl ?_
      refine aw_aload_n 18 dX5_misfits_17 rfl 0 rfl rfl ?_
      refine aw_iload_n 19 dX5_misfits_18 rfl 3 rfl rfl ?_
      refine aw_iload_n 20 dX5_misfits_19 rfl 1 rfl rfl ?_
      refine aw_callV (M' := M_X5_frames) 23 48 5 l0 [.int _, .int _] [.int _] dX5_misfits_20 lk_RX5_48 mv_X5_frames mp_X5_frames rfl ⟨leb rfl, leb rfl⟩ rfl (ltb rfl) g1 rfl (leb rfl) (leb rfl) (leb rfl) rfl (am_X5_frames hG h) (kkI fun v7 X6 h => ?_) (kxN KrI.no)
      refine aw_widen (cc' := 0) (ss' := 0) (leb rfl) (leb rfl) ?_
      refine aw_if_le 39 26 dX5_misfits_23 rfl rfl (fun c8 => ?_) (fun c8 => ?_)
      · replace h := h.1 c8
        refine aw_iconst 40 (v := 0) dX5_misfits_39 kI_0 rfl ?_
        refine aw_iadd 41 dX5_misfits_40 rfl ?_
        refine aw_istore_n 42 (lv' := [(2, _), (0, _), (1, _), (3, _)]) dX5_misfits_41 rfl (ltb rfl) rfl rfl ?_
        refine aw_iinc 45 (v := 1) (lv' := [(3, _), (2, _), (0, _), (1, _)]) dX5_misfits_42 3 rfl kI_1 (ltb rfl) rfl rfl ?_
        refine aw_goto 4 dX5_misfits_45 rfl ?_
        exact aw_pick [2, 3, 1, 0] rfl h
      · replace h := h.2 c8
        refine aw_aload_n 27 dX5_misfits_26 rfl 0 rfl rfl ?_
        refine aw_iload_n 28 dX5_misfits_27 rfl 3 rfl rfl ?_
        refine aw_iload_n 29 dX5_misfits_28 rfl 1 rfl rfl ?_
        obtain ⟨g11, h⟩ := h
        refine aw_callV (M' := M_X5_fitting) 32 62 5 l0 [.int _, .int _] [.int _] dX5_misfits_29 lk_RX5_62 mv_X5_fitting mp_X5_fitting rfl ⟨leb rfl, leb rfl⟩ rfl (ltb rfl) g11 rfl (leb rfl) (leb rfl) (leb rfl) rfl (am_X5_fitting hG h) (kkI fun v10 X9 h => ?_) (kxN KrI.no)
        refine aw_widen (cc' := 0) (ss' := 0) (leb rfl) (leb rfl) ?_
        refine aw_if_ne 39 35 dX5_misfits_32 rfl rfl (fun c12 => ?_) (fun c12 => ?_)
        · replace h := h.1 c12
          refine aw_iconst 40 (v := 0) dX5_misfits_39 kI_0 rfl ?_
          refine aw_iadd 41 dX5_misfits_40 rfl ?_
          refine aw_istore_n 42 (lv' := [(2, _), (0, _), (1, _), (3, _)]) dX5_misfits_41 rfl (ltb rfl) rfl rfl ?_
          refine aw_iinc 45 (v := 1) (lv' := [(3, _), (2, _), (0, _), (1, _)]) dX5_misfits_42 3 rfl kI_1 (ltb rfl) rfl rfl ?_
          refine aw_goto 4 dX5_misfits_45 rfl ?_
          exact aw_pick [2, 3, 1, 0] rfl h
        · replace h := h.2 c12
          refine aw_iconst 36 (v := 1) dX5_misfits_35 kI_1 rfl ?_
          refine aw_goto 40 dX5_misfits_36 rfl ?_
          refine aw_iadd 41 dX5_misfits_40 rfl ?_
          refine aw_istore_n 42 (lv' := [(2, _), (0, _), (1, _), (3, _)]) dX5_misfits_41 rfl (ltb rfl) rfl rfl ?_
          refine aw_iinc 45 (v := 1) (lv' := [(3, _), (2, _), (0, _), (1, _)]) dX5_misfits_42 3 rfl kI_1 (ltb rfl) rfl rfl ?_
          refine aw_goto 4 dX5_misfits_45 rfl ?_
          exact aw_pick [2, 3, 1, 0] rfl h)
set_option maxRecDepth 20000 in
theorem am_X5_misfits {G : GG} (hG : G.1.stackTraces = false) {l0 : Nat} {l1 : Int32} {X : XH} {K : Int32 → XH → Prop} (h : w_X5_misfits l0 l1 X K) : AM G M_X5_misfits X [.ref l0, .int l1] (KrI K) := AM_of (by decide +kernel) rfl (leb rfl) hG (by
  show AW G M_X5_misfits 0 [(0, .ref l0), (1, .int l1)] [] X 0 0 _
  unfold w_X5_misfits at h
  refine aw_iconst 1 (v := 0) dX5_misfits_0 kI_0 rfl ?_
  refine aw_istore_n 2 (lv' := [(2, _), (0, _), (1, _)]) dX5_misfits_1 rfl (ltb rfl) rfl rfl ?_
  refine aw_iconst 3 (v := 0) dX5_misfits_2 kI_0 rfl ?_
  refine aw_istore_n 4 (lv' := [(3, _), (2, _), (0, _), (1, _)]) dX5_misfits_3 rfl (ltb rfl) rfl rfl ?_
  exact aw_pick [2, 3, 1, 0] rfl (aw_X5_misfits_4 hG  h))
set_option maxRecDepth 20000 in
theorem aw_X5_misfitsIn_13 {G : GG} (hG : G.1.stackTraces = false)  {l0 : Nat} {l1 : Int32} {s0 : Nat} {s1 : Int32} {X : XH} {K : Int32 → XH → Prop}  (h : w_X5_misfitsIn_13  l0 l1 s0 s1 X K) : AW G M_X5_misfitsIn 13 [(0, .ref l0), (1, .int l1)] [.int s1, .ref s0] X 0 0 (KrI K) := by
  unfold w_X5_misfitsIn_13 at h
  obtain ⟨g3, h⟩ := h
  refine aw_callV (M' := M_X5_refused) 16 81 5 s0 [.int _] [] dX5_misfitsIn_13 lk_RX5_81 mv_X5_refused mp_X5_refused rfl ⟨leb rfl, leb rfl⟩ rfl (ltb rfl) g3 rfl (leb rfl) (leb rfl) (leb rfl) rfl (am_X5_refused hG h) (kkI fun v2 X1 h => ?_) (kxN KrI.no)
  refine aw_widen (cc' := 0) (ss' := 0) (leb rfl) (leb rfl) ?_
  refine aw_if_eq 23 19 dX5_misfitsIn_16 rfl rfl (fun c4 => ?_) (fun c4 => ?_)
  · replace h := h.1 c4
    refine aw_aload_n 24 dX5_misfitsIn_23 rfl 0 rfl rfl ?_
    refine aw_iload_n 25 dX5_misfitsIn_24 rfl 1 rfl rfl ?_
    obtain ⟨g7, h⟩ := h
    refine aw_callV (M' := M_X5_misfits) 28 212 5 l0 [.int _] [] dX5_misfitsIn_25 lk_RX5_212 mv_X5_misfits mp_X5_misfits rfl ⟨leb rfl, leb rfl⟩ rfl (ltb rfl) g7 rfl (leb rfl) (leb rfl) (leb rfl) rfl (am_X5_misfits hG h) (kkI fun v6 X5 h => ?_) (kxN KrI.no)
    refine aw_widen (cc' := 0) (ss' := 0) (leb rfl) (leb rfl) ?_
    exact aw_ireturn (ty := .int) dX5_misfitsIn_28 rfl rfl (leb rfl) (leb rfl) ⟨_, rfl, h⟩
  · replace h := h.2 c4
    refine aw_iconst 20 (v := 0) dX5_misfitsIn_19 kI_0 rfl ?_
    refine aw_goto 28 dX5_misfitsIn_20 rfl ?_
    exact aw_ireturn (ty := .int) dX5_misfitsIn_28 rfl rfl (leb rfl) (leb rfl) ⟨_, rfl, h⟩
set_option maxRecDepth 20000 in
theorem am_X5_misfitsIn {G : GG} (hG : G.1.stackTraces = false) {l0 : Nat} {l1 : Int32} {X : XH} {K : Int32 → XH → Prop} (h : w_X5_misfitsIn l0 l1 X K) : AM G M_X5_misfitsIn X [.ref l0, .int l1] (KrI K) := AM_of (by decide +kernel) rfl (leb rfl) hG (by
  show AW G M_X5_misfitsIn 0 [(0, .ref l0), (1, .int l1)] [] X 0 0 _
  unfold w_X5_misfitsIn at h
  refine aw_aload_n 1 dX5_misfitsIn_0 rfl 0 rfl rfl ?_
  refine aw_iload_n 2 dX5_misfitsIn_1 rfl 1 rfl rfl ?_
  refine aw_callS (M' := M_X5_isTongue) 5 38 [.int _] [.ref _] dX5_misfitsIn_2 lk_RX5_38 ms_X5_isTongue mp_X5_isTongue rfl ⟨leb rfl, leb rfl⟩ rfl (leb rfl) (leb rfl) (leb rfl) rfl (am_X5_isTongue hG h) (kkI fun v2 X1 h => ?_) (kxN KrI.no)
  refine aw_widen (cc' := 0) (ss' := 0) (leb rfl) (leb rfl) ?_
  refine aw_if_eq 12 8 dX5_misfitsIn_5 rfl rfl (fun c3 => ?_) (fun c3 => ?_)
  · replace h := h.1 c3
    refine aw_iconst 13 (v := 1) dX5_misfitsIn_12 kI_1 rfl ?_
    exact aw_pick [0, 1] rfl (aw_X5_misfitsIn_13 hG  h)
  · replace h := h.2 c3
    refine aw_iconst 9 (v := 0) dX5_misfitsIn_8 kI_0 rfl ?_
    refine aw_goto 13 dX5_misfitsIn_9 rfl ?_
    exact aw_pick [0, 1] rfl (aw_X5_misfitsIn_13 hG  h))
set_option maxRecDepth 20000 in
theorem am_X4_session {G : GG} (hG : G.1.stackTraces = false) {l0 : Nat} {X : XH} {K : Int32 → XH → Prop} (h : w_X4_session l0 X K) : AM G M_X4_session X [.ref l0] (KrI K) := AM_of (by decide +kernel) rfl (leb rfl) hG (by
  show AW G M_X4_session 0 [(0, .ref l0)] [] X 0 0 _
  unfold w_X4_session at h
  refine aw_aload_n 1 dX4_session_0 rfl 0 rfl rfl ?_
  obtain ⟨g1, h⟩ := h
  obtain ⟨g2, h⟩ := h
  refine aw_getR 4 dX4_session_1 fl_RX4_10 rfl g1 g2 rfl ?_
  obtain ⟨g3, h⟩ := h
  refine aw_getI 7 dX4_session_4 fl_RX4_187 rfl g3 rfl ?_
  exact aw_ireturn (ty := .int) dX4_session_7 rfl rfl (leb rfl) (leb rfl) ⟨_, rfl, h⟩)
set_option maxRecDepth 20000 in
theorem am_X5_session {G : GG} (hG : G.1.stackTraces = false) {l0 : Nat} {X : XH} {K : Int32 → XH → Prop} (h : w_X5_session l0 X K) : AM G M_X5_session X [.ref l0] (KrI K) := AM_of (by decide +kernel) rfl (leb rfl) hG (by
  show AW G M_X5_session 0 [(0, .ref l0)] [] X 0 0 _
  unfold w_X5_session at h
  refine aw_aload_n 1 dX5_session_0 rfl 0 rfl rfl ?_
  refine aw_aload_n 2 dX5_session_1 rfl 0 rfl rfl ?_
  obtain ⟨g1, h⟩ := h
  obtain ⟨g2, h⟩ := h
  refine aw_getR 5 dX5_session_2 fl_RX5_7 rfl g1 g2 rfl ?_
  refine aw_sipush 8 (v := 367) dX5_session_5 kS_367 rfl ?_
  obtain ⟨g3, h⟩ := h
  obtain ⟨g4, h⟩ := h
  refine aw_iaload 9 dX5_session_8 g3 g4 rfl ?_
  refine aw_callV (M' := M_X5_told) 12 167 5 l0 [.int _] [] dX5_session_9 lk_RX5_167 mv_X5_told mp_X5_told rfl ⟨leb rfl, leb rfl⟩ rfl (ltb rfl) g1 rfl (leb rfl) (leb rfl) (leb rfl) rfl (am_X5_told hG h) (kkI fun v6 X5 h => ?_) (kxN KrI.no)
  refine aw_widen (cc' := 0) (ss' := 0) (leb rfl) (leb rfl) ?_
  exact aw_ireturn (ty := .int) dX5_session_12 rfl rfl (leb rfl) (leb rfl) ⟨_, rfl, h⟩)
set_option maxRecDepth 20000 in
theorem am_X4_recordings {G : GG} (hG : G.1.stackTraces = false) {l0 : Nat} {X : XH} {K : Int32 → XH → Prop} (h : w_X4_recordings l0 X K) : AM G M_X4_recordings X [.ref l0] (KrI K) := AM_of (by decide +kernel) rfl (leb rfl) hG (by
  show AW G M_X4_recordings 0 [(0, .ref l0)] [] X 0 0 _
  unfold w_X4_recordings at h
  refine aw_aload_n 1 dX4_recordings_0 rfl 0 rfl rfl ?_
  obtain ⟨g1, h⟩ := h
  obtain ⟨g2, h⟩ := h
  refine aw_getR 4 dX4_recordings_1 fl_RX4_10 rfl g1 g2 rfl ?_
  obtain ⟨g3, h⟩ := h
  refine aw_getI 7 dX4_recordings_4 fl_RX4_331 rfl g3 rfl ?_
  exact aw_ireturn (ty := .int) dX4_recordings_7 rfl rfl (leb rfl) (leb rfl) ⟨_, rfl, h⟩)
set_option maxRecDepth 20000 in
theorem am_X5_recordings {G : GG} (hG : G.1.stackTraces = false) {l0 : Nat} {X : XH} {K : Int32 → XH → Prop} (h : w_X5_recordings l0 X K) : AM G M_X5_recordings X [.ref l0] (KrI K) := AM_of (by decide +kernel) rfl (leb rfl) hG (by
  show AW G M_X5_recordings 0 [(0, .ref l0)] [] X 0 0 _
  unfold w_X5_recordings at h
  refine aw_aload_n 1 dX5_recordings_0 rfl 0 rfl rfl ?_
  refine aw_aload_n 2 dX5_recordings_1 rfl 0 rfl rfl ?_
  obtain ⟨g1, h⟩ := h
  obtain ⟨g2, h⟩ := h
  refine aw_getR 5 dX5_recordings_2 fl_RX5_7 rfl g1 g2 rfl ?_
  refine aw_sipush 8 (v := 368) dX5_recordings_5 kS_368 rfl ?_
  obtain ⟨g3, h⟩ := h
  obtain ⟨g4, h⟩ := h
  refine aw_iaload 9 dX5_recordings_8 g3 g4 rfl ?_
  refine aw_callV (M' := M_X5_told) 12 167 5 l0 [.int _] [] dX5_recordings_9 lk_RX5_167 mv_X5_told mp_X5_told rfl ⟨leb rfl, leb rfl⟩ rfl (ltb rfl) g1 rfl (leb rfl) (leb rfl) (leb rfl) rfl (am_X5_told hG h) (kkI fun v6 X5 h => ?_) (kxN KrI.no)
  refine aw_widen (cc' := 0) (ss' := 0) (leb rfl) (leb rfl) ?_
  exact aw_ireturn (ty := .int) dX5_recordings_12 rfl rfl (leb rfl) (leb rfl) ⟨_, rfl, h⟩)
set_option maxRecDepth 20000 in
theorem am_X4_wiped {G : GG} (hG : G.1.stackTraces = false) {l0 : Nat} {X : XH} {K : Int32 → XH → Prop} (h : w_X4_wiped l0 X K) : AM G M_X4_wiped X [.ref l0] (KrI K) := AM_of (by decide +kernel) rfl (leb rfl) hG (by
  show AW G M_X4_wiped 0 [(0, .ref l0)] [] X 0 0 _
  unfold w_X4_wiped at h
  refine aw_aload_n 1 dX4_wiped_0 rfl 0 rfl rfl ?_
  obtain ⟨g1, h⟩ := h
  obtain ⟨g2, h⟩ := h
  refine aw_getR 4 dX4_wiped_1 fl_RX4_10 rfl g1 g2 rfl ?_
  obtain ⟨g3, h⟩ := h
  refine aw_getI 7 dX4_wiped_4 fl_RX4_334 rfl g3 rfl ?_
  exact aw_ireturn (ty := .int) dX4_wiped_7 rfl rfl (leb rfl) (leb rfl) ⟨_, rfl, h⟩)
set_option maxRecDepth 20000 in
theorem am_X5_wiped {G : GG} (hG : G.1.stackTraces = false) {l0 : Nat} {X : XH} {K : Int32 → XH → Prop} (h : w_X5_wiped l0 X K) : AM G M_X5_wiped X [.ref l0] (KrI K) := AM_of (by decide +kernel) rfl (leb rfl) hG (by
  show AW G M_X5_wiped 0 [(0, .ref l0)] [] X 0 0 _
  unfold w_X5_wiped at h
  refine aw_aload_n 1 dX5_wiped_0 rfl 0 rfl rfl ?_
  refine aw_aload_n 2 dX5_wiped_1 rfl 0 rfl rfl ?_
  obtain ⟨g1, h⟩ := h
  obtain ⟨g2, h⟩ := h
  refine aw_getR 5 dX5_wiped_2 fl_RX5_7 rfl g1 g2 rfl ?_
  refine aw_sipush 8 (v := 369) dX5_wiped_5 kS_369 rfl ?_
  obtain ⟨g3, h⟩ := h
  obtain ⟨g4, h⟩ := h
  refine aw_iaload 9 dX5_wiped_8 g3 g4 rfl ?_
  refine aw_callV (M' := M_X5_told) 12 167 5 l0 [.int _] [] dX5_wiped_9 lk_RX5_167 mv_X5_told mp_X5_told rfl ⟨leb rfl, leb rfl⟩ rfl (ltb rfl) g1 rfl (leb rfl) (leb rfl) (leb rfl) rfl (am_X5_told hG h) (kkI fun v6 X5 h => ?_) (kxN KrI.no)
  refine aw_widen (cc' := 0) (ss' := 0) (leb rfl) (leb rfl) ?_
  exact aw_ireturn (ty := .int) dX5_wiped_12 rfl rfl (leb rfl) (leb rfl) ⟨_, rfl, h⟩)
set_option maxRecDepth 20000 in
theorem am_X4_mixes {G : GG} (hG : G.1.stackTraces = false) {l0 : Nat} {X : XH} {K : Int32 → XH → Prop} (h : w_X4_mixes l0 X K) : AM G M_X4_mixes X [.ref l0] (KrI K) := AM_of (by decide +kernel) rfl (leb rfl) hG (by
  show AW G M_X4_mixes 0 [(0, .ref l0)] [] X 0 0 _
  unfold w_X4_mixes at h
  refine aw_aload_n 1 dX4_mixes_0 rfl 0 rfl rfl ?_
  obtain ⟨g1, h⟩ := h
  obtain ⟨g2, h⟩ := h
  refine aw_getR 4 dX4_mixes_1 fl_RX4_10 rfl g1 g2 rfl ?_
  obtain ⟨g3, h⟩ := h
  refine aw_getI 7 dX4_mixes_4 fl_RX4_337 rfl g3 rfl ?_
  exact aw_ireturn (ty := .int) dX4_mixes_7 rfl rfl (leb rfl) (leb rfl) ⟨_, rfl, h⟩)
set_option maxRecDepth 20000 in
theorem am_X5_mixes {G : GG} (hG : G.1.stackTraces = false) {l0 : Nat} {X : XH} {K : Int32 → XH → Prop} (h : w_X5_mixes l0 X K) : AM G M_X5_mixes X [.ref l0] (KrI K) := AM_of (by decide +kernel) rfl (leb rfl) hG (by
  show AW G M_X5_mixes 0 [(0, .ref l0)] [] X 0 0 _
  unfold w_X5_mixes at h
  refine aw_aload_n 1 dX5_mixes_0 rfl 0 rfl rfl ?_
  refine aw_aload_n 2 dX5_mixes_1 rfl 0 rfl rfl ?_
  obtain ⟨g1, h⟩ := h
  obtain ⟨g2, h⟩ := h
  refine aw_getR 5 dX5_mixes_2 fl_RX5_7 rfl g1 g2 rfl ?_
  refine aw_sipush 8 (v := 370) dX5_mixes_5 kS_370 rfl ?_
  obtain ⟨g3, h⟩ := h
  obtain ⟨g4, h⟩ := h
  refine aw_iaload 9 dX5_mixes_8 g3 g4 rfl ?_
  refine aw_callV (M' := M_X5_told) 12 167 5 l0 [.int _] [] dX5_mixes_9 lk_RX5_167 mv_X5_told mp_X5_told rfl ⟨leb rfl, leb rfl⟩ rfl (ltb rfl) g1 rfl (leb rfl) (leb rfl) (leb rfl) rfl (am_X5_told hG h) (kkI fun v6 X5 h => ?_) (kxN KrI.no)
  refine aw_widen (cc' := 0) (ss' := 0) (leb rfl) (leb rfl) ?_
  exact aw_ireturn (ty := .int) dX5_mixes_12 rfl rfl (leb rfl) (leb rfl) ⟨_, rfl, h⟩)
set_option maxRecDepth 20000 in
theorem am_X3_leastAnnexAt {G : GG} (hG : G.1.stackTraces = false) {l0 : Nat} {l1 : Int32} {l2 : Int32} {X : XH} {K : Int32 → XH → Prop} (h : w_X3_leastAnnexAt l0 l1 l2 X K) : AM G M_X3_leastAnnexAt X [.ref l0, .int l1, .int l2] (KrI K) := AM_of (by decide +kernel) rfl (leb rfl) hG (by
  show AW G M_X3_leastAnnexAt 0 [(0, .ref l0), (1, .int l1), (2, .int l2)] [] X 0 0 _
  unfold w_X3_leastAnnexAt at h
  refine aw_iconst 1 (v := 0) dX3_leastAnnexAt_0 kI_0 rfl ?_
  refine aw_aload_n 2 dX3_leastAnnexAt_1 rfl 0 rfl rfl ?_
  refine aw_iload_n 3 dX3_leastAnnexAt_2 rfl 1 rfl rfl ?_
  refine aw_iload_n 4 dX3_leastAnnexAt_3 rfl 2 rfl rfl ?_
  obtain ⟨g3, h⟩ := h
  refine aw_callV (M' := M_X3_roomAt) 7 117 3 l0 [.int _, .int _] [.int _] dX3_leastAnnexAt_4 lk_RX3_117 mv_X3_roomAt mp_X3_roomAt rfl ⟨leb rfl, leb rfl⟩ rfl (ltb rfl) g3 rfl (leb rfl) (leb rfl) (leb rfl) rfl (am_X3_roomAt hG h) (kkI fun v2 X1 h => ?_) (kxN KrI.no)
  refine aw_widen (cc' := 0) (ss' := 0) (leb rfl) (leb rfl) ?_
  refine aw_ineg 8 dX3_leastAnnexAt_7 rfl ?_
  refine aw_mmax 11 dX3_leastAnnexAt_8 mx_RX3_120 (leb rfl) (leb rfl) (leb rfl) (leb rfl) rfl ?_
  refine aw_istore_n 12 (lv' := [(3, _), (0, _), (1, _), (2, _)]) dX3_leastAnnexAt_11 rfl (ltb rfl) rfl rfl ?_
  refine aw_aload_n 13 dX3_leastAnnexAt_12 rfl 1 rfl rfl ?_
  refine aw_iload_n 14 dX3_leastAnnexAt_13 rfl 2 rfl rfl ?_
  refine aw_iload_n 15 dX3_leastAnnexAt_14 rfl 3 rfl rfl ?_
  obtain ⟨g6, h⟩ := h
  refine aw_callV (M' := M_X3_framesAt) 18 95 3 l0 [.int _, .int _] [] dX3_leastAnnexAt_15 lk_RX3_95 mv_X3_framesAt mp_X3_framesAt rfl ⟨leb rfl, leb rfl⟩ rfl (ltb rfl) g6 rfl (leb rfl) (leb rfl) (leb rfl) rfl (am_X3_framesAt hG h) (kkI fun v5 X4 h => ?_) (kxN KrI.no)
  refine aw_widen (cc' := 0) (ss' := 0) (leb rfl) (leb rfl) ?_
  refine aw_iload_n 19 dX3_leastAnnexAt_18 rfl 0 rfl rfl ?_
  refine aw_isub 20 dX3_leastAnnexAt_19 rfl ?_
  refine aw_iconst 21 (v := 1) dX3_leastAnnexAt_20 kI_1 rfl ?_
  refine aw_icmp_lt 28 24 dX3_leastAnnexAt_21 rfl rfl (fun c7 => ?_) (fun c7 => ?_)
  · replace h := h.1 c7
    refine aw_iconst 29 (v := -1) dX3_leastAnnexAt_28 kI_m1 rfl ?_
    exact aw_ireturn (ty := .int) dX3_leastAnnexAt_29 rfl rfl (leb rfl) (leb rfl) ⟨_, rfl, h⟩
  · replace h := h.2 c7
    refine aw_iload_n 25 dX3_leastAnnexAt_24 rfl 0 rfl rfl ?_
    refine aw_goto 29 dX3_leastAnnexAt_25 rfl ?_
    exact aw_ireturn (ty := .int) dX3_leastAnnexAt_29 rfl rfl (leb rfl) (leb rfl) ⟨_, rfl, h⟩)
set_option maxRecDepth 20000 in
theorem am_X4_leastAnnex {G : GG} (hG : G.1.stackTraces = false) {l0 : Nat} {l1 : Int32} {l2 : Int32} {X : XH} {K : Int32 → XH → Prop} {KX : String → XH → Prop} (h : w_X4_leastAnnex l0 l1 l2 X K KX) : AM G M_X4_leastAnnex X [.ref l0, .int l1, .int l2] (KxT (KrI K) KX) := AM_of (by decide +kernel) rfl (leb rfl) hG (by
  show AW G M_X4_leastAnnex 0 [(0, .ref l0), (1, .int l1), (2, .int l2)] [] X 0 0 _
  unfold w_X4_leastAnnex at h
  refine aw_aload_n 1 dX4_leastAnnex_0 rfl 0 rfl rfl ?_
  refine aw_iload_n 2 dX4_leastAnnex_1 rfl 1 rfl rfl ?_
  refine aw_iload_n 3 dX4_leastAnnex_2 rfl 2 rfl rfl ?_
  obtain ⟨g2, h⟩ := h
  refine aw_callV (M' := M_X4_checkTranslation) 6 115 4 l0 [.int _, .int _] [] dX4_leastAnnex_3 lk_RX4_115 mv_X4_checkTranslation mp_X4_checkTranslation rfl ⟨leb rfl, leb rfl⟩ rfl (ltb rfl) g2 rfl (leb rfl) (leb rfl) (leb rfl) rfl (am_X4_checkTranslation hG h) (kkT (kkV fun X1 h => ?_)) (kxT KrV.no fun E X h => at_out rfl (leb rfl) (leb rfl) (Or.inr ⟨_, rfl, h⟩))
  refine aw_widen (cc' := 2) (ss' := 12) (leb rfl) (leb rfl) ?_
  refine aw_aload_n 7 dX4_leastAnnex_6 rfl 0 rfl rfl ?_
  refine aw_iload_n 8 dX4_leastAnnex_7 rfl 1 rfl rfl ?_
  refine aw_iload_n 9 dX4_leastAnnex_8 rfl 2 rfl rfl ?_
  obtain ⟨g4, h⟩ := h
  refine aw_callV (M' := M_X4_checkTranslated) 12 286 4 l0 [.int _, .int _] [] dX4_leastAnnex_9 lk_RX4_286 mv_X4_checkTranslated mp_X4_checkTranslated rfl ⟨leb rfl, leb rfl⟩ rfl (ltb rfl) g4 rfl (leb rfl) (leb rfl) (leb rfl) rfl (am_X4_checkTranslated hG h) (kkT (kkV fun X3 h => ?_)) (kxT KrV.no fun E X h => at_out rfl (leb rfl) (leb rfl) (Or.inr ⟨_, rfl, h⟩))
  refine aw_widen (cc' := 3) (ss' := 18) (leb rfl) (leb rfl) ?_
  refine aw_aload_n 13 dX4_leastAnnex_12 rfl 0 rfl rfl ?_
  obtain ⟨g5, h⟩ := h
  obtain ⟨g6, h⟩ := h
  refine aw_getR 16 dX4_leastAnnex_13 fl_RX4_10 rfl g5 g6 rfl ?_
  refine aw_iload_n 17 dX4_leastAnnex_16 rfl 1 rfl rfl ?_
  refine aw_iload_n 18 dX4_leastAnnex_17 rfl 2 rfl rfl ?_
  obtain ⟨g9, h⟩ := h
  refine aw_callV (M' := M_X3_leastAnnexAt) 21 340 3 (hR X3 l0 0) [.int _, .int _] [] dX4_leastAnnex_18 lk_RX4_340 mv_X3_leastAnnexAt mp_X3_leastAnnexAt rfl ⟨leb rfl, leb rfl⟩ rfl (ltb rfl) g9 rfl (leb rfl) (leb rfl) (leb rfl) rfl (am_X3_leastAnnexAt hG h) (kkI fun v8 X7 h => ?_) (kxN KrI.no)
  refine aw_widen (cc' := 3) (ss' := 18) (leb rfl) (leb rfl) ?_
  refine aw_istore_n 22 (lv' := [(3, _), (0, _), (1, _), (2, _)]) dX4_leastAnnex_21 rfl (ltb rfl) rfl rfl ?_
  refine aw_iload_n 23 dX4_leastAnnex_22 rfl 0 rfl rfl ?_
  refine aw_iconst 24 (v := -1) dX4_leastAnnex_23 kI_m1 rfl ?_
  refine aw_icmp_ne 38 27 dX4_leastAnnex_24 rfl rfl (fun c10 => ?_) (fun c10 => ?_)
  · replace h := h.1 c10
    refine aw_iload_n 39 dX4_leastAnnex_38 rfl 0 rfl rfl ?_
    exact aw_ireturn (ty := .int) dX4_leastAnnex_39 rfl rfl (leb rfl) (leb rfl) (Or.inl ⟨_, rfl, h⟩)
  · replace h := h.2 c10
    exact aw_throw xcS 60 343 64 rfl th_xcS (by decide) (Or.inr ⟨dX4_leastAnnex_27, dX4_leastAnnex_30, dX4_leastAnnex_31, dX4_leastAnnex_34, dX4_leastAnnex_37⟩) rfl (ltb rfl) (leb rfl) (leb rfl) (leb rfl) (Or.inr ⟨_, rfl, h⟩))
set_option maxRecDepth 20000 in
theorem am_L_leastAnnex {G : GG} (hG : G.1.stackTraces = false) {l0 : Nat} {l1 : Int32} {l2 : Int32} {l3 : Nat} {X : XH} {K : Int32 → XH → Prop} (h : w_L_leastAnnex l0 l1 l2 l3 X K) : AM G M_L_leastAnnex X [.ref l0, .int l1, .int l2, .ref l3] (KrI K) := AM_ofH (by decide +kernel) (0, 10, 13, 13) [(0, 10, 17, 17)] rfl (leb rfl) hG (by
  show AW G M_L_leastAnnex 0 [(0, .ref l0), (1, .int l1), (2, .int l2), (3, .ref l3)] [] X 0 0 _
  unfold w_L_leastAnnex at h
  refine aw_aload_n 1 dL_leastAnnex_0 rfl 3 rfl rfl ?_
  refine aw_iconst 2 (v := 0) dL_leastAnnex_1 kI_0 rfl ?_
  refine aw_aload_n 3 dL_leastAnnex_2 rfl 0 rfl rfl ?_
  refine aw_iload_n 4 dL_leastAnnex_3 rfl 1 rfl rfl ?_
  refine aw_iload_n 5 dL_leastAnnex_4 rfl 2 rfl rfl ?_
  obtain ⟨g3, h⟩ := h
  refine aw_callV (M' := M_X4_leastAnnex) 8 173 4 l0 [.int _, .int _] [.int _, .ref _] dL_leastAnnex_5 lk_RL_173 mv_X4_leastAnnex mp_X4_leastAnnex rfl ⟨leb rfl, leb rfl⟩ rfl (ltb rfl) g3 rfl (leb rfl) (leb rfl) (leb rfl) rfl (am_X4_leastAnnex hG h) (kkT (kkI fun v2 X1 h => ?_)) (kxT KrI.no fun E X1 h => ?_)
  · refine aw_widen (cc' := 4) (ss' := 24) (leb rfl) (leb rfl) ?_
    refine aw_i2l 9 dL_leastAnnex_8 rfl ?_
    obtain ⟨g4, h⟩ := h
    obtain ⟨g5, h⟩ := h
    refine aw_lastore 10 dL_leastAnnex_9 g4 g5 rfl ?_
    refine aw_goto 21 dL_leastAnnex_10 rfl ?_
    refine aw_iconst 22 (v := 0) dL_leastAnnex_21 kI_0 rfl ?_
    exact aw_ireturn (ty := .int) dL_leastAnnex_22 rfl rfl (leb rfl) (leb rfl) ⟨_, rfl, h⟩
  · obtain ⟨hE, h⟩ := h
    rcases hE with rfl | rfl
    · refine aw_atc (lv' := [(0, .ref _), (1, .int _), (2, .int _), (3, .ref _)]) [] (0, 10, 13, 13) [(0, 10, 17, 17)] rfl (fun z hz => nomatch hz) (by decide) (by decide) (tk3 (i := 61) (by decide +kernel) rfl) (by decide) 4 2 15 (Or.inr ⟨dL_leastAnnex_13, rfl⟩) (ltb rfl) rfl ?_
      refine aw_widen (cc' := 4) (ss' := 24) (leb rfl) (leb rfl) ?_
      replace h := h.1 rfl
      refine aw_iconst 16 (v := 1) dL_leastAnnex_15 kI_1 rfl ?_
      exact aw_ireturn (ty := .int) dL_leastAnnex_16 rfl rfl (leb rfl) (leb rfl) ⟨_, rfl, h⟩
    · refine aw_atc (lv' := [(0, .ref _), (1, .int _), (2, .int _), (3, .ref _)]) [(0, 10, 13, 13)] (0, 10, 17, 17) [] rfl (by intro z hz; simp only [List.mem_cons, List.not_mem_nil, or_false] at hz; rcases hz with rfl <;> first | exact ⟨by decide, xcI, tk3 (i := 61) (by decide +kernel) rfl, by decide⟩) (by decide) (by decide) (tk3 (i := 63) (by decide +kernel) rfl) (by decide) 4 2 19 (Or.inr ⟨dL_leastAnnex_17, rfl⟩) (ltb rfl) rfl ?_
      refine aw_widen (cc' := 4) (ss' := 24) (leb rfl) (leb rfl) ?_
      replace h := h.2 rfl
      refine aw_iconst 20 (v := 2) dL_leastAnnex_19 kI_2 rfl ?_
      exact aw_ireturn (ty := .int) dL_leastAnnex_20 rfl rfl (leb rfl) (leb rfl) ⟨_, rfl, h⟩)
set_option maxRecDepth 20000 in
theorem am_X5_needed {G : GG} (hG : G.1.stackTraces = false) {l0 : Nat} {l1 : Int32} {l2 : Int32} {X : XH} {K : Int32 → XH → Prop} (h : w_X5_needed l0 l1 l2 X K) : AM G M_X5_needed X [.ref l0, .int l1, .int l2] (KrI K) := AM_of (by decide +kernel) rfl (leb rfl) hG (by
  show AW G M_X5_needed 0 [(0, .ref l0), (1, .int l1), (2, .int l2)] [] X 0 0 _
  unfold w_X5_needed at h
  refine aw_aload_n 1 dX5_needed_0 rfl 0 rfl rfl ?_
  refine aw_iload_n 2 dX5_needed_1 rfl 1 rfl rfl ?_
  refine aw_iload_n 3 dX5_needed_2 rfl 2 rfl rfl ?_
  obtain ⟨g3, h⟩ := h
  refine aw_callV (M' := M_X5_room) 6 176 5 l0 [.int _, .int _] [] dX5_needed_3 lk_RX5_176 mv_X5_room mp_X5_room rfl ⟨leb rfl, leb rfl⟩ rfl (ltb rfl) g3 rfl (leb rfl) (leb rfl) (leb rfl) rfl (am_X5_room hG h) (kkI fun v2 X1 h => ?_) (kxN KrI.no)
  refine aw_widen (cc' := 0) (ss' := 0) (leb rfl) (leb rfl) ?_
  refine aw_ineg 7 dX5_needed_6 rfl ?_
  refine aw_istore_n 8 (lv' := [(3, _), (0, _), (1, _), (2, _)]) dX5_needed_7 rfl (ltb rfl) rfl rfl ?_
  refine aw_iload_n 9 dX5_needed_8 rfl 0 rfl rfl ?_
  refine aw_if_gt 16 12 dX5_needed_9 rfl rfl (fun c4 => ?_) (fun c4 => ?_)
  · replace h := h.1 c4
    refine aw_iload_n 17 dX5_needed_16 rfl 0 rfl rfl ?_
    refine aw_aload_n 18 dX5_needed_17 rfl 1 rfl rfl ?_
    refine aw_iload_n 19 dX5_needed_18 rfl 2 rfl rfl ?_
    refine aw_iload_n 20 dX5_needed_19 rfl 3 rfl rfl ?_
    obtain ⟨g7, h⟩ := h
    refine aw_callV (M' := M_X5_frames) 23 48 5 l0 [.int _, .int _] [.int _] dX5_needed_20 lk_RX5_48 mv_X5_frames mp_X5_frames rfl ⟨leb rfl, leb rfl⟩ rfl (ltb rfl) g7 rfl (leb rfl) (leb rfl) (leb rfl) rfl (am_X5_frames hG h) (kkI fun v6 X5 h => ?_) (kxN KrI.no)
    refine aw_widen (cc' := 0) (ss' := 0) (leb rfl) (leb rfl) ?_
    refine aw_icmp_ge 30 26 dX5_needed_23 rfl rfl (fun c8 => ?_) (fun c8 => ?_)
    · replace h := h.1 c8
      refine aw_iconst 31 (v := -1) dX5_needed_30 kI_m1 rfl ?_
      exact aw_ireturn (ty := .int) dX5_needed_31 rfl rfl (leb rfl) (leb rfl) ⟨_, rfl, h⟩
    · replace h := h.2 c8
      refine aw_iload_n 27 dX5_needed_26 rfl 0 rfl rfl ?_
      refine aw_goto 31 dX5_needed_27 rfl ?_
      exact aw_ireturn (ty := .int) dX5_needed_31 rfl rfl (leb rfl) (leb rfl) ⟨_, rfl, h⟩
  · replace h := h.2 c4
    refine aw_iconst 13 (v := 0) dX5_needed_12 kI_0 rfl ?_
    refine aw_goto 31 dX5_needed_13 rfl ?_
    exact aw_ireturn (ty := .int) dX5_needed_31 rfl rfl (leb rfl) (leb rfl) ⟨_, rfl, h⟩)
set_option maxRecDepth 20000 in
theorem aw_X5_leastAnnex_30 {G : GG} (hG : G.1.stackTraces = false)  {l0 : Nat} {l1 : Int32} {l2 : Int32} {s0 : Nat} {s1 : Int32} {X : XH} {K : Int32 → XH → Prop}  (h : w_X5_leastAnnex_30  l0 l1 l2 s0 s1 X K) : AW G M_X5_leastAnnex 30 [(0, .ref l0), (1, .int l1), (2, .int l2)] [.int s1, .ref s0] X 0 0 (KrI K) := by
  unfold w_X5_leastAnnex_30 at h
  obtain ⟨g3, h⟩ := h
  refine aw_callV (M' := M_X5_refused) 33 81 5 s0 [.int _] [] dX5_leastAnnex_30 lk_RX5_81 mv_X5_refused mp_X5_refused rfl ⟨leb rfl, leb rfl⟩ rfl (ltb rfl) g3 rfl (leb rfl) (leb rfl) (leb rfl) rfl (am_X5_refused hG h) (kkI fun v2 X1 h => ?_) (kxN KrI.no)
  refine aw_widen (cc' := 0) (ss' := 0) (leb rfl) (leb rfl) ?_
  refine aw_if_eq 40 36 dX5_leastAnnex_33 rfl rfl (fun c4 => ?_) (fun c4 => ?_)
  · replace h := h.1 c4
    refine aw_aload_n 41 dX5_leastAnnex_40 rfl 0 rfl rfl ?_
    refine aw_iload_n 42 dX5_leastAnnex_41 rfl 1 rfl rfl ?_
    refine aw_iload_n 43 dX5_leastAnnex_42 rfl 2 rfl rfl ?_
    obtain ⟨g7, h⟩ := h
    refine aw_callV (M' := M_X5_needed) 46 215 5 l0 [.int _, .int _] [] dX5_leastAnnex_43 lk_RX5_215 mv_X5_needed mp_X5_needed rfl ⟨leb rfl, leb rfl⟩ rfl (ltb rfl) g7 rfl (leb rfl) (leb rfl) (leb rfl) rfl (am_X5_needed hG h) (kkI fun v6 X5 h => ?_) (kxN KrI.no)
    refine aw_widen (cc' := 0) (ss' := 0) (leb rfl) (leb rfl) ?_
    exact aw_ireturn (ty := .int) dX5_leastAnnex_46 rfl rfl (leb rfl) (leb rfl) ⟨_, rfl, h⟩
  · replace h := h.2 c4
    refine aw_iconst 37 (v := 0) dX5_leastAnnex_36 kI_0 rfl ?_
    refine aw_goto 46 dX5_leastAnnex_37 rfl ?_
    exact aw_ireturn (ty := .int) dX5_leastAnnex_46 rfl rfl (leb rfl) (leb rfl) ⟨_, rfl, h⟩
set_option maxRecDepth 20000 in
theorem am_X5_leastAnnex {G : GG} (hG : G.1.stackTraces = false) {l0 : Nat} {l1 : Int32} {l2 : Int32} {X : XH} {K : Int32 → XH → Prop} (h : w_X5_leastAnnex l0 l1 l2 X K) : AM G M_X5_leastAnnex X [.ref l0, .int l1, .int l2] (KrI K) := AM_of (by decide +kernel) rfl (leb rfl) hG (by
  show AW G M_X5_leastAnnex 0 [(0, .ref l0), (1, .int l1), (2, .int l2)] [] X 0 0 _
  unfold w_X5_leastAnnex at h
  refine aw_aload_n 1 dX5_leastAnnex_0 rfl 0 rfl rfl ?_
  refine aw_iload_n 2 dX5_leastAnnex_1 rfl 1 rfl rfl ?_
  refine aw_iload_n 3 dX5_leastAnnex_2 rfl 2 rfl rfl ?_
  obtain ⟨g3, h⟩ := h
  refine aw_callV (M' := M_X5_badTranslation) 6 173 5 l0 [.int _, .int _] [] dX5_leastAnnex_3 lk_RX5_173 mv_X5_badTranslation mp_X5_badTranslation rfl ⟨leb rfl, leb rfl⟩ rfl (ltb rfl) g3 rfl (leb rfl) (leb rfl) (leb rfl) rfl (am_X5_badTranslation hG h) (kkI fun v2 X1 h => ?_) (kxN KrI.no)
  refine aw_widen (cc' := 0) (ss' := 0) (leb rfl) (leb rfl) ?_
  refine aw_istore_n 7 (lv' := [(3, _), (0, _), (1, _), (2, _)]) dX5_leastAnnex_6 rfl (ltb rfl) rfl rfl ?_
  refine aw_aload_n 8 dX5_leastAnnex_7 rfl 1 rfl rfl ?_
  refine aw_iload_n 9 dX5_leastAnnex_8 rfl 0 rfl rfl ?_
  refine aw_if_le 16 12 dX5_leastAnnex_9 rfl rfl (fun c4 => ?_) (fun c4 => ?_)
  · replace h := h.1 c4
    refine aw_aload_n 17 dX5_leastAnnex_16 rfl 1 rfl rfl ?_
    refine aw_iload_n 18 dX5_leastAnnex_17 rfl 2 rfl rfl ?_
    refine aw_iload_n 19 dX5_leastAnnex_18 rfl 3 rfl rfl ?_
    obtain ⟨g7, h⟩ := h
    refine aw_callV (M' := M_X5_needed) 22 215 5 l0 [.int _, .int _] [.ref _] dX5_leastAnnex_19 lk_RX5_215 mv_X5_needed mp_X5_needed rfl ⟨leb rfl, leb rfl⟩ rfl (ltb rfl) g7 rfl (leb rfl) (leb rfl) (leb rfl) rfl (am_X5_needed hG h) (kkI fun v6 X5 h => ?_) (kxN KrI.no)
    refine aw_widen (cc' := 0) (ss' := 0) (leb rfl) (leb rfl) ?_
    refine aw_if_ge 29 25 dX5_leastAnnex_22 rfl rfl (fun c8 => ?_) (fun c8 => ?_)
    · replace h := h.1 c8
      refine aw_iconst 30 (v := 0) dX5_leastAnnex_29 kI_0 rfl ?_
      exact aw_pick [1, 2, 3] rfl (aw_X5_leastAnnex_30 hG  h)
    · replace h := h.2 c8
      refine aw_iconst 26 (v := 2) dX5_leastAnnex_25 kI_2 rfl ?_
      refine aw_goto 30 dX5_leastAnnex_26 rfl ?_
      exact aw_pick [1, 2, 3] rfl (aw_X5_leastAnnex_30 hG  h)
  · replace h := h.2 c4
    refine aw_iload_n 13 dX5_leastAnnex_12 rfl 0 rfl rfl ?_
    refine aw_goto 30 dX5_leastAnnex_13 rfl ?_
    exact aw_pick [1, 2, 3] rfl (aw_X5_leastAnnex_30 hG  h))
set_option maxRecDepth 20000 in
theorem aw_X3_longestSighAt_13 {G : GG} (hG : G.1.stackTraces = false)  {l0 : Nat} {l1 : Int32} {l2 : Int32} {l3 : Int32} {X : XH} {K : Int32 → XH → Prop}  (h : w_X3_longestSighAt_13  l0 l1 l2 l3 X K) : AW G M_X3_longestSighAt 13 [(0, .ref l0), (1, .int l1), (2, .int l2), (3, .int l3)] [] X 0 0 (KrI K) :=
  h (fun l0 l1 l2 l3 X => AW G M_X3_longestSighAt 13 [(0, .ref l0), (1, .int l1), (2, .int l2), (3, .int l3)] [] X 0 0 (KrI K)) (fun l0 l1 l2 l3 X h => by
    refine aw_iload_n 14 dX3_longestSighAt_13 rfl 3 rfl rfl ?_
    refine aw_iconst 15 (v := 3) dX3_longestSighAt_14 kI_3 rfl ?_
    refine aw_icmp_ge 41 18 dX3_longestSighAt_15 rfl rfl (fun c1 => ?_) (fun c1 => ?_)
    · replace h := h.1 c1
      refine aw_iload_n 42 dX3_longestSighAt_41 rfl 2 rfl rfl ?_
      refine aw_if_lt 49 45 dX3_longestSighAt_42 rfl rfl (fun c2 => ?_) (fun c2 => ?_)
      · replace h := h.1 c2
        refine aw_iconst 50 (v := -1) dX3_longestSighAt_49 kI_m1 rfl ?_
        exact aw_ireturn (ty := .int) dX3_longestSighAt_50 rfl rfl (leb rfl) (leb rfl) ⟨_, rfl, h⟩
      · replace h := h.2 c2
        refine aw_iload_n 46 dX3_longestSighAt_45 rfl 2 rfl rfl ?_
        refine aw_goto 50 dX3_longestSighAt_46 rfl ?_
        exact aw_ireturn (ty := .int) dX3_longestSighAt_50 rfl rfl (leb rfl) (leb rfl) ⟨_, rfl, h⟩
    · replace h := h.2 c1
      refine aw_iload_n 19 dX3_longestSighAt_18 rfl 2 rfl rfl ?_
      refine aw_aload_n 20 dX3_longestSighAt_19 rfl 0 rfl rfl ?_
      refine aw_iload_n 21 dX3_longestSighAt_20 rfl 1 rfl rfl ?_
      obtain ⟨g5, h⟩ := h
      refine aw_callV (M' := M_X3_lipsAt) 24 102 3 l0 [.int _] [.int _] dX3_longestSighAt_21 lk_RX3_102 mv_X3_lipsAt mp_X3_lipsAt rfl ⟨leb rfl, leb rfl⟩ rfl (ltb rfl) g5 rfl (leb rfl) (leb rfl) (leb rfl) rfl (am_X3_lipsAt hG h) (kkI fun v4 X3 h => ?_) (kxN KrI.no)
      refine aw_widen (cc' := 0) (ss' := 0) (leb rfl) (leb rfl) ?_
      refine aw_aload_n 25 dX3_longestSighAt_24 rfl 0 rfl rfl ?_
      refine aw_iload_n 26 dX3_longestSighAt_25 rfl 1 rfl rfl ?_
      refine aw_iload_n 27 dX3_longestSighAt_26 rfl 3 rfl rfl ?_
      obtain ⟨g8, h⟩ := h
      refine aw_callV (M' := M_X3_framesAt) 30 95 3 l0 [.int _, .int _] [.int _, .int _] dX3_longestSighAt_27 lk_RX3_95 mv_X3_framesAt mp_X3_framesAt rfl ⟨leb rfl, leb rfl⟩ rfl (ltb rfl) g8 rfl (leb rfl) (leb rfl) (leb rfl) rfl (am_X3_framesAt hG h) (kkI fun v7 X6 h => ?_) (kxN KrI.no)
      refine aw_widen (cc' := 0) (ss' := 0) (leb rfl) (leb rfl) ?_
      refine aw_isub 31 dX3_longestSighAt_30 rfl ?_
      refine aw_mmin 34 dX3_longestSighAt_31 mx_RX3_125 (leb rfl) (leb rfl) (leb rfl) (leb rfl) rfl ?_
      refine aw_istore_n 35 (lv' := [(2, _), (0, _), (1, _), (3, _)]) dX3_longestSighAt_34 rfl (ltb rfl) rfl rfl ?_
      refine aw_iinc 38 (v := 1) (lv' := [(3, _), (2, _), (0, _), (1, _)]) dX3_longestSighAt_35 3 rfl kI_1 (ltb rfl) rfl rfl ?_
      refine aw_goto 13 dX3_longestSighAt_38 rfl ?_
      exact aw_pick [2, 3, 1, 0] rfl h)
set_option maxRecDepth 20000 in
theorem am_X3_longestSighAt {G : GG} (hG : G.1.stackTraces = false) {l0 : Nat} {l1 : Int32} {X : XH} {K : Int32 → XH → Prop} (h : w_X3_longestSighAt l0 l1 X K) : AM G M_X3_longestSighAt X [.ref l0, .int l1] (KrI K) := AM_of (by decide +kernel) rfl (leb rfl) hG (by
  show AW G M_X3_longestSighAt 0 [(0, .ref l0), (1, .int l1)] [] X 0 0 _
  unfold w_X3_longestSighAt at h
  refine aw_bipush 2 (v := 20) dX3_longestSighAt_0 kB_20 rfl ?_
  refine aw_aload_n 3 dX3_longestSighAt_2 rfl 0 rfl rfl ?_
  refine aw_iload_n 4 dX3_longestSighAt_3 rfl 1 rfl rfl ?_
  obtain ⟨g3, h⟩ := h
  refine aw_callV (M' := M_X3_lipsAt) 7 102 3 l0 [.int _] [.int _] dX3_longestSighAt_4 lk_RX3_102 mv_X3_lipsAt mp_X3_lipsAt rfl ⟨leb rfl, leb rfl⟩ rfl (ltb rfl) g3 rfl (leb rfl) (leb rfl) (leb rfl) rfl (am_X3_lipsAt hG h) (kkI fun v2 X1 h => ?_) (kxN KrI.no)
  refine aw_widen (cc' := 0) (ss' := 0) (leb rfl) (leb rfl) ?_
  refine aw_mmin 10 dX3_longestSighAt_7 mx_RX3_125 (leb rfl) (leb rfl) (leb rfl) (leb rfl) rfl ?_
  refine aw_istore_n 11 (lv' := [(2, _), (0, _), (1, _)]) dX3_longestSighAt_10 rfl (ltb rfl) rfl rfl ?_
  refine aw_iconst 12 (v := 0) dX3_longestSighAt_11 kI_0 rfl ?_
  refine aw_istore_n 13 (lv' := [(3, _), (2, _), (0, _), (1, _)]) dX3_longestSighAt_12 rfl (ltb rfl) rfl rfl ?_
  exact aw_pick [2, 3, 1, 0] rfl (aw_X3_longestSighAt_13 hG  h))
set_option maxRecDepth 20000 in
theorem am_X4_longestSigh {G : GG} (hG : G.1.stackTraces = false) {l0 : Nat} {l1 : Int32} {X : XH} {K : Int32 → XH → Prop} {KX : String → XH → Prop} (h : w_X4_longestSigh l0 l1 X K KX) : AM G M_X4_longestSigh X [.ref l0, .int l1] (KxT (KrI K) KX) := AM_of (by decide +kernel) rfl (leb rfl) hG (by
  show AW G M_X4_longestSigh 0 [(0, .ref l0), (1, .int l1)] [] X 0 0 _
  unfold w_X4_longestSigh at h
  refine aw_aload_n 1 dX4_longestSigh_0 rfl 0 rfl rfl ?_
  refine aw_iload_n 2 dX4_longestSigh_1 rfl 1 rfl rfl ?_
  obtain ⟨g2, h⟩ := h
  refine aw_callV (M' := M_X4_checkClause) 5 75 4 l0 [.int _] [] dX4_longestSigh_2 lk_RX4_75 mv_X4_checkClause mp_X4_checkClause rfl ⟨leb rfl, leb rfl⟩ rfl (ltb rfl) g2 rfl (leb rfl) (leb rfl) (leb rfl) rfl (am_X4_checkClause hG h) (kkT (kkV fun X1 h => ?_)) (kxT KrV.no fun E X h => at_out rfl (leb rfl) (leb rfl) (Or.inr ⟨_, rfl, h⟩))
  refine aw_widen (cc' := 1) (ss' := 6) (leb rfl) (leb rfl) ?_
  refine aw_aload_n 6 dX4_longestSigh_5 rfl 0 rfl rfl ?_
  obtain ⟨g3, h⟩ := h
  obtain ⟨g4, h⟩ := h
  refine aw_getR 9 dX4_longestSigh_6 fl_RX4_10 rfl g3 g4 rfl ?_
  refine aw_iload_n 10 dX4_longestSigh_9 rfl 1 rfl rfl ?_
  obtain ⟨g7, h⟩ := h
  refine aw_callV (M' := M_X3_longestSighAt) 13 345 3 (hR X1 l0 0) [.int _] [] dX4_longestSigh_10 lk_RX4_345 mv_X3_longestSighAt mp_X3_longestSighAt rfl ⟨leb rfl, leb rfl⟩ rfl (ltb rfl) g7 rfl (leb rfl) (leb rfl) (leb rfl) rfl (am_X3_longestSighAt hG h) (kkI fun v6 X5 h => ?_) (kxN KrI.no)
  refine aw_widen (cc' := 1) (ss' := 6) (leb rfl) (leb rfl) ?_
  refine aw_istore_n 14 (lv' := [(2, _), (0, _), (1, _)]) dX4_longestSigh_13 rfl (ltb rfl) rfl rfl ?_
  refine aw_iload_n 15 dX4_longestSigh_14 rfl 0 rfl rfl ?_
  refine aw_iconst 16 (v := -1) dX4_longestSigh_15 kI_m1 rfl ?_
  refine aw_icmp_ne 30 19 dX4_longestSigh_16 rfl rfl (fun c8 => ?_) (fun c8 => ?_)
  · replace h := h.1 c8
    refine aw_iload_n 31 dX4_longestSigh_30 rfl 0 rfl rfl ?_
    exact aw_ireturn (ty := .int) dX4_longestSigh_31 rfl rfl (leb rfl) (leb rfl) (Or.inl ⟨_, rfl, h⟩)
  · replace h := h.2 c8
    exact aw_throw xcS 60 348 64 rfl th_xcS (by decide) (Or.inr ⟨dX4_longestSigh_19, dX4_longestSigh_22, dX4_longestSigh_23, dX4_longestSigh_26, dX4_longestSigh_29⟩) rfl (ltb rfl) (leb rfl) (leb rfl) (leb rfl) (Or.inr ⟨_, rfl, h⟩))
set_option maxRecDepth 20000 in
theorem am_L_longestSigh {G : GG} (hG : G.1.stackTraces = false) {l0 : Nat} {l1 : Int32} {l2 : Nat} {X : XH} {K : Int32 → XH → Prop} (h : w_L_longestSigh l0 l1 l2 X K) : AM G M_L_longestSigh X [.ref l0, .int l1, .ref l2] (KrI K) := AM_ofH (by decide +kernel) (0, 9, 12, 13) [(0, 9, 15, 17)] rfl (leb rfl) hG (by
  show AW G M_L_longestSigh 0 [(0, .ref l0), (1, .int l1), (2, .ref l2)] [] X 0 0 _
  unfold w_L_longestSigh at h
  refine aw_aload_n 1 dL_longestSigh_0 rfl 2 rfl rfl ?_
  refine aw_iconst 2 (v := 0) dL_longestSigh_1 kI_0 rfl ?_
  refine aw_aload_n 3 dL_longestSigh_2 rfl 0 rfl rfl ?_
  refine aw_iload_n 4 dL_longestSigh_3 rfl 1 rfl rfl ?_
  obtain ⟨g3, h⟩ := h
  refine aw_callV (M' := M_X4_longestSigh) 7 176 4 l0 [.int _] [.int _, .ref _] dL_longestSigh_4 lk_RL_176 mv_X4_longestSigh mp_X4_longestSigh rfl ⟨leb rfl, leb rfl⟩ rfl (ltb rfl) g3 rfl (leb rfl) (leb rfl) (leb rfl) rfl (am_X4_longestSigh hG h) (kkT (kkI fun v2 X1 h => ?_)) (kxT KrI.no fun E X1 h => ?_)
  · refine aw_widen (cc' := 2) (ss' := 12) (leb rfl) (leb rfl) ?_
    refine aw_i2l 8 dL_longestSigh_7 rfl ?_
    obtain ⟨g4, h⟩ := h
    obtain ⟨g5, h⟩ := h
    refine aw_lastore 9 dL_longestSigh_8 g4 g5 rfl ?_
    refine aw_goto 18 dL_longestSigh_9 rfl ?_
    refine aw_iconst 19 (v := 0) dL_longestSigh_18 kI_0 rfl ?_
    exact aw_ireturn (ty := .int) dL_longestSigh_19 rfl rfl (leb rfl) (leb rfl) ⟨_, rfl, h⟩
  · obtain ⟨hE, h⟩ := h
    rcases hE with rfl | rfl
    · refine aw_atc (lv' := [(0, .ref _), (1, .int _), (2, .ref _)]) [] (0, 9, 12, 13) [(0, 9, 15, 17)] rfl (fun z hz => nomatch hz) (by decide) (by decide) (tk3 (i := 61) (by decide +kernel) rfl) (by decide) 3 1 13 (Or.inl ⟨3, rfl, dL_longestSigh_12, rfl⟩) (ltb rfl) rfl ?_
      refine aw_widen (cc' := 2) (ss' := 12) (leb rfl) (leb rfl) ?_
      replace h := h.1 rfl
      refine aw_iconst 14 (v := 1) dL_longestSigh_13 kI_1 rfl ?_
      exact aw_ireturn (ty := .int) dL_longestSigh_14 rfl rfl (leb rfl) (leb rfl) ⟨_, rfl, h⟩
    · refine aw_atc (lv' := [(0, .ref _), (1, .int _), (2, .ref _)]) [(0, 9, 12, 13)] (0, 9, 15, 17) [] rfl (by intro z hz; simp only [List.mem_cons, List.not_mem_nil, or_false] at hz; rcases hz with rfl <;> first | exact ⟨by decide, xcI, tk3 (i := 61) (by decide +kernel) rfl, by decide⟩) (by decide) (by decide) (tk3 (i := 63) (by decide +kernel) rfl) (by decide) 3 1 16 (Or.inl ⟨3, rfl, dL_longestSigh_15, rfl⟩) (ltb rfl) rfl ?_
      refine aw_widen (cc' := 2) (ss' := 12) (leb rfl) (leb rfl) ?_
      replace h := h.2 rfl
      refine aw_iconst 17 (v := 2) dL_longestSigh_16 kI_2 rfl ?_
      exact aw_ireturn (ty := .int) dL_longestSigh_17 rfl rfl (leb rfl) (leb rfl) ⟨_, rfl, h⟩)
set_option maxRecDepth 20000 in
theorem aw_X5_longest_13 {G : GG} (hG : G.1.stackTraces = false)  {l0 : Nat} {l1 : Int32} {l2 : Int32} {l3 : Int32} {X : XH} {K : Int32 → XH → Prop}  (h : w_X5_longest_13  l0 l1 l2 l3 X K) : AW G M_X5_longest 13 [(0, .ref l0), (1, .int l1), (2, .int l2), (3, .int l3)] [] X 0 0 (KrI K) :=
  h (fun l0 l1 l2 l3 X => AW G M_X5_longest 13 [(0, .ref l0), (1, .int l1), (2, .int l2), (3, .int l3)] [] X 0 0 (KrI K)) (fun l0 l1 l2 l3 X h => by
    refine aw_iload_n 14 dX5_longest_13 rfl 3 rfl rfl ?_
    refine aw_iconst 15 (v := 3) dX5_longest_14 kI_3 rfl ?_
    refine aw_icmp_ge 56 18 dX5_longest_15 rfl rfl (fun c1 => ?_) (fun c1 => ?_)
    · replace h := h.1 c1
      refine aw_iload_n 57 dX5_longest_56 rfl 2 rfl rfl ?_
      refine aw_if_ge 64 60 dX5_longest_57 rfl rfl (fun c2 => ?_) (fun c2 => ?_)
      · replace h := h.1 c2
        refine aw_iload_n 65 dX5_longest_64 rfl 2 rfl rfl ?_
        refine aw_bipush 67 (v := 20) dX5_longest_65 kB_20 rfl ?_
        refine aw_icmp_le 75 70 dX5_longest_67 rfl rfl (fun c3 => ?_) (fun c3 => ?_)
        · replace h := h.1 c3
          refine aw_iload_n 76 dX5_longest_75 rfl 2 rfl rfl ?_
          exact aw_ireturn (ty := .int) dX5_longest_76 rfl rfl (leb rfl) (leb rfl) ⟨_, rfl, h⟩
        · replace h := h.2 c3
          refine aw_bipush 72 (v := 20) dX5_longest_70 kB_20 rfl ?_
          refine aw_goto 76 dX5_longest_72 rfl ?_
          exact aw_ireturn (ty := .int) dX5_longest_76 rfl rfl (leb rfl) (leb rfl) ⟨_, rfl, h⟩
      · replace h := h.2 c2
        refine aw_iconst 61 (v := -1) dX5_longest_60 kI_m1 rfl ?_
        refine aw_goto 76 dX5_longest_61 rfl ?_
        exact aw_ireturn (ty := .int) dX5_longest_76 rfl rfl (leb rfl) (leb rfl) ⟨_, rfl, h⟩
    · replace h := h.2 c1
      refine aw_aload_n 19 dX5_longest_18 rfl 0 rfl rfl ?_
      obtain ⟨g4, h⟩ := h
      obtain ⟨g5, h⟩ := h
      refine aw_getR 22 dX5_longest_19 fl_RX5_7 rfl g4 g5 rfl ?_
      refine aw_iload_n 23 dX5_longest_22 rfl 1 rfl rfl ?_
      refine aw_iconst 24 (v := 2) dX5_longest_23 kI_2 rfl ?_
      refine aw_callS (M' := M_X5_at) 27 44 [.int _, .int _] [.ref _] dX5_longest_24 lk_RX5_44 ms_X5_at mp_X5_at rfl ⟨leb rfl, leb rfl⟩ rfl (leb rfl) (leb rfl) (leb rfl) rfl (am_X5_at hG h) (kkI fun v7 X6 h => ?_) (kxN KrI.no)
      refine aw_widen (cc' := 0) (ss' := 0) (leb rfl) (leb rfl) ?_
      obtain ⟨g8, h⟩ := h
      obtain ⟨g9, h⟩ := h
      refine aw_iaload 28 dX5_longest_27 g8 g9 rfl ?_
      refine aw_aload_n 29 dX5_longest_28 rfl 0 rfl rfl ?_
      refine aw_iload_n 30 dX5_longest_29 rfl 1 rfl rfl ?_
      refine aw_iload_n 31 dX5_longest_30 rfl 3 rfl rfl ?_
      obtain ⟨g12, h⟩ := h
      refine aw_callV (M' := M_X5_frames) 34 48 5 l0 [.int _, .int _] [.int _] dX5_longest_31 lk_RX5_48 mv_X5_frames mp_X5_frames rfl ⟨leb rfl, leb rfl⟩ rfl (ltb rfl) g12 rfl (leb rfl) (leb rfl) (leb rfl) rfl (am_X5_frames hG h) (kkI fun v11 X10 h => ?_) (kxN KrI.no)
      refine aw_widen (cc' := 0) (ss' := 0) (leb rfl) (leb rfl) ?_
      refine aw_isub 35 dX5_longest_34 rfl ?_
      refine aw_istore 37 (lv' := [(4, _), (0, _), (1, _), (2, _), (3, _)]) dX5_longest_35 (ltb rfl) rfl rfl ?_
      refine aw_iload 39 dX5_longest_37 0 rfl rfl ?_
      refine aw_iload_n 40 dX5_longest_39 rfl 3 rfl rfl ?_
      refine aw_icmp_ge 48 43 dX5_longest_40 rfl rfl (fun c13 => ?_) (fun c13 => ?_)
      · replace h := h.1 c13
        refine aw_iload_n 49 dX5_longest_48 rfl 3 rfl rfl ?_
        refine aw_istore_n 50 (lv' := [(2, _), (4, _), (0, _), (1, _), (3, _)]) dX5_longest_49 rfl (ltb rfl) rfl rfl ?_
        refine aw_iinc 53 (v := 1) (lv' := [(3, _), (2, _), (4, _), (0, _), (1, _)]) dX5_longest_50 4 rfl kI_1 (ltb rfl) rfl rfl ?_
        refine aw_goto 13 dX5_longest_53 rfl ?_
        exact aw_pick [3, 4, 1, 0] rfl h
      · replace h := h.2 c13
        refine aw_iload 45 dX5_longest_43 0 rfl rfl ?_
        refine aw_goto 49 dX5_longest_45 rfl ?_
        refine aw_istore_n 50 (lv' := [(2, _), (4, _), (0, _), (1, _), (3, _)]) dX5_longest_49 rfl (ltb rfl) rfl rfl ?_
        refine aw_iinc 53 (v := 1) (lv' := [(3, _), (2, _), (4, _), (0, _), (1, _)]) dX5_longest_50 4 rfl kI_1 (ltb rfl) rfl rfl ?_
        refine aw_goto 13 dX5_longest_53 rfl ?_
        exact aw_pick [3, 4, 1, 0] rfl h)
set_option maxRecDepth 20000 in
theorem am_X5_longest {G : GG} (hG : G.1.stackTraces = false) {l0 : Nat} {l1 : Int32} {X : XH} {K : Int32 → XH → Prop} (h : w_X5_longest l0 l1 X K) : AM G M_X5_longest X [.ref l0, .int l1] (KrI K) := AM_of (by decide +kernel) rfl (leb rfl) hG (by
  show AW G M_X5_longest 0 [(0, .ref l0), (1, .int l1)] [] X 0 0 _
  unfold w_X5_longest at h
  refine aw_aload_n 1 dX5_longest_0 rfl 0 rfl rfl ?_
  obtain ⟨g1, h⟩ := h
  obtain ⟨g2, h⟩ := h
  refine aw_getR 4 dX5_longest_1 fl_RX5_7 rfl g1 g2 rfl ?_
  refine aw_iload_n 5 dX5_longest_4 rfl 1 rfl rfl ?_
  refine aw_iconst 6 (v := 2) dX5_longest_5 kI_2 rfl ?_
  refine aw_callS (M' := M_X5_at) 9 44 [.int _, .int _] [.ref _] dX5_longest_6 lk_RX5_44 ms_X5_at mp_X5_at rfl ⟨leb rfl, leb rfl⟩ rfl (leb rfl) (leb rfl) (leb rfl) rfl (am_X5_at hG h) (kkI fun v4 X3 h => ?_) (kxN KrI.no)
  refine aw_widen (cc' := 0) (ss' := 0) (leb rfl) (leb rfl) ?_
  obtain ⟨g5, h⟩ := h
  obtain ⟨g6, h⟩ := h
  refine aw_iaload 10 dX5_longest_9 g5 g6 rfl ?_
  refine aw_istore_n 11 (lv' := [(2, _), (0, _), (1, _)]) dX5_longest_10 rfl (ltb rfl) rfl rfl ?_
  refine aw_iconst 12 (v := 0) dX5_longest_11 kI_0 rfl ?_
  refine aw_istore_n 13 (lv' := [(3, _), (2, _), (0, _), (1, _)]) dX5_longest_12 rfl (ltb rfl) rfl rfl ?_
  exact aw_pick [2, 3, 1, 0] rfl (aw_X5_longest_13 hG  h))
set_option maxRecDepth 20000 in
theorem aw_X5_longestSigh_26 {G : GG} (hG : G.1.stackTraces = false)  {l0 : Nat} {l1 : Int32} {s0 : Nat} {s1 : Int32} {X : XH} {K : Int32 → XH → Prop}  (h : w_X5_longestSigh_26  l0 l1 s0 s1 X K) : AW G M_X5_longestSigh 26 [(0, .ref l0), (1, .int l1)] [.int s1, .ref s0] X 0 0 (KrI K) := by
  unfold w_X5_longestSigh_26 at h
  obtain ⟨g3, h⟩ := h
  refine aw_callV (M' := M_X5_refused) 29 81 5 s0 [.int _] [] dX5_longestSigh_26 lk_RX5_81 mv_X5_refused mp_X5_refused rfl ⟨leb rfl, leb rfl⟩ rfl (ltb rfl) g3 rfl (leb rfl) (leb rfl) (leb rfl) rfl (am_X5_refused hG h) (kkI fun v2 X1 h => ?_) (kxN KrI.no)
  refine aw_widen (cc' := 0) (ss' := 0) (leb rfl) (leb rfl) ?_
  refine aw_if_eq 36 32 dX5_longestSigh_29 rfl rfl (fun c4 => ?_) (fun c4 => ?_)
  · replace h := h.1 c4
    refine aw_aload_n 37 dX5_longestSigh_36 rfl 0 rfl rfl ?_
    refine aw_iload_n 38 dX5_longestSigh_37 rfl 1 rfl rfl ?_
    obtain ⟨g7, h⟩ := h
    refine aw_callV (M' := M_X5_longest) 41 218 5 l0 [.int _] [] dX5_longestSigh_38 lk_RX5_218 mv_X5_longest mp_X5_longest rfl ⟨leb rfl, leb rfl⟩ rfl (ltb rfl) g7 rfl (leb rfl) (leb rfl) (leb rfl) rfl (am_X5_longest hG h) (kkI fun v6 X5 h => ?_) (kxN KrI.no)
    refine aw_widen (cc' := 0) (ss' := 0) (leb rfl) (leb rfl) ?_
    exact aw_ireturn (ty := .int) dX5_longestSigh_41 rfl rfl (leb rfl) (leb rfl) ⟨_, rfl, h⟩
  · replace h := h.2 c4
    refine aw_iconst 33 (v := 0) dX5_longestSigh_32 kI_0 rfl ?_
    refine aw_goto 41 dX5_longestSigh_33 rfl ?_
    exact aw_ireturn (ty := .int) dX5_longestSigh_41 rfl rfl (leb rfl) (leb rfl) ⟨_, rfl, h⟩
set_option maxRecDepth 20000 in
theorem am_X5_longestSigh {G : GG} (hG : G.1.stackTraces = false) {l0 : Nat} {l1 : Int32} {X : XH} {K : Int32 → XH → Prop} (h : w_X5_longestSigh l0 l1 X K) : AM G M_X5_longestSigh X [.ref l0, .int l1] (KrI K) := AM_of (by decide +kernel) rfl (leb rfl) hG (by
  show AW G M_X5_longestSigh 0 [(0, .ref l0), (1, .int l1)] [] X 0 0 _
  unfold w_X5_longestSigh at h
  refine aw_aload_n 1 dX5_longestSigh_0 rfl 0 rfl rfl ?_
  refine aw_aload_n 2 dX5_longestSigh_1 rfl 0 rfl rfl ?_
  refine aw_iload_n 3 dX5_longestSigh_2 rfl 1 rfl rfl ?_
  obtain ⟨g3, h⟩ := h
  refine aw_callV (M' := M_X5_isClause) 6 34 5 l0 [.int _] [.ref _] dX5_longestSigh_3 lk_RX5_34 mv_X5_isClause mp_X5_isClause rfl ⟨leb rfl, leb rfl⟩ rfl (ltb rfl) g3 rfl (leb rfl) (leb rfl) (leb rfl) rfl (am_X5_isClause hG h) (kkI fun v2 X1 h => ?_) (kxN KrI.no)
  refine aw_widen (cc' := 0) (ss' := 0) (leb rfl) (leb rfl) ?_
  refine aw_if_ne 13 9 dX5_longestSigh_6 rfl rfl (fun c4 => ?_) (fun c4 => ?_)
  · replace h := h.1 c4
    refine aw_aload_n 14 dX5_longestSigh_13 rfl 0 rfl rfl ?_
    refine aw_iload_n 15 dX5_longestSigh_14 rfl 1 rfl rfl ?_
    obtain ⟨g7, h⟩ := h
    refine aw_callV (M' := M_X5_longest) 18 218 5 l0 [.int _] [.ref _] dX5_longestSigh_15 lk_RX5_218 mv_X5_longest mp_X5_longest rfl ⟨leb rfl, leb rfl⟩ rfl (ltb rfl) g7 rfl (leb rfl) (leb rfl) (leb rfl) rfl (am_X5_longest hG h) (kkI fun v6 X5 h => ?_) (kxN KrI.no)
    refine aw_widen (cc' := 0) (ss' := 0) (leb rfl) (leb rfl) ?_
    refine aw_if_ge 25 21 dX5_longestSigh_18 rfl rfl (fun c8 => ?_) (fun c8 => ?_)
    · replace h := h.1 c8
      refine aw_iconst 26 (v := 0) dX5_longestSigh_25 kI_0 rfl ?_
      exact aw_pick [0, 1] rfl (aw_X5_longestSigh_26 hG  h)
    · replace h := h.2 c8
      refine aw_iconst 22 (v := 2) dX5_longestSigh_21 kI_2 rfl ?_
      refine aw_goto 26 dX5_longestSigh_22 rfl ?_
      exact aw_pick [0, 1] rfl (aw_X5_longestSigh_26 hG  h)
  · replace h := h.2 c4
    refine aw_iconst 10 (v := 1) dX5_longestSigh_9 kI_1 rfl ?_
    refine aw_goto 26 dX5_longestSigh_10 rfl ?_
    exact aw_pick [0, 1] rfl (aw_X5_longestSigh_26 hG  h))
set_option maxRecDepth 20000 in
theorem aw_X3_longestToTake_4 {G : GG} (hG : G.1.stackTraces = false)  {l0 : Nat} {l1 : Int32} {l2 : Int32} {l3 : Int32} {X : XH} {K : Int32 → XH → Prop}  (h : w_X3_longestToTake_4  l0 l1 l2 l3 X K) : AW G M_X3_longestToTake 4 [(0, .ref l0), (1, .int l1), (2, .int l2), (3, .int l3)] [] X 0 0 (KrI K) :=
  h (fun l0 l1 l2 l3 X => AW G M_X3_longestToTake 4 [(0, .ref l0), (1, .int l1), (2, .int l2), (3, .int l3)] [] X 0 0 (KrI K)) (fun l0 l1 l2 l3 X h => by
    refine aw_iload_n 5 dX3_longestToTake_4 rfl 3 rfl rfl ?_
    refine aw_aload_n 6 dX3_longestToTake_5 rfl 0 rfl rfl ?_
    obtain ⟨g1, h⟩ := h
    refine aw_getI 9 dX3_longestToTake_6 fl_RX3_45 rfl g1 rfl ?_
    refine aw_icmp_ge 49 12 dX3_longestToTake_9 rfl rfl (fun c2 => ?_) (fun c2 => ?_)
    · replace h := h.1 c2
      refine aw_iload_n 50 dX3_longestToTake_49 rfl 2 rfl rfl ?_
      exact aw_ireturn (ty := .int) dX3_longestToTake_50 rfl rfl (leb rfl) (leb rfl) ⟨_, rfl, h⟩
    · replace h := h.2 c2
      refine aw_aload_n 13 dX3_longestToTake_12 rfl 0 rfl rfl ?_
      refine aw_iload_n 14 dX3_longestToTake_13 rfl 3 rfl rfl ?_
      refine aw_iload_n 15 dX3_longestToTake_14 rfl 1 rfl rfl ?_
      refine aw_callV (M' := M_X3_reasonAt) 18 178 3 l0 [.int _, .int _] [] dX3_longestToTake_15 lk_RX3_178 mv_X3_reasonAt mp_X3_reasonAt rfl ⟨leb rfl, leb rfl⟩ rfl (ltb rfl) g1 rfl (leb rfl) (leb rfl) (leb rfl) rfl (am_X3_reasonAt hG h) (kkI fun v4 X3 h => ?_) (kxN KrI.no)
      refine aw_widen (cc' := 0) (ss' := 0) (leb rfl) (leb rfl) ?_
      refine aw_if_ne 43 21 dX3_longestToTake_18 rfl rfl (fun c5 => ?_) (fun c5 => ?_)
      · replace h := h.1 c5
        refine aw_iinc 46 (v := 1) (lv' := [(3, _), (0, _), (1, _), (2, _)]) dX3_longestToTake_43 3 rfl kI_1 (ltb rfl) rfl rfl ?_
        refine aw_goto 4 dX3_longestToTake_46 rfl ?_
        exact aw_pick [1, 2, 3, 0] rfl h
      · replace h := h.2 c5
        refine aw_iload_n 22 dX3_longestToTake_21 rfl 2 rfl rfl ?_
        refine aw_iconst 23 (v := -1) dX3_longestToTake_22 kI_m1 rfl ?_
        refine aw_icmp_eq 41 26 dX3_longestToTake_23 rfl rfl (fun c6 => ?_) (fun c6 => ?_)
        · replace h := h.1 c6
          refine aw_iload_n 42 dX3_longestToTake_41 rfl 3 rfl rfl ?_
          refine aw_istore_n 43 (lv' := [(2, _), (0, _), (1, _), (3, _)]) dX3_longestToTake_42 rfl (ltb rfl) rfl rfl ?_
          refine aw_iinc 46 (v := 1) (lv' := [(3, _), (2, _), (0, _), (1, _)]) dX3_longestToTake_43 3 rfl kI_1 (ltb rfl) rfl rfl ?_
          refine aw_goto 4 dX3_longestToTake_46 rfl ?_
          exact aw_pick [2, 3, 1, 0] rfl h
        · replace h := h.2 c6
          refine aw_aload_n 27 dX3_longestToTake_26 rfl 0 rfl rfl ?_
          refine aw_iload_n 28 dX3_longestToTake_27 rfl 3 rfl rfl ?_
          refine aw_iload_n 29 dX3_longestToTake_28 rfl 1 rfl rfl ?_
          obtain ⟨g9, h⟩ := h
          refine aw_callV (M' := M_X3_spokenAt) 32 85 3 l0 [.int _, .int _] [] dX3_longestToTake_29 lk_RX3_85 mv_X3_spokenAt mp_X3_spokenAt rfl ⟨leb rfl, leb rfl⟩ rfl (ltb rfl) g9 rfl (leb rfl) (leb rfl) (leb rfl) rfl (am_X3_spokenAt hG h) (kkI fun v8 X7 h => ?_) (kxN KrI.no)
          refine aw_widen (cc' := 0) (ss' := 0) (leb rfl) (leb rfl) ?_
          refine aw_aload_n 33 dX3_longestToTake_32 rfl 0 rfl rfl ?_
          refine aw_iload_n 34 dX3_longestToTake_33 rfl 2 rfl rfl ?_
          refine aw_iload_n 35 dX3_longestToTake_34 rfl 1 rfl rfl ?_
          obtain ⟨g12, h⟩ := h
          refine aw_callV (M' := M_X3_spokenAt) 38 85 3 l0 [.int _, .int _] [.int _] dX3_longestToTake_35 lk_RX3_85 mv_X3_spokenAt mp_X3_spokenAt rfl ⟨leb rfl, leb rfl⟩ rfl (ltb rfl) g12 rfl (leb rfl) (leb rfl) (leb rfl) rfl (am_X3_spokenAt hG h) (kkI fun v11 X10 h => ?_) (kxN KrI.no)
          refine aw_widen (cc' := 0) (ss' := 0) (leb rfl) (leb rfl) ?_
          refine aw_icmp_le 43 41 dX3_longestToTake_38 rfl rfl (fun c13 => ?_) (fun c13 => ?_)
          · replace h := h.1 c13
            refine aw_iinc 46 (v := 1) (lv' := [(3, _), (0, _), (1, _), (2, _)]) dX3_longestToTake_43 3 rfl kI_1 (ltb rfl) rfl rfl ?_
            refine aw_goto 4 dX3_longestToTake_46 rfl ?_
            exact aw_pick [1, 2, 3, 0] rfl h
          · replace h := h.2 c13
            refine aw_iload_n 42 dX3_longestToTake_41 rfl 3 rfl rfl ?_
            refine aw_istore_n 43 (lv' := [(2, _), (0, _), (1, _), (3, _)]) dX3_longestToTake_42 rfl (ltb rfl) rfl rfl ?_
            refine aw_iinc 46 (v := 1) (lv' := [(3, _), (2, _), (0, _), (1, _)]) dX3_longestToTake_43 3 rfl kI_1 (ltb rfl) rfl rfl ?_
            refine aw_goto 4 dX3_longestToTake_46 rfl ?_
            exact aw_pick [2, 3, 1, 0] rfl h)
set_option maxRecDepth 20000 in
theorem am_X3_longestToTake {G : GG} (hG : G.1.stackTraces = false) {l0 : Nat} {l1 : Int32} {X : XH} {K : Int32 → XH → Prop} (h : w_X3_longestToTake l0 l1 X K) : AM G M_X3_longestToTake X [.ref l0, .int l1] (KrI K) := AM_of (by decide +kernel) rfl (leb rfl) hG (by
  show AW G M_X3_longestToTake 0 [(0, .ref l0), (1, .int l1)] [] X 0 0 _
  unfold w_X3_longestToTake at h
  refine aw_iconst 1 (v := -1) dX3_longestToTake_0 kI_m1 rfl ?_
  refine aw_istore_n 2 (lv' := [(2, _), (0, _), (1, _)]) dX3_longestToTake_1 rfl (ltb rfl) rfl rfl ?_
  refine aw_iconst 3 (v := 0) dX3_longestToTake_2 kI_0 rfl ?_
  refine aw_istore_n 4 (lv' := [(3, _), (2, _), (0, _), (1, _)]) dX3_longestToTake_3 rfl (ltb rfl) rfl rfl ?_
  exact aw_pick [2, 3, 1, 0] rfl (aw_X3_longestToTake_4 hG  h))
set_option maxRecDepth 20000 in
theorem am_X4_nextClause {G : GG} (hG : G.1.stackTraces = false) {l0 : Nat} {l1 : Int32} {X : XH} {K : Int32 → XH → Prop} {KX : String → XH → Prop} (h : w_X4_nextClause l0 l1 X K KX) : AM G M_X4_nextClause X [.ref l0, .int l1] (KxT (KrI K) KX) := AM_of (by decide +kernel) rfl (leb rfl) hG (by
  show AW G M_X4_nextClause 0 [(0, .ref l0), (1, .int l1)] [] X 0 0 _
  unfold w_X4_nextClause at h
  refine aw_iload_n 1 dX4_nextClause_0 rfl 1 rfl rfl ?_
  refine aw_callS (M' := M_X4_checkTongue) 4 195 [.int _] [] dX4_nextClause_1 lk_RX4_195 ms_X4_checkTongue mp_X4_checkTongue rfl ⟨leb rfl, leb rfl⟩ rfl (leb rfl) (leb rfl) (leb rfl) rfl (am_X4_checkTongue hG h) (kkT (kkV fun X1 h => ?_)) (kxT KrV.no fun E X h => at_out rfl (leb rfl) (leb rfl) (Or.inr ⟨_, rfl, h⟩))
  refine aw_widen (cc' := 1) (ss' := 6) (leb rfl) (leb rfl) ?_
  refine aw_aload_n 5 dX4_nextClause_4 rfl 0 rfl rfl ?_
  obtain ⟨g2, h⟩ := h
  obtain ⟨g3, h⟩ := h
  refine aw_getR 8 dX4_nextClause_5 fl_RX4_10 rfl g2 g3 rfl ?_
  refine aw_iload_n 9 dX4_nextClause_8 rfl 1 rfl rfl ?_
  obtain ⟨g6, h⟩ := h
  refine aw_callV (M' := M_X3_longestToTake) 12 350 3 (hR X1 l0 0) [.int _] [] dX4_nextClause_9 lk_RX4_350 mv_X3_longestToTake mp_X3_longestToTake rfl ⟨leb rfl, leb rfl⟩ rfl (ltb rfl) g6 rfl (leb rfl) (leb rfl) (leb rfl) rfl (am_X3_longestToTake hG h) (kkI fun v5 X4 h => ?_) (kxN KrI.no)
  refine aw_widen (cc' := 1) (ss' := 6) (leb rfl) (leb rfl) ?_
  refine aw_istore_n 13 (lv' := [(2, _), (0, _), (1, _)]) dX4_nextClause_12 rfl (ltb rfl) rfl rfl ?_
  refine aw_iload_n 14 dX4_nextClause_13 rfl 0 rfl rfl ?_
  refine aw_iconst 15 (v := -1) dX4_nextClause_14 kI_m1 rfl ?_
  refine aw_icmp_ne 29 18 dX4_nextClause_15 rfl rfl (fun c7 => ?_) (fun c7 => ?_)
  · replace h := h.1 c7
    refine aw_iload_n 30 dX4_nextClause_29 rfl 0 rfl rfl ?_
    exact aw_ireturn (ty := .int) dX4_nextClause_30 rfl rfl (leb rfl) (leb rfl) (Or.inl ⟨_, rfl, h⟩)
  · replace h := h.2 c7
    exact aw_throw xcS 60 353 64 rfl th_xcS (by decide) (Or.inr ⟨dX4_nextClause_18, dX4_nextClause_21, dX4_nextClause_22, dX4_nextClause_25, dX4_nextClause_28⟩) rfl (ltb rfl) (leb rfl) (leb rfl) (leb rfl) (Or.inr ⟨_, rfl, h⟩))
set_option maxRecDepth 20000 in
theorem am_L_nextClause {G : GG} (hG : G.1.stackTraces = false) {l0 : Nat} {l1 : Int32} {l2 : Nat} {X : XH} {K : Int32 → XH → Prop} (h : w_L_nextClause l0 l1 l2 X K) : AM G M_L_nextClause X [.ref l0, .int l1, .ref l2] (KrI K) := AM_ofH (by decide +kernel) (0, 9, 12, 13) [(0, 9, 15, 17)] rfl (leb rfl) hG (by
  show AW G M_L_nextClause 0 [(0, .ref l0), (1, .int l1), (2, .ref l2)] [] X 0 0 _
  unfold w_L_nextClause at h
  refine aw_aload_n 1 dL_nextClause_0 rfl 2 rfl rfl ?_
  refine aw_iconst 2 (v := 0) dL_nextClause_1 kI_0 rfl ?_
  refine aw_aload_n 3 dL_nextClause_2 rfl 0 rfl rfl ?_
  refine aw_iload_n 4 dL_nextClause_3 rfl 1 rfl rfl ?_
  obtain ⟨g3, h⟩ := h
  refine aw_callV (M' := M_X4_nextClause) 7 179 4 l0 [.int _] [.int _, .ref _] dL_nextClause_4 lk_RL_179 mv_X4_nextClause mp_X4_nextClause rfl ⟨leb rfl, leb rfl⟩ rfl (ltb rfl) g3 rfl (leb rfl) (leb rfl) (leb rfl) rfl (am_X4_nextClause hG h) (kkT (kkI fun v2 X1 h => ?_)) (kxT KrI.no fun E X1 h => ?_)
  · refine aw_widen (cc' := 2) (ss' := 12) (leb rfl) (leb rfl) ?_
    refine aw_i2l 8 dL_nextClause_7 rfl ?_
    obtain ⟨g4, h⟩ := h
    obtain ⟨g5, h⟩ := h
    refine aw_lastore 9 dL_nextClause_8 g4 g5 rfl ?_
    refine aw_goto 18 dL_nextClause_9 rfl ?_
    refine aw_iconst 19 (v := 0) dL_nextClause_18 kI_0 rfl ?_
    exact aw_ireturn (ty := .int) dL_nextClause_19 rfl rfl (leb rfl) (leb rfl) ⟨_, rfl, h⟩
  · obtain ⟨hE, h⟩ := h
    rcases hE with rfl | rfl
    · refine aw_atc (lv' := [(0, .ref _), (1, .int _), (2, .ref _)]) [] (0, 9, 12, 13) [(0, 9, 15, 17)] rfl (fun z hz => nomatch hz) (by decide) (by decide) (tk3 (i := 61) (by decide +kernel) rfl) (by decide) 3 1 13 (Or.inl ⟨3, rfl, dL_nextClause_12, rfl⟩) (ltb rfl) rfl ?_
      refine aw_widen (cc' := 2) (ss' := 12) (leb rfl) (leb rfl) ?_
      replace h := h.1 rfl
      refine aw_iconst 14 (v := 1) dL_nextClause_13 kI_1 rfl ?_
      exact aw_ireturn (ty := .int) dL_nextClause_14 rfl rfl (leb rfl) (leb rfl) ⟨_, rfl, h⟩
    · refine aw_atc (lv' := [(0, .ref _), (1, .int _), (2, .ref _)]) [(0, 9, 12, 13)] (0, 9, 15, 17) [] rfl (by intro z hz; simp only [List.mem_cons, List.not_mem_nil, or_false] at hz; rcases hz with rfl <;> first | exact ⟨by decide, xcI, tk3 (i := 61) (by decide +kernel) rfl, by decide⟩) (by decide) (by decide) (tk3 (i := 63) (by decide +kernel) rfl) (by decide) 3 1 16 (Or.inl ⟨3, rfl, dL_nextClause_15, rfl⟩) (ltb rfl) rfl ?_
      refine aw_widen (cc' := 2) (ss' := 12) (leb rfl) (leb rfl) ?_
      replace h := h.2 rfl
      refine aw_iconst 17 (v := 2) dL_nextClause_16 kI_2 rfl ?_
      exact aw_ireturn (ty := .int) dL_nextClause_17 rfl rfl (leb rfl) (leb rfl) ⟨_, rfl, h⟩)
set_option maxRecDepth 20000 in
theorem aw_X5_nextOne_4 {G : GG} (hG : G.1.stackTraces = false)  {l0 : Nat} {l1 : Int32} {l2 : Int32} {l3 : Int32} {X : XH} {K : Int32 → XH → Prop}  (h : w_X5_nextOne_4  l0 l1 l2 l3 X K) : AW G M_X5_nextOne 4 [(0, .ref l0), (1, .int l1), (2, .int l2), (3, .int l3)] [] X 0 0 (KrI K) :=
  h (fun l0 l1 l2 l3 X => AW G M_X5_nextOne 4 [(0, .ref l0), (1, .int l1), (2, .int l2), (3, .int l3)] [] X 0 0 (KrI K)) (fun l0 l1 l2 l3 X h => by
    refine aw_iload_n 5 dX5_nextOne_4 rfl 3 rfl rfl ?_
    refine aw_aload_n 6 dX5_nextOne_5 rfl 0 rfl rfl ?_
    obtain ⟨g1, h⟩ := h
    obtain ⟨g2, h⟩ := h
    refine aw_getR 9 dX5_nextOne_6 fl_RX5_7 rfl g1 g2 rfl ?_
    refine aw_sipush 12 (v := 366) dX5_nextOne_9 kS_366 rfl ?_
    obtain ⟨g3, h⟩ := h
    obtain ⟨g4, h⟩ := h
    refine aw_iaload 13 dX5_nextOne_12 g3 g4 rfl ?_
    refine aw_icmp_ge 56 16 dX5_nextOne_13 rfl rfl (fun c5 => ?_) (fun c5 => ?_)
    · replace h := h.1 c5
      refine aw_iload_n 57 dX5_nextOne_56 rfl 2 rfl rfl ?_
      exact aw_ireturn (ty := .int) dX5_nextOne_57 rfl rfl (leb rfl) (leb rfl) ⟨_, rfl, h⟩
    · replace h := h.2 c5
      refine aw_aload_n 17 dX5_nextOne_16 rfl 0 rfl rfl ?_
      refine aw_iload_n 18 dX5_nextOne_17 rfl 3 rfl rfl ?_
      refine aw_iload_n 19 dX5_nextOne_18 rfl 1 rfl rfl ?_
      refine aw_callV (M' := M_X5_reason) 22 68 5 l0 [.int _, .int _] [] dX5_nextOne_19 lk_RX5_68 mv_X5_reason mp_X5_reason rfl ⟨leb rfl, leb rfl⟩ rfl (ltb rfl) g1 rfl (leb rfl) (leb rfl) (leb rfl) rfl (am_X5_reason hG h) (kkI fun v7 X6 h => ?_) (kxN KrI.no)
      refine aw_widen (cc' := 0) (ss' := 0) (leb rfl) (leb rfl) ?_
      refine aw_if_ne 48 25 dX5_nextOne_22 rfl rfl (fun c8 => ?_) (fun c8 => ?_)
      · replace h := h.1 c8
        refine aw_iload_n 49 dX5_nextOne_48 rfl 2 rfl rfl ?_
        refine aw_istore_n 50 (lv' := [(2, _), (0, _), (1, _), (3, _)]) dX5_nextOne_49 rfl (ltb rfl) rfl rfl ?_
        refine aw_iinc 53 (v := 1) (lv' := [(3, _), (2, _), (0, _), (1, _)]) dX5_nextOne_50 3 rfl kI_1 (ltb rfl) rfl rfl ?_
        refine aw_goto 4 dX5_nextOne_53 rfl ?_
        exact aw_pick [2, 3, 1, 0] rfl h
      · replace h := h.2 c8
        refine aw_iload_n 26 dX5_nextOne_25 rfl 2 rfl rfl ?_
        refine aw_if_lt 44 29 dX5_nextOne_26 rfl rfl (fun c9 => ?_) (fun c9 => ?_)
        · replace h := h.1 c9
          refine aw_iload_n 45 dX5_nextOne_44 rfl 3 rfl rfl ?_
          refine aw_goto 49 dX5_nextOne_45 rfl ?_
          refine aw_istore_n 50 (lv' := [(2, _), (0, _), (1, _), (3, _)]) dX5_nextOne_49 rfl (ltb rfl) rfl rfl ?_
          refine aw_iinc 53 (v := 1) (lv' := [(3, _), (2, _), (0, _), (1, _)]) dX5_nextOne_50 3 rfl kI_1 (ltb rfl) rfl rfl ?_
          refine aw_goto 4 dX5_nextOne_53 rfl ?_
          exact aw_pick [2, 3, 1, 0] rfl h
        · replace h := h.2 c9
          refine aw_aload_n 30 dX5_nextOne_29 rfl 0 rfl rfl ?_
          refine aw_iload_n 31 dX5_nextOne_30 rfl 3 rfl rfl ?_
          refine aw_iload_n 32 dX5_nextOne_31 rfl 1 rfl rfl ?_
          obtain ⟨g12, h⟩ := h
          refine aw_callV (M' := M_X5_both) 35 59 5 l0 [.int _, .int _] [] dX5_nextOne_32 lk_RX5_59 mv_X5_both mp_X5_both rfl ⟨leb rfl, leb rfl⟩ rfl (ltb rfl) g12 rfl (leb rfl) (leb rfl) (leb rfl) rfl (am_X5_both hG h) (kkI fun v11 X10 h => ?_) (kxN KrI.no)
          refine aw_widen (cc' := 0) (ss' := 0) (leb rfl) (leb rfl) ?_
          refine aw_aload_n 36 dX5_nextOne_35 rfl 0 rfl rfl ?_
          refine aw_iload_n 37 dX5_nextOne_36 rfl 2 rfl rfl ?_
          refine aw_iload_n 38 dX5_nextOne_37 rfl 1 rfl rfl ?_
          obtain ⟨g15, h⟩ := h
          refine aw_callV (M' := M_X5_both) 41 59 5 l0 [.int _, .int _] [.int _] dX5_nextOne_38 lk_RX5_59 mv_X5_both mp_X5_both rfl ⟨leb rfl, leb rfl⟩ rfl (ltb rfl) g15 rfl (leb rfl) (leb rfl) (leb rfl) rfl (am_X5_both hG h) (kkI fun v14 X13 h => ?_) (kxN KrI.no)
          refine aw_widen (cc' := 0) (ss' := 0) (leb rfl) (leb rfl) ?_
          refine aw_icmp_le 48 44 dX5_nextOne_41 rfl rfl (fun c16 => ?_) (fun c16 => ?_)
          · replace h := h.1 c16
            refine aw_iload_n 49 dX5_nextOne_48 rfl 2 rfl rfl ?_
            refine aw_istore_n 50 (lv' := [(2, _), (0, _), (1, _), (3, _)]) dX5_nextOne_49 rfl (ltb rfl) rfl rfl ?_
            refine aw_iinc 53 (v := 1) (lv' := [(3, _), (2, _), (0, _), (1, _)]) dX5_nextOne_50 3 rfl kI_1 (ltb rfl) rfl rfl ?_
            refine aw_goto 4 dX5_nextOne_53 rfl ?_
            exact aw_pick [2, 3, 1, 0] rfl h
          · replace h := h.2 c16
            refine aw_iload_n 45 dX5_nextOne_44 rfl 3 rfl rfl ?_
            refine aw_goto 49 dX5_nextOne_45 rfl ?_
            refine aw_istore_n 50 (lv' := [(2, _), (0, _), (1, _), (3, _)]) dX5_nextOne_49 rfl (ltb rfl) rfl rfl ?_
            refine aw_iinc 53 (v := 1) (lv' := [(3, _), (2, _), (0, _), (1, _)]) dX5_nextOne_50 3 rfl kI_1 (ltb rfl) rfl rfl ?_
            refine aw_goto 4 dX5_nextOne_53 rfl ?_
            exact aw_pick [2, 3, 1, 0] rfl h)
set_option maxRecDepth 20000 in
theorem am_X5_nextOne {G : GG} (hG : G.1.stackTraces = false) {l0 : Nat} {l1 : Int32} {X : XH} {K : Int32 → XH → Prop} (h : w_X5_nextOne l0 l1 X K) : AM G M_X5_nextOne X [.ref l0, .int l1] (KrI K) := AM_of (by decide +kernel) rfl (leb rfl) hG (by
  show AW G M_X5_nextOne 0 [(0, .ref l0), (1, .int l1)] [] X 0 0 _
  unfold w_X5_nextOne at h
  refine aw_iconst 1 (v := -1) dX5_nextOne_0 kI_m1 rfl ?_
  refine aw_istore_n 2 (lv' := [(2, _), (0, _), (1, _)]) dX5_nextOne_1 rfl (ltb rfl) rfl rfl ?_
  refine aw_iconst 3 (v := 0) dX5_nextOne_2 kI_0 rfl ?_
  refine aw_istore_n 4 (lv' := [(3, _), (2, _), (0, _), (1, _)]) dX5_nextOne_3 rfl (ltb rfl) rfl rfl ?_
  exact aw_pick [2, 3, 1, 0] rfl (aw_X5_nextOne_4 hG  h))
set_option maxRecDepth 20000 in
theorem aw_X5_nextClause_25 {G : GG} (hG : G.1.stackTraces = false)  {l0 : Nat} {l1 : Int32} {s0 : Nat} {s1 : Int32} {X : XH} {K : Int32 → XH → Prop}  (h : w_X5_nextClause_25  l0 l1 s0 s1 X K) : AW G M_X5_nextClause 25 [(0, .ref l0), (1, .int l1)] [.int s1, .ref s0] X 0 0 (KrI K) := by
  unfold w_X5_nextClause_25 at h
  obtain ⟨g3, h⟩ := h
  refine aw_callV (M' := M_X5_refused) 28 81 5 s0 [.int _] [] dX5_nextClause_25 lk_RX5_81 mv_X5_refused mp_X5_refused rfl ⟨leb rfl, leb rfl⟩ rfl (ltb rfl) g3 rfl (leb rfl) (leb rfl) (leb rfl) rfl (am_X5_refused hG h) (kkI fun v2 X1 h => ?_) (kxN KrI.no)
  refine aw_widen (cc' := 0) (ss' := 0) (leb rfl) (leb rfl) ?_
  refine aw_if_eq 35 31 dX5_nextClause_28 rfl rfl (fun c4 => ?_) (fun c4 => ?_)
  · replace h := h.1 c4
    refine aw_aload_n 36 dX5_nextClause_35 rfl 0 rfl rfl ?_
    refine aw_iload_n 37 dX5_nextClause_36 rfl 1 rfl rfl ?_
    obtain ⟨g7, h⟩ := h
    refine aw_callV (M' := M_X5_nextOne) 40 221 5 l0 [.int _] [] dX5_nextClause_37 lk_RX5_221 mv_X5_nextOne mp_X5_nextOne rfl ⟨leb rfl, leb rfl⟩ rfl (ltb rfl) g7 rfl (leb rfl) (leb rfl) (leb rfl) rfl (am_X5_nextOne hG h) (kkI fun v6 X5 h => ?_) (kxN KrI.no)
    refine aw_widen (cc' := 0) (ss' := 0) (leb rfl) (leb rfl) ?_
    exact aw_ireturn (ty := .int) dX5_nextClause_40 rfl rfl (leb rfl) (leb rfl) ⟨_, rfl, h⟩
  · replace h := h.2 c4
    refine aw_iconst 32 (v := 0) dX5_nextClause_31 kI_0 rfl ?_
    refine aw_goto 40 dX5_nextClause_32 rfl ?_
    exact aw_ireturn (ty := .int) dX5_nextClause_40 rfl rfl (leb rfl) (leb rfl) ⟨_, rfl, h⟩
set_option maxRecDepth 20000 in
theorem am_X5_nextClause {G : GG} (hG : G.1.stackTraces = false) {l0 : Nat} {l1 : Int32} {X : XH} {K : Int32 → XH → Prop} (h : w_X5_nextClause l0 l1 X K) : AM G M_X5_nextClause X [.ref l0, .int l1] (KrI K) := AM_of (by decide +kernel) rfl (leb rfl) hG (by
  show AW G M_X5_nextClause 0 [(0, .ref l0), (1, .int l1)] [] X 0 0 _
  unfold w_X5_nextClause at h
  refine aw_aload_n 1 dX5_nextClause_0 rfl 0 rfl rfl ?_
  refine aw_iload_n 2 dX5_nextClause_1 rfl 1 rfl rfl ?_
  refine aw_callS (M' := M_X5_isTongue) 5 38 [.int _] [.ref _] dX5_nextClause_2 lk_RX5_38 ms_X5_isTongue mp_X5_isTongue rfl ⟨leb rfl, leb rfl⟩ rfl (leb rfl) (leb rfl) (leb rfl) rfl (am_X5_isTongue hG h) (kkI fun v2 X1 h => ?_) (kxN KrI.no)
  refine aw_widen (cc' := 0) (ss' := 0) (leb rfl) (leb rfl) ?_
  refine aw_if_ne 12 8 dX5_nextClause_5 rfl rfl (fun c3 => ?_) (fun c3 => ?_)
  · replace h := h.1 c3
    refine aw_aload_n 13 dX5_nextClause_12 rfl 0 rfl rfl ?_
    refine aw_iload_n 14 dX5_nextClause_13 rfl 1 rfl rfl ?_
    obtain ⟨g6, h⟩ := h
    refine aw_callV (M' := M_X5_nextOne) 17 221 5 l0 [.int _] [.ref _] dX5_nextClause_14 lk_RX5_221 mv_X5_nextOne mp_X5_nextOne rfl ⟨leb rfl, leb rfl⟩ rfl (ltb rfl) g6 rfl (leb rfl) (leb rfl) (leb rfl) rfl (am_X5_nextOne hG h) (kkI fun v5 X4 h => ?_) (kxN KrI.no)
    refine aw_widen (cc' := 0) (ss' := 0) (leb rfl) (leb rfl) ?_
    refine aw_if_ge 24 20 dX5_nextClause_17 rfl rfl (fun c7 => ?_) (fun c7 => ?_)
    · replace h := h.1 c7
      refine aw_iconst 25 (v := 0) dX5_nextClause_24 kI_0 rfl ?_
      exact aw_pick [0, 1] rfl (aw_X5_nextClause_25 hG  h)
    · replace h := h.2 c7
      refine aw_iconst 21 (v := 2) dX5_nextClause_20 kI_2 rfl ?_
      refine aw_goto 25 dX5_nextClause_21 rfl ?_
      exact aw_pick [0, 1] rfl (aw_X5_nextClause_25 hG  h)
  · replace h := h.2 c3
    refine aw_iconst 9 (v := 1) dX5_nextClause_8 kI_1 rfl ?_
    refine aw_goto 25 dX5_nextClause_9 rfl ?_
    exact aw_pick [0, 1] rfl (aw_X5_nextClause_25 hG  h))
set_option maxRecDepth 20000 in
theorem aw_X3_mostTakenTongue_4 {G : GG} (hG : G.1.stackTraces = false)  {l0 : Nat} {l1 : Int32} {l2 : Int32} {X : XH} {K : Int32 → XH → Prop}  (h : w_X3_mostTakenTongue_4  l0 l1 l2 X K) : AW G M_X3_mostTakenTongue 4 [(0, .ref l0), (1, .int l1), (2, .int l2)] [] X 0 0 (KrI K) :=
  h (fun l0 l1 l2 X => AW G M_X3_mostTakenTongue 4 [(0, .ref l0), (1, .int l1), (2, .int l2)] [] X 0 0 (KrI K)) (fun l0 l1 l2 X h => by
    refine aw_iload_n 5 dX3_mostTakenTongue_4 rfl 2 rfl rfl ?_
    refine aw_iconst 6 (v := 3) dX3_mostTakenTongue_5 kI_3 rfl ?_
    refine aw_icmp_ge 30 9 dX3_mostTakenTongue_6 rfl rfl (fun c1 => ?_) (fun c1 => ?_)
    · replace h := h.1 c1
      refine aw_iload_n 31 dX3_mostTakenTongue_30 rfl 1 rfl rfl ?_
      exact aw_ireturn (ty := .int) dX3_mostTakenTongue_31 rfl rfl (leb rfl) (leb rfl) ⟨_, rfl, h⟩
    · replace h := h.2 c1
      refine aw_aload_n 10 dX3_mostTakenTongue_9 rfl 0 rfl rfl ?_
      refine aw_iload_n 11 dX3_mostTakenTongue_10 rfl 2 rfl rfl ?_
      obtain ⟨g4, h⟩ := h
      refine aw_callV (M' := M_X3_takenTotal) 14 181 3 l0 [.int _] [] dX3_mostTakenTongue_11 lk_RX3_181 mv_X3_takenTotal mp_X3_takenTotal rfl ⟨leb rfl, leb rfl⟩ rfl (ltb rfl) g4 rfl (leb rfl) (leb rfl) (leb rfl) rfl (am_X3_takenTotal hG h) (kkI fun v3 X2 h => ?_) (kxN KrI.no)
      refine aw_widen (cc' := 0) (ss' := 0) (leb rfl) (leb rfl) ?_
      refine aw_aload_n 15 dX3_mostTakenTongue_14 rfl 0 rfl rfl ?_
      refine aw_iload_n 16 dX3_mostTakenTongue_15 rfl 1 rfl rfl ?_
      obtain ⟨g7, h⟩ := h
      refine aw_callV (M' := M_X3_takenTotal) 19 181 3 l0 [.int _] [.int _] dX3_mostTakenTongue_16 lk_RX3_181 mv_X3_takenTotal mp_X3_takenTotal rfl ⟨leb rfl, leb rfl⟩ rfl (ltb rfl) g7 rfl (leb rfl) (leb rfl) (leb rfl) rfl (am_X3_takenTotal hG h) (kkI fun v6 X5 h => ?_) (kxN KrI.no)
      refine aw_widen (cc' := 0) (ss' := 0) (leb rfl) (leb rfl) ?_
      refine aw_icmp_le 24 22 dX3_mostTakenTongue_19 rfl rfl (fun c8 => ?_) (fun c8 => ?_)
      · replace h := h.1 c8
        refine aw_iinc 27 (v := 1) (lv' := [(2, _), (0, _), (1, _)]) dX3_mostTakenTongue_24 2 rfl kI_1 (ltb rfl) rfl rfl ?_
        refine aw_goto 4 dX3_mostTakenTongue_27 rfl ?_
        exact aw_pick [1, 2, 0] rfl h
      · replace h := h.2 c8
        refine aw_iload_n 23 dX3_mostTakenTongue_22 rfl 2 rfl rfl ?_
        refine aw_istore_n 24 (lv' := [(1, _), (0, _), (2, _)]) dX3_mostTakenTongue_23 rfl (ltb rfl) rfl rfl ?_
        refine aw_iinc 27 (v := 1) (lv' := [(2, _), (1, _), (0, _)]) dX3_mostTakenTongue_24 2 rfl kI_1 (ltb rfl) rfl rfl ?_
        refine aw_goto 4 dX3_mostTakenTongue_27 rfl ?_
        exact aw_pick [2, 1, 0] rfl h)
set_option maxRecDepth 20000 in
theorem am_X3_mostTakenTongue {G : GG} (hG : G.1.stackTraces = false) {l0 : Nat} {X : XH} {K : Int32 → XH → Prop} (h : w_X3_mostTakenTongue l0 X K) : AM G M_X3_mostTakenTongue X [.ref l0] (KrI K) := AM_of (by decide +kernel) rfl (leb rfl) hG (by
  show AW G M_X3_mostTakenTongue 0 [(0, .ref l0)] [] X 0 0 _
  unfold w_X3_mostTakenTongue at h
  refine aw_iconst 1 (v := 0) dX3_mostTakenTongue_0 kI_0 rfl ?_
  refine aw_istore_n 2 (lv' := [(1, _), (0, _)]) dX3_mostTakenTongue_1 rfl (ltb rfl) rfl rfl ?_
  refine aw_iconst 3 (v := 1) dX3_mostTakenTongue_2 kI_1 rfl ?_
  refine aw_istore_n 4 (lv' := [(2, _), (1, _), (0, _)]) dX3_mostTakenTongue_3 rfl (ltb rfl) rfl rfl ?_
  exact aw_pick [2, 1, 0] rfl (aw_X3_mostTakenTongue_4 hG  h))
set_option maxRecDepth 20000 in
theorem am_X4_bestTongue {G : GG} (hG : G.1.stackTraces = false) {l0 : Nat} {X : XH} {K : Int32 → XH → Prop} (h : w_X4_bestTongue l0 X K) : AM G M_X4_bestTongue X [.ref l0] (KrI K) := AM_of (by decide +kernel) rfl (leb rfl) hG (by
  show AW G M_X4_bestTongue 0 [(0, .ref l0)] [] X 0 0 _
  unfold w_X4_bestTongue at h
  refine aw_aload_n 1 dX4_bestTongue_0 rfl 0 rfl rfl ?_
  obtain ⟨g1, h⟩ := h
  obtain ⟨g2, h⟩ := h
  refine aw_getR 4 dX4_bestTongue_1 fl_RX4_10 rfl g1 g2 rfl ?_
  obtain ⟨g5, h⟩ := h
  refine aw_callV (M' := M_X3_mostTakenTongue) 7 355 3 (hR X l0 0) [] [] dX4_bestTongue_4 lk_RX4_355 mv_X3_mostTakenTongue mp_X3_mostTakenTongue rfl ⟨leb rfl, leb rfl⟩ rfl (ltb rfl) g5 rfl (leb rfl) (leb rfl) (leb rfl) rfl (am_X3_mostTakenTongue hG h) (kkI fun v4 X3 h => ?_) (kxN KrI.no)
  refine aw_widen (cc' := 0) (ss' := 0) (leb rfl) (leb rfl) ?_
  exact aw_ireturn (ty := .int) dX4_bestTongue_7 rfl rfl (leb rfl) (leb rfl) ⟨_, rfl, h⟩)
set_option maxRecDepth 20000 in
theorem aw_X5_best_4 {G : GG} (hG : G.1.stackTraces = false)  {l0 : Nat} {l1 : Int32} {l2 : Int32} {X : XH} {K : Int32 → XH → Prop}  (h : w_X5_best_4  l0 l1 l2 X K) : AW G M_X5_best 4 [(0, .ref l0), (1, .int l1), (2, .int l2)] [] X 0 0 (KrI K) :=
  h (fun l0 l1 l2 X => AW G M_X5_best 4 [(0, .ref l0), (1, .int l1), (2, .int l2)] [] X 0 0 (KrI K)) (fun l0 l1 l2 X h => by
    refine aw_iload_n 5 dX5_best_4 rfl 2 rfl rfl ?_
    refine aw_iconst 6 (v := 3) dX5_best_5 kI_3 rfl ?_
    refine aw_icmp_ge 34 9 dX5_best_6 rfl rfl (fun c1 => ?_) (fun c1 => ?_)
    · replace h := h.1 c1
      refine aw_iload_n 35 dX5_best_34 rfl 1 rfl rfl ?_
      exact aw_ireturn (ty := .int) dX5_best_35 rfl rfl (leb rfl) (leb rfl) ⟨_, rfl, h⟩
    · replace h := h.2 c1
      refine aw_aload_n 10 dX5_best_9 rfl 0 rfl rfl ?_
      refine aw_iload_n 11 dX5_best_10 rfl 2 rfl rfl ?_
      obtain ⟨g4, h⟩ := h
      refine aw_callV (M' := M_X5_taken) 14 203 5 l0 [.int _] [] dX5_best_11 lk_RX5_203 mv_X5_taken mp_X5_taken rfl ⟨leb rfl, leb rfl⟩ rfl (ltb rfl) g4 rfl (leb rfl) (leb rfl) (leb rfl) rfl (am_X5_taken hG h) (kkI fun v3 X2 h => ?_) (kxN KrI.no)
      refine aw_widen (cc' := 0) (ss' := 0) (leb rfl) (leb rfl) ?_
      refine aw_aload_n 15 dX5_best_14 rfl 0 rfl rfl ?_
      refine aw_iload_n 16 dX5_best_15 rfl 1 rfl rfl ?_
      obtain ⟨g7, h⟩ := h
      refine aw_callV (M' := M_X5_taken) 19 203 5 l0 [.int _] [.int _] dX5_best_16 lk_RX5_203 mv_X5_taken mp_X5_taken rfl ⟨leb rfl, leb rfl⟩ rfl (ltb rfl) g7 rfl (leb rfl) (leb rfl) (leb rfl) rfl (am_X5_taken hG h) (kkI fun v6 X5 h => ?_) (kxN KrI.no)
      refine aw_widen (cc' := 0) (ss' := 0) (leb rfl) (leb rfl) ?_
      refine aw_icmp_le 26 22 dX5_best_19 rfl rfl (fun c8 => ?_) (fun c8 => ?_)
      · replace h := h.1 c8
        refine aw_iload_n 27 dX5_best_26 rfl 1 rfl rfl ?_
        refine aw_istore_n 28 (lv' := [(1, _), (0, _), (2, _)]) dX5_best_27 rfl (ltb rfl) rfl rfl ?_
        refine aw_iinc 31 (v := 1) (lv' := [(2, _), (1, _), (0, _)]) dX5_best_28 2 rfl kI_1 (ltb rfl) rfl rfl ?_
        refine aw_goto 4 dX5_best_31 rfl ?_
        exact aw_pick [2, 1, 0] rfl h
      · replace h := h.2 c8
        refine aw_iload_n 23 dX5_best_22 rfl 2 rfl rfl ?_
        refine aw_goto 27 dX5_best_23 rfl ?_
        refine aw_istore_n 28 (lv' := [(1, _), (0, _), (2, _)]) dX5_best_27 rfl (ltb rfl) rfl rfl ?_
        refine aw_iinc 31 (v := 1) (lv' := [(2, _), (1, _), (0, _)]) dX5_best_28 2 rfl kI_1 (ltb rfl) rfl rfl ?_
        refine aw_goto 4 dX5_best_31 rfl ?_
        exact aw_pick [2, 1, 0] rfl h)
set_option maxRecDepth 20000 in
theorem am_X5_best {G : GG} (hG : G.1.stackTraces = false) {l0 : Nat} {X : XH} {K : Int32 → XH → Prop} (h : w_X5_best l0 X K) : AM G M_X5_best X [.ref l0] (KrI K) := AM_of (by decide +kernel) rfl (leb rfl) hG (by
  show AW G M_X5_best 0 [(0, .ref l0)] [] X 0 0 _
  unfold w_X5_best at h
  refine aw_iconst 1 (v := 0) dX5_best_0 kI_0 rfl ?_
  refine aw_istore_n 2 (lv' := [(1, _), (0, _)]) dX5_best_1 rfl (ltb rfl) rfl rfl ?_
  refine aw_iconst 3 (v := 1) dX5_best_2 kI_1 rfl ?_
  refine aw_istore_n 4 (lv' := [(2, _), (1, _), (0, _)]) dX5_best_3 rfl (ltb rfl) rfl rfl ?_
  exact aw_pick [2, 1, 0] rfl (aw_X5_best_4 hG  h))
set_option maxRecDepth 20000 in
theorem am_X5_bestTongue {G : GG} (hG : G.1.stackTraces = false) {l0 : Nat} {X : XH} {K : Int32 → XH → Prop} (h : w_X5_bestTongue l0 X K) : AM G M_X5_bestTongue X [.ref l0] (KrI K) := AM_of (by decide +kernel) rfl (leb rfl) hG (by
  show AW G M_X5_bestTongue 0 [(0, .ref l0)] [] X 0 0 _
  unfold w_X5_bestTongue at h
  refine aw_aload_n 1 dX5_bestTongue_0 rfl 0 rfl rfl ?_
  refine aw_aload_n 2 dX5_bestTongue_1 rfl 0 rfl rfl ?_
  obtain ⟨g3, h⟩ := h
  refine aw_callV (M' := M_X5_best) 5 224 5 l0 [] [.ref _] dX5_bestTongue_2 lk_RX5_224 mv_X5_best mp_X5_best rfl ⟨leb rfl, leb rfl⟩ rfl (ltb rfl) g3 rfl (leb rfl) (leb rfl) (leb rfl) rfl (am_X5_best hG h) (kkI fun v2 X1 h => ?_) (kxN KrI.no)
  refine aw_widen (cc' := 0) (ss' := 0) (leb rfl) (leb rfl) ?_
  obtain ⟨g6, h⟩ := h
  refine aw_callV (M' := M_X5_told) 8 167 5 l0 [.int _] [] dX5_bestTongue_5 lk_RX5_167 mv_X5_told mp_X5_told rfl ⟨leb rfl, leb rfl⟩ rfl (ltb rfl) g6 rfl (leb rfl) (leb rfl) (leb rfl) rfl (am_X5_told hG h) (kkI fun v5 X4 h => ?_) (kxN KrI.no)
  refine aw_widen (cc' := 0) (ss' := 0) (leb rfl) (leb rfl) ?_
  exact aw_ireturn (ty := .int) dX5_bestTongue_8 rfl rfl (leb rfl) (leb rfl) ⟨_, rfl, h⟩)
set_option maxRecDepth 20000 in
theorem aw_X3_lipsBy_4 {G : GG} (hG : G.1.stackTraces = false)  {l0 : Nat} {l1 : Int32} {l2 : Int32} {l3 : Int32} {X : XH} {K : Int32 → XH → Prop}  (h : w_X3_lipsBy_4  l0 l1 l2 l3 X K) : AW G M_X3_lipsBy 4 [(0, .ref l0), (1, .int l1), (2, .int l2), (3, .int l3)] [] X 0 0 (KrI K) :=
  h (fun l0 l1 l2 l3 X => AW G M_X3_lipsBy 4 [(0, .ref l0), (1, .int l1), (2, .int l2), (3, .int l3)] [] X 0 0 (KrI K)) (fun l0 l1 l2 l3 X h => by
    refine aw_iload_n 5 dX3_lipsBy_4 rfl 3 rfl rfl ?_
    refine aw_aload_n 6 dX3_lipsBy_5 rfl 0 rfl rfl ?_
    obtain ⟨g1, h⟩ := h
    refine aw_getI 9 dX3_lipsBy_6 fl_RX3_45 rfl g1 rfl ?_
    refine aw_icmp_ge 35 12 dX3_lipsBy_9 rfl rfl (fun c2 => ?_) (fun c2 => ?_)
    · replace h := h.1 c2
      refine aw_iload_n 36 dX3_lipsBy_35 rfl 2 rfl rfl ?_
      exact aw_ireturn (ty := .int) dX3_lipsBy_36 rfl rfl (leb rfl) (leb rfl) ⟨_, rfl, h⟩
    · replace h := h.2 c2
      refine aw_aload_n 13 dX3_lipsBy_12 rfl 0 rfl rfl ?_
      refine aw_iload_n 14 dX3_lipsBy_13 rfl 3 rfl rfl ?_
      refine aw_callV (M' := M_X3_speakerAt) 17 77 3 l0 [.int _] [] dX3_lipsBy_14 lk_RX3_77 mv_X3_speakerAt mp_X3_speakerAt rfl ⟨leb rfl, leb rfl⟩ rfl (ltb rfl) g1 rfl (leb rfl) (leb rfl) (leb rfl) rfl (am_X3_speakerAt hG h) (kkI fun v4 X3 h => ?_) (kxN KrI.no)
      refine aw_widen (cc' := 0) (ss' := 0) (leb rfl) (leb rfl) ?_
      refine aw_iload_n 18 dX3_lipsBy_17 rfl 1 rfl rfl ?_
      refine aw_icmp_ne 29 21 dX3_lipsBy_18 rfl rfl (fun c5 => ?_) (fun c5 => ?_)
      · replace h := h.1 c5
        refine aw_iinc 32 (v := 1) (lv' := [(3, _), (0, _), (1, _), (2, _)]) dX3_lipsBy_29 3 rfl kI_1 (ltb rfl) rfl rfl ?_
        refine aw_goto 4 dX3_lipsBy_32 rfl ?_
        exact aw_pick [1, 2, 3, 0] rfl h
      · replace h := h.2 c5
        refine aw_iload_n 22 dX3_lipsBy_21 rfl 2 rfl rfl ?_
        refine aw_aload_n 23 dX3_lipsBy_22 rfl 0 rfl rfl ?_
        refine aw_iload_n 24 dX3_lipsBy_23 rfl 3 rfl rfl ?_
        obtain ⟨g8, h⟩ := h
        refine aw_callV (M' := M_X3_lipsAt) 27 102 3 l0 [.int _] [.int _] dX3_lipsBy_24 lk_RX3_102 mv_X3_lipsAt mp_X3_lipsAt rfl ⟨leb rfl, leb rfl⟩ rfl (ltb rfl) g8 rfl (leb rfl) (leb rfl) (leb rfl) rfl (am_X3_lipsAt hG h) (kkI fun v7 X6 h => ?_) (kxN KrI.no)
        refine aw_widen (cc' := 0) (ss' := 0) (leb rfl) (leb rfl) ?_
        refine aw_iadd 28 dX3_lipsBy_27 rfl ?_
        refine aw_istore_n 29 (lv' := [(2, _), (0, _), (1, _), (3, _)]) dX3_lipsBy_28 rfl (ltb rfl) rfl rfl ?_
        refine aw_iinc 32 (v := 1) (lv' := [(3, _), (2, _), (0, _), (1, _)]) dX3_lipsBy_29 3 rfl kI_1 (ltb rfl) rfl rfl ?_
        refine aw_goto 4 dX3_lipsBy_32 rfl ?_
        exact aw_pick [2, 3, 1, 0] rfl h)
set_option maxRecDepth 20000 in
theorem am_X3_lipsBy {G : GG} (hG : G.1.stackTraces = false) {l0 : Nat} {l1 : Int32} {X : XH} {K : Int32 → XH → Prop} (h : w_X3_lipsBy l0 l1 X K) : AM G M_X3_lipsBy X [.ref l0, .int l1] (KrI K) := AM_of (by decide +kernel) rfl (leb rfl) hG (by
  show AW G M_X3_lipsBy 0 [(0, .ref l0), (1, .int l1)] [] X 0 0 _
  unfold w_X3_lipsBy at h
  refine aw_iconst 1 (v := 0) dX3_lipsBy_0 kI_0 rfl ?_
  refine aw_istore_n 2 (lv' := [(2, _), (0, _), (1, _)]) dX3_lipsBy_1 rfl (ltb rfl) rfl rfl ?_
  refine aw_iconst 3 (v := 0) dX3_lipsBy_2 kI_0 rfl ?_
  refine aw_istore_n 4 (lv' := [(3, _), (2, _), (0, _), (1, _)]) dX3_lipsBy_3 rfl (ltb rfl) rfl rfl ?_
  exact aw_pick [2, 3, 1, 0] rfl (aw_X3_lipsBy_4 hG  h))
set_option maxRecDepth 20000 in
theorem aw_X3_mostLipsState_4 {G : GG} (hG : G.1.stackTraces = false)  {l0 : Nat} {l1 : Int32} {l2 : Int32} {X : XH} {K : Int32 → XH → Prop}  (h : w_X3_mostLipsState_4  l0 l1 l2 X K) : AW G M_X3_mostLipsState 4 [(0, .ref l0), (1, .int l1), (2, .int l2)] [] X 0 0 (KrI K) :=
  h (fun l0 l1 l2 X => AW G M_X3_mostLipsState 4 [(0, .ref l0), (1, .int l1), (2, .int l2)] [] X 0 0 (KrI K)) (fun l0 l1 l2 X h => by
    refine aw_iload_n 5 dX3_mostLipsState_4 rfl 2 rfl rfl ?_
    refine aw_iconst 6 (v := 5) dX3_mostLipsState_5 kI_5 rfl ?_
    refine aw_icmp_ge 30 9 dX3_mostLipsState_6 rfl rfl (fun c1 => ?_) (fun c1 => ?_)
    · replace h := h.1 c1
      refine aw_iload_n 31 dX3_mostLipsState_30 rfl 1 rfl rfl ?_
      exact aw_ireturn (ty := .int) dX3_mostLipsState_31 rfl rfl (leb rfl) (leb rfl) ⟨_, rfl, h⟩
    · replace h := h.2 c1
      refine aw_aload_n 10 dX3_mostLipsState_9 rfl 0 rfl rfl ?_
      refine aw_iload_n 11 dX3_mostLipsState_10 rfl 2 rfl rfl ?_
      obtain ⟨g4, h⟩ := h
      refine aw_callV (M' := M_X3_lipsBy) 14 145 3 l0 [.int _] [] dX3_mostLipsState_11 lk_RX3_145 mv_X3_lipsBy mp_X3_lipsBy rfl ⟨leb rfl, leb rfl⟩ rfl (ltb rfl) g4 rfl (leb rfl) (leb rfl) (leb rfl) rfl (am_X3_lipsBy hG h) (kkI fun v3 X2 h => ?_) (kxN KrI.no)
      refine aw_widen (cc' := 0) (ss' := 0) (leb rfl) (leb rfl) ?_
      refine aw_aload_n 15 dX3_mostLipsState_14 rfl 0 rfl rfl ?_
      refine aw_iload_n 16 dX3_mostLipsState_15 rfl 1 rfl rfl ?_
      obtain ⟨g7, h⟩ := h
      refine aw_callV (M' := M_X3_lipsBy) 19 145 3 l0 [.int _] [.int _] dX3_mostLipsState_16 lk_RX3_145 mv_X3_lipsBy mp_X3_lipsBy rfl ⟨leb rfl, leb rfl⟩ rfl (ltb rfl) g7 rfl (leb rfl) (leb rfl) (leb rfl) rfl (am_X3_lipsBy hG h) (kkI fun v6 X5 h => ?_) (kxN KrI.no)
      refine aw_widen (cc' := 0) (ss' := 0) (leb rfl) (leb rfl) ?_
      refine aw_icmp_le 24 22 dX3_mostLipsState_19 rfl rfl (fun c8 => ?_) (fun c8 => ?_)
      · replace h := h.1 c8
        refine aw_iinc 27 (v := 1) (lv' := [(2, _), (0, _), (1, _)]) dX3_mostLipsState_24 2 rfl kI_1 (ltb rfl) rfl rfl ?_
        refine aw_goto 4 dX3_mostLipsState_27 rfl ?_
        exact aw_pick [1, 2, 0] rfl h
      · replace h := h.2 c8
        refine aw_iload_n 23 dX3_mostLipsState_22 rfl 2 rfl rfl ?_
        refine aw_istore_n 24 (lv' := [(1, _), (0, _), (2, _)]) dX3_mostLipsState_23 rfl (ltb rfl) rfl rfl ?_
        refine aw_iinc 27 (v := 1) (lv' := [(2, _), (1, _), (0, _)]) dX3_mostLipsState_24 2 rfl kI_1 (ltb rfl) rfl rfl ?_
        refine aw_goto 4 dX3_mostLipsState_27 rfl ?_
        exact aw_pick [2, 1, 0] rfl h)
set_option maxRecDepth 20000 in
theorem am_X3_mostLipsState {G : GG} (hG : G.1.stackTraces = false) {l0 : Nat} {X : XH} {K : Int32 → XH → Prop} (h : w_X3_mostLipsState l0 X K) : AM G M_X3_mostLipsState X [.ref l0] (KrI K) := AM_of (by decide +kernel) rfl (leb rfl) hG (by
  show AW G M_X3_mostLipsState 0 [(0, .ref l0)] [] X 0 0 _
  unfold w_X3_mostLipsState at h
  refine aw_iconst 1 (v := 0) dX3_mostLipsState_0 kI_0 rfl ?_
  refine aw_istore_n 2 (lv' := [(1, _), (0, _)]) dX3_mostLipsState_1 rfl (ltb rfl) rfl rfl ?_
  refine aw_iconst 3 (v := 1) dX3_mostLipsState_2 kI_1 rfl ?_
  refine aw_istore_n 4 (lv' := [(2, _), (1, _), (0, _)]) dX3_mostLipsState_3 rfl (ltb rfl) rfl rfl ?_
  exact aw_pick [2, 1, 0] rfl (aw_X3_mostLipsState_4 hG  h))
set_option maxRecDepth 20000 in
theorem am_X4_loudestState {G : GG} (hG : G.1.stackTraces = false) {l0 : Nat} {X : XH} {K : Int32 → XH → Prop} (h : w_X4_loudestState l0 X K) : AM G M_X4_loudestState X [.ref l0] (KrI K) := AM_of (by decide +kernel) rfl (leb rfl) hG (by
  show AW G M_X4_loudestState 0 [(0, .ref l0)] [] X 0 0 _
  unfold w_X4_loudestState at h
  refine aw_aload_n 1 dX4_loudestState_0 rfl 0 rfl rfl ?_
  obtain ⟨g1, h⟩ := h
  obtain ⟨g2, h⟩ := h
  refine aw_getR 4 dX4_loudestState_1 fl_RX4_10 rfl g1 g2 rfl ?_
  obtain ⟨g5, h⟩ := h
  refine aw_callV (M' := M_X3_mostLipsState) 7 358 3 (hR X l0 0) [] [] dX4_loudestState_4 lk_RX4_358 mv_X3_mostLipsState mp_X3_mostLipsState rfl ⟨leb rfl, leb rfl⟩ rfl (ltb rfl) g5 rfl (leb rfl) (leb rfl) (leb rfl) rfl (am_X3_mostLipsState hG h) (kkI fun v4 X3 h => ?_) (kxN KrI.no)
  refine aw_widen (cc' := 0) (ss' := 0) (leb rfl) (leb rfl) ?_
  exact aw_ireturn (ty := .int) dX4_loudestState_7 rfl rfl (leb rfl) (leb rfl) ⟨_, rfl, h⟩)
end XWK9
