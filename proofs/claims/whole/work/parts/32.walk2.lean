/-! the walks of methods, as predicates -/
section XWK2
set_option maxRecDepth 20000 in
theorem am_X4_isComplete {G : GG} (hG : G.1.stackTraces = false) {l0 : Nat} {l1 : Int32} {l2 : Int32} {X : XH} {K : Int32 → XH → Prop} {KX : String → XH → Prop} (h : w_X4_isComplete l0 l1 l2 X K KX) : AM G M_X4_isComplete X [.ref l0, .int l1, .int l2] (KxT (KrI K) KX) := AM_of (by decide +kernel) rfl (leb rfl) hG (by
  show AW G M_X4_isComplete 0 [(0, .ref l0), (1, .int l1), (2, .int l2)] [] X 0 0 _
  unfold w_X4_isComplete at h
  refine aw_iload_n 1 dX4_isComplete_0 rfl 1 rfl rfl ?_
  refine aw_callS (M' := M_X4_checkReel) 4 45 [.int _] [] dX4_isComplete_1 lk_RX4_45 ms_X4_checkReel mp_X4_checkReel rfl ⟨leb rfl, leb rfl⟩ rfl (leb rfl) (leb rfl) (leb rfl) rfl (am_X4_checkReel hG h) (kkT (kkV fun X1 h => ?_)) (kxT KrV.no fun E X h => at_out rfl (leb rfl) (leb rfl) (Or.inr ⟨_, rfl, h⟩))
  refine aw_widen (cc' := 1) (ss' := 6) (leb rfl) (leb rfl) ?_
  refine aw_iload_n 5 dX4_isComplete_4 rfl 2 rfl rfl ?_
  refine aw_callS (M' := M_X4_checkTongue) 8 195 [.int _] [] dX4_isComplete_5 lk_RX4_195 ms_X4_checkTongue mp_X4_checkTongue rfl ⟨leb rfl, leb rfl⟩ rfl (leb rfl) (leb rfl) (leb rfl) rfl (am_X4_checkTongue hG h) (kkT (kkV fun X2 h => ?_)) (kxT KrV.no fun E X h => at_out rfl (leb rfl) (leb rfl) (Or.inr ⟨_, rfl, h⟩))
  refine aw_widen (cc' := 2) (ss' := 12) (leb rfl) (leb rfl) ?_
  refine aw_aload_n 9 dX4_isComplete_8 rfl 0 rfl rfl ?_
  obtain ⟨g3, h⟩ := h
  obtain ⟨g4, h⟩ := h
  refine aw_getR 12 dX4_isComplete_9 fl_RX4_10 rfl g3 g4 rfl ?_
  refine aw_iload_n 13 dX4_isComplete_12 rfl 1 rfl rfl ?_
  refine aw_iload_n 14 dX4_isComplete_13 rfl 2 rfl rfl ?_
  obtain ⟨g7, h⟩ := h
  refine aw_callV (M' := M_X3_isWholeReel) 17 201 3 (hR X2 l0 0) [.int _, .int _] [] dX4_isComplete_14 lk_RX4_201 mv_X3_isWholeReel mp_X3_isWholeReel rfl ⟨leb rfl, leb rfl⟩ rfl (ltb rfl) g7 rfl (leb rfl) (leb rfl) (leb rfl) rfl (am_X3_isWholeReel hG h) (kkI fun v6 X5 h => ?_) (kxN KrI.no)
  refine aw_widen (cc' := 2) (ss' := 12) (leb rfl) (leb rfl) ?_
  obtain ⟨g8, h⟩ := h
  exact aw_ireturn (ty := .boolean) dX4_isComplete_17 rfl (narZ g8) (leb rfl) (leb rfl) (Or.inl ⟨_, rfl, h⟩))
set_option maxRecDepth 20000 in
theorem am_L_isComplete {G : GG} (hG : G.1.stackTraces = false) {l0 : Nat} {l1 : Int32} {l2 : Int32} {l3 : Nat} {X : XH} {K : Int32 → XH → Prop} (h : w_L_isComplete l0 l1 l2 l3 X K) : AM G M_L_isComplete X [.ref l0, .int l1, .int l2, .ref l3] (KrI K) := AM_ofH (by decide +kernel) (0, 17, 20, 13) [] rfl (leb rfl) hG (by
  show AW G M_L_isComplete 0 [(0, .ref l0), (1, .int l1), (2, .int l2), (3, .ref l3)] [] X 0 0 _
  unfold w_L_isComplete at h
  refine aw_aload_n 1 dL_isComplete_0 rfl 3 rfl rfl ?_
  refine aw_iconst 2 (v := 0) dL_isComplete_1 kI_0 rfl ?_
  refine aw_aload_n 3 dL_isComplete_2 rfl 0 rfl rfl ?_
  refine aw_iload_n 4 dL_isComplete_3 rfl 1 rfl rfl ?_
  refine aw_iload_n 5 dL_isComplete_4 rfl 2 rfl rfl ?_
  obtain ⟨g3, h⟩ := h
  refine aw_callV (M' := M_X4_isComplete) 8 138 4 l0 [.int _, .int _] [.int _, .ref _] dL_isComplete_5 lk_RL_138 mv_X4_isComplete mp_X4_isComplete rfl ⟨leb rfl, leb rfl⟩ rfl (ltb rfl) g3 rfl (leb rfl) (leb rfl) (leb rfl) rfl (am_X4_isComplete hG h) (kkT (kkI fun v2 X1 h => ?_)) (kxT KrI.no fun E X1 h => ?_)
  · refine aw_widen (cc' := 2) (ss' := 12) (leb rfl) (leb rfl) ?_
    refine aw_if_eq 15 11 dL_isComplete_8 rfl rfl (fun c4 => ?_) (fun c4 => ?_)
    · replace h := h.1 c4
      refine aw_lconst 16 (v := 0) dL_isComplete_15 kL_0 rfl ?_
      obtain ⟨g5, h⟩ := h
      obtain ⟨g6, h⟩ := h
      refine aw_lastore 17 dL_isComplete_16 g5 g6 rfl ?_
      refine aw_goto 24 dL_isComplete_17 rfl ?_
      refine aw_iconst 25 (v := 0) dL_isComplete_24 kI_0 rfl ?_
      exact aw_ireturn (ty := .int) dL_isComplete_25 rfl rfl (leb rfl) (leb rfl) ⟨_, rfl, h⟩
    · replace h := h.2 c4
      refine aw_lconst 12 (v := 1) dL_isComplete_11 kL_1 rfl ?_
      refine aw_goto 16 dL_isComplete_12 rfl ?_
      obtain ⟨g7, h⟩ := h
      obtain ⟨g8, h⟩ := h
      refine aw_lastore 17 dL_isComplete_16 g7 g8 rfl ?_
      refine aw_goto 24 dL_isComplete_17 rfl ?_
      refine aw_iconst 25 (v := 0) dL_isComplete_24 kI_0 rfl ?_
      exact aw_ireturn (ty := .int) dL_isComplete_25 rfl rfl (leb rfl) (leb rfl) ⟨_, rfl, h⟩
  · obtain ⟨hE, h⟩ := h
    rcases hE with rfl
    refine aw_atc (lv' := [(0, .ref _), (1, .int _), (2, .int _), (3, .ref _)]) [] (0, 17, 20, 13) [] rfl (fun z hz => nomatch hz) (by decide) (by decide) (tk3 (i := 61) (by decide +kernel) rfl) (by decide) 4 2 22 (Or.inr ⟨dL_isComplete_20, rfl⟩) (ltb rfl) rfl ?_
    refine aw_widen (cc' := 2) (ss' := 12) (leb rfl) (leb rfl) ?_
    replace h := h rfl
    refine aw_iconst 23 (v := 1) dL_isComplete_22 kI_1 rfl ?_
    exact aw_ireturn (ty := .int) dL_isComplete_23 rfl rfl (leb rfl) (leb rfl) ⟨_, rfl, h⟩)
set_option maxRecDepth 20000 in
theorem am_X3_hasMix {G : GG} (hG : G.1.stackTraces = false) {l0 : Nat} {l1 : Int32} {l2 : Int32} {X : XH} {K : Int32 → XH → Prop} (h : w_X3_hasMix l0 l1 l2 X K) : AM G M_X3_hasMix X [.ref l0, .int l1, .int l2] (KrI K) := AM_of (by decide +kernel) rfl (leb rfl) hG (by
  show AW G M_X3_hasMix 0 [(0, .ref l0), (1, .int l1), (2, .int l2)] [] X 0 0 _
  unfold w_X3_hasMix at h
  refine aw_aload_n 1 dX3_hasMix_0 rfl 0 rfl rfl ?_
  obtain ⟨g1, h⟩ := h
  obtain ⟨g2, h⟩ := h
  refine aw_getR 4 dX3_hasMix_1 fl_RX3_39 rfl g1 g2 rfl ?_
  refine aw_iload_n 5 dX3_hasMix_4 rfl 1 rfl rfl ?_
  refine aw_iload_n 6 dX3_hasMix_5 rfl 2 rfl rfl ?_
  refine aw_callS (M' := M_X3_place) 9 73 [.int _, .int _] [.ref _] dX3_hasMix_6 lk_RX3_73 ms_X3_place mp_X3_place rfl ⟨leb rfl, leb rfl⟩ rfl (leb rfl) (leb rfl) (leb rfl) rfl (am_X3_place hG h) (kkI fun v4 X3 h => ?_) (kxN KrI.no)
  refine aw_widen (cc' := 0) (ss' := 0) (leb rfl) (leb rfl) ?_
  refine aw_callSN (M' := M_X4_at) 12 81 [.ref _, .int _] [] dX3_hasMix_9 (by decide) ms_X4_at mp_X4_at rfl ⟨leb rfl, leb rfl⟩ rfl (leb rfl) (leb rfl) (leb rfl) rfl (am_X4_at hG h) (kkI fun v6 X5 h => ?_) KrI.no
  refine aw_widen (cc' := 0) (ss' := 0) (leb rfl) (leb rfl) ?_
  refine aw_iconst 13 (v := 1) dX3_hasMix_12 kI_1 rfl ?_
  refine aw_icmp_ne 20 16 dX3_hasMix_13 rfl rfl (fun c7 => ?_) (fun c7 => ?_)
  · replace h := h.1 c7
    refine aw_iconst 21 (v := 0) dX3_hasMix_20 kI_0 rfl ?_
    exact aw_ireturn (ty := .boolean) dX3_hasMix_21 rfl rfl (leb rfl) (leb rfl) ⟨_, rfl, h⟩
  · replace h := h.2 c7
    refine aw_iconst 17 (v := 1) dX3_hasMix_16 kI_1 rfl ?_
    refine aw_goto 21 dX3_hasMix_17 rfl ?_
    exact aw_ireturn (ty := .boolean) dX3_hasMix_21 rfl rfl (leb rfl) (leb rfl) ⟨_, rfl, h⟩)
set_option maxRecDepth 20000 in
theorem am_X4_isMixed {G : GG} (hG : G.1.stackTraces = false) {l0 : Nat} {l1 : Int32} {l2 : Int32} {X : XH} {K : Int32 → XH → Prop} {KX : String → XH → Prop} (h : w_X4_isMixed l0 l1 l2 X K KX) : AM G M_X4_isMixed X [.ref l0, .int l1, .int l2] (KxT (KrI K) KX) := AM_of (by decide +kernel) rfl (leb rfl) hG (by
  show AW G M_X4_isMixed 0 [(0, .ref l0), (1, .int l1), (2, .int l2)] [] X 0 0 _
  unfold w_X4_isMixed at h
  refine aw_iload_n 1 dX4_isMixed_0 rfl 1 rfl rfl ?_
  refine aw_callS (M' := M_X4_checkReel) 4 45 [.int _] [] dX4_isMixed_1 lk_RX4_45 ms_X4_checkReel mp_X4_checkReel rfl ⟨leb rfl, leb rfl⟩ rfl (leb rfl) (leb rfl) (leb rfl) rfl (am_X4_checkReel hG h) (kkT (kkV fun X1 h => ?_)) (kxT KrV.no fun E X h => at_out rfl (leb rfl) (leb rfl) (Or.inr ⟨_, rfl, h⟩))
  refine aw_widen (cc' := 1) (ss' := 6) (leb rfl) (leb rfl) ?_
  refine aw_iload_n 5 dX4_isMixed_4 rfl 2 rfl rfl ?_
  refine aw_callS (M' := M_X4_checkTongue) 8 195 [.int _] [] dX4_isMixed_5 lk_RX4_195 ms_X4_checkTongue mp_X4_checkTongue rfl ⟨leb rfl, leb rfl⟩ rfl (leb rfl) (leb rfl) (leb rfl) rfl (am_X4_checkTongue hG h) (kkT (kkV fun X2 h => ?_)) (kxT KrV.no fun E X h => at_out rfl (leb rfl) (leb rfl) (Or.inr ⟨_, rfl, h⟩))
  refine aw_widen (cc' := 2) (ss' := 12) (leb rfl) (leb rfl) ?_
  refine aw_aload_n 9 dX4_isMixed_8 rfl 0 rfl rfl ?_
  obtain ⟨g3, h⟩ := h
  obtain ⟨g4, h⟩ := h
  refine aw_getR 12 dX4_isMixed_9 fl_RX4_10 rfl g3 g4 rfl ?_
  refine aw_iload_n 13 dX4_isMixed_12 rfl 1 rfl rfl ?_
  refine aw_iload_n 14 dX4_isMixed_13 rfl 2 rfl rfl ?_
  obtain ⟨g7, h⟩ := h
  refine aw_callV (M' := M_X3_hasMix) 17 198 3 (hR X2 l0 0) [.int _, .int _] [] dX4_isMixed_14 lk_RX4_198 mv_X3_hasMix mp_X3_hasMix rfl ⟨leb rfl, leb rfl⟩ rfl (ltb rfl) g7 rfl (leb rfl) (leb rfl) (leb rfl) rfl (am_X3_hasMix hG h) (kkI fun v6 X5 h => ?_) (kxN KrI.no)
  refine aw_widen (cc' := 2) (ss' := 12) (leb rfl) (leb rfl) ?_
  obtain ⟨g8, h⟩ := h
  exact aw_ireturn (ty := .boolean) dX4_isMixed_17 rfl (narZ g8) (leb rfl) (leb rfl) (Or.inl ⟨_, rfl, h⟩))
set_option maxRecDepth 20000 in
theorem am_L_isMixed {G : GG} (hG : G.1.stackTraces = false) {l0 : Nat} {l1 : Int32} {l2 : Int32} {l3 : Nat} {X : XH} {K : Int32 → XH → Prop} (h : w_L_isMixed l0 l1 l2 l3 X K) : AM G M_L_isMixed X [.ref l0, .int l1, .int l2, .ref l3] (KrI K) := AM_ofH (by decide +kernel) (0, 17, 20, 13) [] rfl (leb rfl) hG (by
  show AW G M_L_isMixed 0 [(0, .ref l0), (1, .int l1), (2, .int l2), (3, .ref l3)] [] X 0 0 _
  unfold w_L_isMixed at h
  refine aw_aload_n 1 dL_isMixed_0 rfl 3 rfl rfl ?_
  refine aw_iconst 2 (v := 0) dL_isMixed_1 kI_0 rfl ?_
  refine aw_aload_n 3 dL_isMixed_2 rfl 0 rfl rfl ?_
  refine aw_iload_n 4 dL_isMixed_3 rfl 1 rfl rfl ?_
  refine aw_iload_n 5 dL_isMixed_4 rfl 2 rfl rfl ?_
  obtain ⟨g3, h⟩ := h
  refine aw_callV (M' := M_X4_isMixed) 8 141 4 l0 [.int _, .int _] [.int _, .ref _] dL_isMixed_5 lk_RL_141 mv_X4_isMixed mp_X4_isMixed rfl ⟨leb rfl, leb rfl⟩ rfl (ltb rfl) g3 rfl (leb rfl) (leb rfl) (leb rfl) rfl (am_X4_isMixed hG h) (kkT (kkI fun v2 X1 h => ?_)) (kxT KrI.no fun E X1 h => ?_)
  · refine aw_widen (cc' := 2) (ss' := 12) (leb rfl) (leb rfl) ?_
    refine aw_if_eq 15 11 dL_isMixed_8 rfl rfl (fun c4 => ?_) (fun c4 => ?_)
    · replace h := h.1 c4
      refine aw_lconst 16 (v := 0) dL_isMixed_15 kL_0 rfl ?_
      obtain ⟨g5, h⟩ := h
      obtain ⟨g6, h⟩ := h
      refine aw_lastore 17 dL_isMixed_16 g5 g6 rfl ?_
      refine aw_goto 24 dL_isMixed_17 rfl ?_
      refine aw_iconst 25 (v := 0) dL_isMixed_24 kI_0 rfl ?_
      exact aw_ireturn (ty := .int) dL_isMixed_25 rfl rfl (leb rfl) (leb rfl) ⟨_, rfl, h⟩
    · replace h := h.2 c4
      refine aw_lconst 12 (v := 1) dL_isMixed_11 kL_1 rfl ?_
      refine aw_goto 16 dL_isMixed_12 rfl ?_
      obtain ⟨g7, h⟩ := h
      obtain ⟨g8, h⟩ := h
      refine aw_lastore 17 dL_isMixed_16 g7 g8 rfl ?_
      refine aw_goto 24 dL_isMixed_17 rfl ?_
      refine aw_iconst 25 (v := 0) dL_isMixed_24 kI_0 rfl ?_
      exact aw_ireturn (ty := .int) dL_isMixed_25 rfl rfl (leb rfl) (leb rfl) ⟨_, rfl, h⟩
  · obtain ⟨hE, h⟩ := h
    rcases hE with rfl
    refine aw_atc (lv' := [(0, .ref _), (1, .int _), (2, .int _), (3, .ref _)]) [] (0, 17, 20, 13) [] rfl (fun z hz => nomatch hz) (by decide) (by decide) (tk3 (i := 61) (by decide +kernel) rfl) (by decide) 4 2 22 (Or.inr ⟨dL_isMixed_20, rfl⟩) (ltb rfl) rfl ?_
    refine aw_widen (cc' := 2) (ss' := 12) (leb rfl) (leb rfl) ?_
    replace h := h rfl
    refine aw_iconst 23 (v := 1) dL_isMixed_22 kI_1 rfl ?_
    exact aw_ireturn (ty := .int) dL_isMixed_23 rfl rfl (leb rfl) (leb rfl) ⟨_, rfl, h⟩)
set_option maxRecDepth 20000 in
theorem aw_X3_isHeardIn_2 {G : GG} (hG : G.1.stackTraces = false)  {l0 : Nat} {l1 : Int32} {l2 : Int32} {l3 : Int32} {X : XH} {K : Int32 → XH → Prop}  (h : w_X3_isHeardIn_2  l0 l1 l2 l3 X K) : AW G M_X3_isHeardIn 2 [(0, .ref l0), (1, .int l1), (2, .int l2), (3, .int l3)] [] X 0 0 (KrI K) :=
  h (fun l0 l1 l2 l3 X => AW G M_X3_isHeardIn 2 [(0, .ref l0), (1, .int l1), (2, .int l2), (3, .int l3)] [] X 0 0 (KrI K)) (fun l0 l1 l2 l3 X h => by
    refine aw_iload_n 3 dX3_isHeardIn_2 rfl 3 rfl rfl ?_
    refine aw_aload_n 4 dX3_isHeardIn_3 rfl 0 rfl rfl ?_
    obtain ⟨g1, h⟩ := h
    refine aw_getI 7 dX3_isHeardIn_4 fl_RX3_45 rfl g1 rfl ?_
    refine aw_icmp_ge 36 10 dX3_isHeardIn_7 rfl rfl (fun c2 => ?_) (fun c2 => ?_)
    · replace h := h.1 c2
      refine aw_iconst 37 (v := 0) dX3_isHeardIn_36 kI_0 rfl ?_
      exact aw_ireturn (ty := .boolean) dX3_isHeardIn_37 rfl rfl (leb rfl) (leb rfl) ⟨_, rfl, h⟩
    · replace h := h.2 c2
      refine aw_aload_n 11 dX3_isHeardIn_10 rfl 0 rfl rfl ?_
      refine aw_iload_n 12 dX3_isHeardIn_11 rfl 3 rfl rfl ?_
      refine aw_callV (M' := M_X3_reelAt) 15 88 3 l0 [.int _] [] dX3_isHeardIn_12 lk_RX3_88 mv_X3_reelAt mp_X3_reelAt rfl ⟨leb rfl, leb rfl⟩ rfl (ltb rfl) g1 rfl (leb rfl) (leb rfl) (leb rfl) rfl (am_X3_reelAt hG h) (kkI fun v4 X3 h => ?_) (kxN KrI.no)
      refine aw_widen (cc' := 0) (ss' := 0) (leb rfl) (leb rfl) ?_
      refine aw_iload_n 16 dX3_isHeardIn_15 rfl 2 rfl rfl ?_
      refine aw_icmp_ne 30 19 dX3_isHeardIn_16 rfl rfl (fun c5 => ?_) (fun c5 => ?_)
      · replace h := h.1 c5
        refine aw_iinc 33 (v := 1) (lv' := [(3, _), (0, _), (1, _), (2, _)]) dX3_isHeardIn_30 3 rfl kI_1 (ltb rfl) rfl rfl ?_
        refine aw_goto 2 dX3_isHeardIn_33 rfl ?_
        exact aw_pick [1, 2, 3, 0] rfl h
      · replace h := h.2 c5
        refine aw_aload_n 20 dX3_isHeardIn_19 rfl 0 rfl rfl ?_
        refine aw_iload_n 21 dX3_isHeardIn_20 rfl 3 rfl rfl ?_
        obtain ⟨g8, h⟩ := h
        refine aw_callV (M' := M_X3_speakerAt) 24 77 3 l0 [.int _] [] dX3_isHeardIn_21 lk_RX3_77 mv_X3_speakerAt mp_X3_speakerAt rfl ⟨leb rfl, leb rfl⟩ rfl (ltb rfl) g8 rfl (leb rfl) (leb rfl) (leb rfl) rfl (am_X3_speakerAt hG h) (kkI fun v7 X6 h => ?_) (kxN KrI.no)
        refine aw_widen (cc' := 0) (ss' := 0) (leb rfl) (leb rfl) ?_
        refine aw_iload_n 25 dX3_isHeardIn_24 rfl 1 rfl rfl ?_
        refine aw_icmp_ne 30 28 dX3_isHeardIn_25 rfl rfl (fun c9 => ?_) (fun c9 => ?_)
        · replace h := h.1 c9
          refine aw_iinc 33 (v := 1) (lv' := [(3, _), (0, _), (1, _), (2, _)]) dX3_isHeardIn_30 3 rfl kI_1 (ltb rfl) rfl rfl ?_
          refine aw_goto 2 dX3_isHeardIn_33 rfl ?_
          exact aw_pick [1, 2, 3, 0] rfl h
        · replace h := h.2 c9
          refine aw_iconst 29 (v := 1) dX3_isHeardIn_28 kI_1 rfl ?_
          exact aw_ireturn (ty := .boolean) dX3_isHeardIn_29 rfl rfl (leb rfl) (leb rfl) ⟨_, rfl, h⟩)
set_option maxRecDepth 20000 in
theorem am_X3_isHeardIn {G : GG} (hG : G.1.stackTraces = false) {l0 : Nat} {l1 : Int32} {l2 : Int32} {X : XH} {K : Int32 → XH → Prop} (h : w_X3_isHeardIn l0 l1 l2 X K) : AM G M_X3_isHeardIn X [.ref l0, .int l1, .int l2] (KrI K) := AM_of (by decide +kernel) rfl (leb rfl) hG (by
  show AW G M_X3_isHeardIn 0 [(0, .ref l0), (1, .int l1), (2, .int l2)] [] X 0 0 _
  unfold w_X3_isHeardIn at h
  refine aw_iconst 1 (v := 0) dX3_isHeardIn_0 kI_0 rfl ?_
  refine aw_istore_n 2 (lv' := [(3, _), (0, _), (1, _), (2, _)]) dX3_isHeardIn_1 rfl (ltb rfl) rfl rfl ?_
  exact aw_pick [1, 2, 3, 0] rfl (aw_X3_isHeardIn_2 hG  h))
set_option maxRecDepth 20000 in
theorem aw_X3_signaturesMissing_5 {G : GG} (hG : G.1.stackTraces = false)  {l0 : Nat} {l1 : Int32} {l2 : Int32} {l3 : Int32} {l4 : Int32} {X : XH} {K : Int32 → XH → Prop}  (h : w_X3_signaturesMissing_5  l0 l1 l2 l3 l4 X K) : AW G M_X3_signaturesMissing 5 [(0, .ref l0), (1, .int l1), (2, .int l2), (3, .int l3), (4, .int l4)] [] X 0 0 (KrI K) :=
  h (fun l0 l1 l2 l3 l4 X => AW G M_X3_signaturesMissing 5 [(0, .ref l0), (1, .int l1), (2, .int l2), (3, .int l3), (4, .int l4)] [] X 0 0 (KrI K)) (fun l0 l1 l2 l3 l4 X h => by
    refine aw_iload 7 dX3_signaturesMissing_5 4 rfl rfl ?_
    refine aw_iconst 8 (v := 5) dX3_signaturesMissing_7 kI_5 rfl ?_
    refine aw_icmp_ge 41 11 dX3_signaturesMissing_8 rfl rfl (fun c1 => ?_) (fun c1 => ?_)
    · replace h := h.1 c1
      refine aw_iload_n 42 dX3_signaturesMissing_41 rfl 3 rfl rfl ?_
      exact aw_ireturn (ty := .int) dX3_signaturesMissing_42 rfl rfl (leb rfl) (leb rfl) ⟨_, rfl, h⟩
    · replace h := h.2 c1
      refine aw_aload_n 12 dX3_signaturesMissing_11 rfl 0 rfl rfl ?_
      refine aw_iload 14 dX3_signaturesMissing_12 4 rfl rfl ?_
      refine aw_iload_n 15 dX3_signaturesMissing_14 rfl 1 rfl rfl ?_
      obtain ⟨g4, h⟩ := h
      refine aw_callV (M' := M_X3_isHeardIn) 18 156 3 l0 [.int _, .int _] [] dX3_signaturesMissing_15 lk_RX3_156 mv_X3_isHeardIn mp_X3_isHeardIn rfl ⟨leb rfl, leb rfl⟩ rfl (ltb rfl) g4 rfl (leb rfl) (leb rfl) (leb rfl) rfl (am_X3_isHeardIn hG h) (kkI fun v3 X2 h => ?_) (kxN KrI.no)
      refine aw_widen (cc' := 0) (ss' := 0) (leb rfl) (leb rfl) ?_
      refine aw_if_eq 35 21 dX3_signaturesMissing_18 rfl rfl (fun c5 => ?_) (fun c5 => ?_)
      · replace h := h.1 c5
        refine aw_iinc 38 (v := 1) (lv' := [(4, _), (0, _), (1, _), (2, _), (3, _)]) dX3_signaturesMissing_35 4 rfl kI_1 (ltb rfl) rfl rfl ?_
        refine aw_goto 5 dX3_signaturesMissing_38 rfl ?_
        exact aw_pick [1, 2, 3, 4, 0] rfl h
      · replace h := h.2 c5
        refine aw_aload_n 22 dX3_signaturesMissing_21 rfl 0 rfl rfl ?_
        refine aw_iload 24 dX3_signaturesMissing_22 4 rfl rfl ?_
        refine aw_iload_n 25 dX3_signaturesMissing_24 rfl 1 rfl rfl ?_
        refine aw_iload_n 26 dX3_signaturesMissing_25 rfl 2 rfl rfl ?_
        obtain ⟨g8, h⟩ := h
        refine aw_callV (M' := M_X3_hasSignature) 29 159 3 l0 [.int _, .int _, .int _] [] dX3_signaturesMissing_26 lk_RX3_159 mv_X3_hasSignature mp_X3_hasSignature rfl ⟨leb rfl, leb rfl⟩ rfl (ltb rfl) g8 rfl (leb rfl) (leb rfl) (leb rfl) rfl (am_X3_hasSignature hG h) (kkI fun v7 X6 h => ?_) (kxN KrI.no)
        refine aw_widen (cc' := 0) (ss' := 0) (leb rfl) (leb rfl) ?_
        refine aw_if_ne 35 32 dX3_signaturesMissing_29 rfl rfl (fun c9 => ?_) (fun c9 => ?_)
        · replace h := h.1 c9
          refine aw_iinc 38 (v := 1) (lv' := [(4, _), (0, _), (1, _), (2, _), (3, _)]) dX3_signaturesMissing_35 4 rfl kI_1 (ltb rfl) rfl rfl ?_
          refine aw_goto 5 dX3_signaturesMissing_38 rfl ?_
          exact aw_pick [1, 2, 3, 4, 0] rfl h
        · replace h := h.2 c9
          refine aw_iinc 35 (v := 1) (lv' := [(3, _), (0, _), (1, _), (2, _), (4, _)]) dX3_signaturesMissing_32 3 rfl kI_1 (ltb rfl) rfl rfl ?_
          refine aw_iinc 38 (v := 1) (lv' := [(4, _), (3, _), (0, _), (1, _), (2, _)]) dX3_signaturesMissing_35 4 rfl kI_1 (ltb rfl) rfl rfl ?_
          refine aw_goto 5 dX3_signaturesMissing_38 rfl ?_
          exact aw_pick [2, 3, 4, 1, 0] rfl h)
set_option maxRecDepth 20000 in
theorem am_X3_signaturesMissing {G : GG} (hG : G.1.stackTraces = false) {l0 : Nat} {l1 : Int32} {l2 : Int32} {X : XH} {K : Int32 → XH → Prop} (h : w_X3_signaturesMissing l0 l1 l2 X K) : AM G M_X3_signaturesMissing X [.ref l0, .int l1, .int l2] (KrI K) := AM_of (by decide +kernel) rfl (leb rfl) hG (by
  show AW G M_X3_signaturesMissing 0 [(0, .ref l0), (1, .int l1), (2, .int l2)] [] X 0 0 _
  unfold w_X3_signaturesMissing at h
  refine aw_iconst 1 (v := 0) dX3_signaturesMissing_0 kI_0 rfl ?_
  refine aw_istore_n 2 (lv' := [(3, _), (0, _), (1, _), (2, _)]) dX3_signaturesMissing_1 rfl (ltb rfl) rfl rfl ?_
  refine aw_iconst 3 (v := 0) dX3_signaturesMissing_2 kI_0 rfl ?_
  refine aw_istore 5 (lv' := [(4, _), (3, _), (0, _), (1, _), (2, _)]) dX3_signaturesMissing_3 (ltb rfl) rfl rfl ?_
  exact aw_pick [2, 3, 4, 1, 0] rfl (aw_X3_signaturesMissing_5 hG  h))
set_option maxRecDepth 20000 in
theorem aw_X3_hasRatification_30 {G : GG} (hG : G.1.stackTraces = false) {P2 : Nat → Int32 → Int32 → XH → Prop} {l0 : Nat} {l1 : Int32} {l2 : Int32} {s0 : Int32} {X : XH} {K : Int32 → XH → Prop} (hO2 : ∀ (l0 : Nat) (l1 : Int32) (l2 : Int32) (X : XH), P2 l0 l1 l2 X → AW G M_X3_hasRatification 2 [(0, .ref l0), (1, .int l1), (2, .int l2)] [] X 0 0 (KrI K)) (h : w_X3_hasRatification_30 P2 l0 l1 l2 s0 X K) : AW G M_X3_hasRatification 30 [(0, .ref l0), (1, .int l1), (2, .int l2)] [.int s0] X 0 0 (KrI K) := by
  unfold w_X3_hasRatification_30 at h
  refine aw_istore_n 31 (lv' := [(3, _), (0, _), (1, _), (2, _)]) dX3_hasRatification_30 rfl (ltb rfl) rfl rfl ?_
  refine aw_aload_n 32 dX3_hasRatification_31 rfl 1 rfl rfl ?_
  refine aw_iload_n 33 dX3_hasRatification_32 rfl 3 rfl rfl ?_
  obtain ⟨g3, h⟩ := h
  refine aw_callV (M' := M_X3_clausesOn) 36 148 3 l0 [.int _] [] dX3_hasRatification_33 lk_RX3_148 mv_X3_clausesOn mp_X3_clausesOn rfl ⟨leb rfl, leb rfl⟩ rfl (ltb rfl) g3 rfl (leb rfl) (leb rfl) (leb rfl) rfl (am_X3_clausesOn hG h) (kkI fun v2 X1 h => ?_) (kxN KrI.no)
  refine aw_widen (cc' := 0) (ss' := 0) (leb rfl) (leb rfl) ?_
  refine aw_if_le 45 39 dX3_hasRatification_36 rfl rfl (fun c4 => ?_) (fun c4 => ?_)
  · replace h := h.1 c4
    refine aw_iinc 48 (v := 1) (lv' := [(2, _), (3, _), (0, _), (1, _)]) dX3_hasRatification_45 3 rfl kI_1 (ltb rfl) rfl rfl ?_
    refine aw_goto 2 dX3_hasRatification_48 rfl ?_
    exact aw_pick [2, 3, 0] rfl (hO2 _ _ _ _ h)
  · replace h := h.2 c4
    refine aw_iload_n 40 dX3_hasRatification_39 rfl 0 rfl rfl ?_
    refine aw_if_ne 45 43 dX3_hasRatification_40 rfl rfl (fun c5 => ?_) (fun c5 => ?_)
    · replace h := h.1 c5
      refine aw_iinc 48 (v := 1) (lv' := [(2, _), (3, _), (0, _), (1, _)]) dX3_hasRatification_45 3 rfl kI_1 (ltb rfl) rfl rfl ?_
      refine aw_goto 2 dX3_hasRatification_48 rfl ?_
      exact aw_pick [2, 3, 0] rfl (hO2 _ _ _ _ h)
    · replace h := h.2 c5
      refine aw_iconst 44 (v := 0) dX3_hasRatification_43 kI_0 rfl ?_
      exact aw_ireturn (ty := .boolean) dX3_hasRatification_44 rfl rfl (leb rfl) (leb rfl) ⟨_, rfl, h⟩
set_option maxRecDepth 20000 in
theorem aw_X3_hasRatification_2 {G : GG} (hG : G.1.stackTraces = false)  {l0 : Nat} {l1 : Int32} {l2 : Int32} {X : XH} {K : Int32 → XH → Prop}  (h : w_X3_hasRatification_2  l0 l1 l2 X K) : AW G M_X3_hasRatification 2 [(0, .ref l0), (1, .int l1), (2, .int l2)] [] X 0 0 (KrI K) :=
  h (fun l0 l1 l2 X => AW G M_X3_hasRatification 2 [(0, .ref l0), (1, .int l1), (2, .int l2)] [] X 0 0 (KrI K)) (fun l0 l1 l2 X h => by
    refine aw_iload_n 3 dX3_hasRatification_2 rfl 2 rfl rfl ?_
    refine aw_iconst 4 (v := 4) dX3_hasRatification_3 kI_4 rfl ?_
    refine aw_icmp_ge 51 7 dX3_hasRatification_4 rfl rfl (fun c1 => ?_) (fun c1 => ?_)
    · replace h := h.1 c1
      refine aw_aload_n 52 dX3_hasRatification_51 rfl 0 rfl rfl ?_
      obtain ⟨g2, h⟩ := h
      refine aw_getI 55 dX3_hasRatification_52 fl_RX3_45 rfl g2 rfl ?_
      refine aw_if_le 62 58 dX3_hasRatification_55 rfl rfl (fun c3 => ?_) (fun c3 => ?_)
      · replace h := h.1 c3
        refine aw_iconst 63 (v := 0) dX3_hasRatification_62 kI_0 rfl ?_
        exact aw_ireturn (ty := .boolean) dX3_hasRatification_63 rfl rfl (leb rfl) (leb rfl) ⟨_, rfl, h⟩
      · replace h := h.2 c3
        refine aw_iconst 59 (v := 1) dX3_hasRatification_58 kI_1 rfl ?_
        refine aw_goto 63 dX3_hasRatification_59 rfl ?_
        exact aw_ireturn (ty := .boolean) dX3_hasRatification_63 rfl rfl (leb rfl) (leb rfl) ⟨_, rfl, h⟩
    · replace h := h.2 c1
      refine aw_aload_n 8 dX3_hasRatification_7 rfl 0 rfl rfl ?_
      refine aw_iload_n 9 dX3_hasRatification_8 rfl 2 rfl rfl ?_
      refine aw_iload_n 10 dX3_hasRatification_9 rfl 1 rfl rfl ?_
      obtain ⟨g6, h⟩ := h
      refine aw_callV (M' := M_X3_hasMix) 13 169 3 l0 [.int _, .int _] [] dX3_hasRatification_10 lk_RX3_169 mv_X3_hasMix mp_X3_hasMix rfl ⟨leb rfl, leb rfl⟩ rfl (ltb rfl) g6 rfl (leb rfl) (leb rfl) (leb rfl) rfl (am_X3_hasMix hG h) (kkI fun v5 X4 h => ?_) (kxN KrI.no)
      refine aw_widen (cc' := 0) (ss' := 0) (leb rfl) (leb rfl) ?_
      refine aw_if_eq 29 16 dX3_hasRatification_13 rfl rfl (fun c7 => ?_) (fun c7 => ?_)
      · replace h := h.1 c7
        refine aw_iconst 30 (v := 0) dX3_hasRatification_29 kI_0 rfl ?_
        exact aw_pick [0, 1, 2] rfl (aw_X3_hasRatification_30 hG (fun _ _ _ _ h => h) h)
      · replace h := h.2 c7
        refine aw_aload_n 17 dX3_hasRatification_16 rfl 0 rfl rfl ?_
        refine aw_iload_n 18 dX3_hasRatification_17 rfl 2 rfl rfl ?_
        refine aw_iload_n 19 dX3_hasRatification_18 rfl 1 rfl rfl ?_
        obtain ⟨g10, h⟩ := h
        refine aw_callV (M' := M_X3_signaturesMissing) 22 172 3 l0 [.int _, .int _] [] dX3_hasRatification_19 lk_RX3_172 mv_X3_signaturesMissing mp_X3_signaturesMissing rfl ⟨leb rfl, leb rfl⟩ rfl (ltb rfl) g10 rfl (leb rfl) (leb rfl) (leb rfl) rfl (am_X3_signaturesMissing hG h) (kkI fun v9 X8 h => ?_) (kxN KrI.no)
        refine aw_widen (cc' := 0) (ss' := 0) (leb rfl) (leb rfl) ?_
        refine aw_if_ne 29 25 dX3_hasRatification_22 rfl rfl (fun c11 => ?_) (fun c11 => ?_)
        · replace h := h.1 c11
          refine aw_iconst 30 (v := 0) dX3_hasRatification_29 kI_0 rfl ?_
          exact aw_pick [0, 1, 2] rfl (aw_X3_hasRatification_30 hG (fun _ _ _ _ h => h) h)
        · replace h := h.2 c11
          refine aw_iconst 26 (v := 1) dX3_hasRatification_25 kI_1 rfl ?_
          refine aw_goto 30 dX3_hasRatification_26 rfl ?_
          exact aw_pick [0, 1, 2] rfl (aw_X3_hasRatification_30 hG (fun _ _ _ _ h => h) h))
set_option maxRecDepth 20000 in
theorem am_X3_hasRatification {G : GG} (hG : G.1.stackTraces = false) {l0 : Nat} {l1 : Int32} {X : XH} {K : Int32 → XH → Prop} (h : w_X3_hasRatification l0 l1 X K) : AM G M_X3_hasRatification X [.ref l0, .int l1] (KrI K) := AM_of (by decide +kernel) rfl (leb rfl) hG (by
  show AW G M_X3_hasRatification 0 [(0, .ref l0), (1, .int l1)] [] X 0 0 _
  unfold w_X3_hasRatification at h
  refine aw_iconst 1 (v := 0) dX3_hasRatification_0 kI_0 rfl ?_
  refine aw_istore_n 2 (lv' := [(2, _), (0, _), (1, _)]) dX3_hasRatification_1 rfl (ltb rfl) rfl rfl ?_
  exact aw_pick [1, 2, 0] rfl (aw_X3_hasRatification_2 hG  h))
set_option maxRecDepth 20000 in
theorem am_X4_isRatified {G : GG} (hG : G.1.stackTraces = false) {l0 : Nat} {l1 : Int32} {X : XH} {K : Int32 → XH → Prop} {KX : String → XH → Prop} (h : w_X4_isRatified l0 l1 X K KX) : AM G M_X4_isRatified X [.ref l0, .int l1] (KxT (KrI K) KX) := AM_of (by decide +kernel) rfl (leb rfl) hG (by
  show AW G M_X4_isRatified 0 [(0, .ref l0), (1, .int l1)] [] X 0 0 _
  unfold w_X4_isRatified at h
  refine aw_iload_n 1 dX4_isRatified_0 rfl 1 rfl rfl ?_
  refine aw_callS (M' := M_X4_checkTongue) 4 195 [.int _] [] dX4_isRatified_1 lk_RX4_195 ms_X4_checkTongue mp_X4_checkTongue rfl ⟨leb rfl, leb rfl⟩ rfl (leb rfl) (leb rfl) (leb rfl) rfl (am_X4_checkTongue hG h) (kkT (kkV fun X1 h => ?_)) (kxT KrV.no fun E X h => at_out rfl (leb rfl) (leb rfl) (Or.inr ⟨_, rfl, h⟩))
  refine aw_widen (cc' := 1) (ss' := 6) (leb rfl) (leb rfl) ?_
  refine aw_aload_n 5 dX4_isRatified_4 rfl 0 rfl rfl ?_
  obtain ⟨g2, h⟩ := h
  obtain ⟨g3, h⟩ := h
  refine aw_getR 8 dX4_isRatified_5 fl_RX4_10 rfl g2 g3 rfl ?_
  refine aw_iload_n 9 dX4_isRatified_8 rfl 1 rfl rfl ?_
  obtain ⟨g6, h⟩ := h
  refine aw_callV (M' := M_X3_hasRatification) 12 325 3 (hR X1 l0 0) [.int _] [] dX4_isRatified_9 lk_RX4_325 mv_X3_hasRatification mp_X3_hasRatification rfl ⟨leb rfl, leb rfl⟩ rfl (ltb rfl) g6 rfl (leb rfl) (leb rfl) (leb rfl) rfl (am_X3_hasRatification hG h) (kkI fun v5 X4 h => ?_) (kxN KrI.no)
  refine aw_widen (cc' := 1) (ss' := 6) (leb rfl) (leb rfl) ?_
  obtain ⟨g7, h⟩ := h
  exact aw_ireturn (ty := .boolean) dX4_isRatified_12 rfl (narZ g7) (leb rfl) (leb rfl) (Or.inl ⟨_, rfl, h⟩))
set_option maxRecDepth 20000 in
theorem am_L_isRatified {G : GG} (hG : G.1.stackTraces = false) {l0 : Nat} {l1 : Int32} {l2 : Nat} {X : XH} {K : Int32 → XH → Prop} (h : w_L_isRatified l0 l1 l2 X K) : AM G M_L_isRatified X [.ref l0, .int l1, .ref l2] (KrI K) := AM_ofH (by decide +kernel) (0, 16, 19, 13) [] rfl (leb rfl) hG (by
  show AW G M_L_isRatified 0 [(0, .ref l0), (1, .int l1), (2, .ref l2)] [] X 0 0 _
  unfold w_L_isRatified at h
  refine aw_aload_n 1 dL_isRatified_0 rfl 2 rfl rfl ?_
  refine aw_iconst 2 (v := 0) dL_isRatified_1 kI_0 rfl ?_
  refine aw_aload_n 3 dL_isRatified_2 rfl 0 rfl rfl ?_
  refine aw_iload_n 4 dL_isRatified_3 rfl 1 rfl rfl ?_
  obtain ⟨g3, h⟩ := h
  refine aw_callV (M' := M_X4_isRatified) 7 166 4 l0 [.int _] [.int _, .ref _] dL_isRatified_4 lk_RL_166 mv_X4_isRatified mp_X4_isRatified rfl ⟨leb rfl, leb rfl⟩ rfl (ltb rfl) g3 rfl (leb rfl) (leb rfl) (leb rfl) rfl (am_X4_isRatified hG h) (kkT (kkI fun v2 X1 h => ?_)) (kxT KrI.no fun E X1 h => ?_)
  · refine aw_widen (cc' := 1) (ss' := 6) (leb rfl) (leb rfl) ?_
    refine aw_if_eq 14 10 dL_isRatified_7 rfl rfl (fun c4 => ?_) (fun c4 => ?_)
    · replace h := h.1 c4
      refine aw_lconst 15 (v := 0) dL_isRatified_14 kL_0 rfl ?_
      obtain ⟨g5, h⟩ := h
      obtain ⟨g6, h⟩ := h
      refine aw_lastore 16 dL_isRatified_15 g5 g6 rfl ?_
      refine aw_goto 22 dL_isRatified_16 rfl ?_
      refine aw_iconst 23 (v := 0) dL_isRatified_22 kI_0 rfl ?_
      exact aw_ireturn (ty := .int) dL_isRatified_23 rfl rfl (leb rfl) (leb rfl) ⟨_, rfl, h⟩
    · replace h := h.2 c4
      refine aw_lconst 11 (v := 1) dL_isRatified_10 kL_1 rfl ?_
      refine aw_goto 15 dL_isRatified_11 rfl ?_
      obtain ⟨g7, h⟩ := h
      obtain ⟨g8, h⟩ := h
      refine aw_lastore 16 dL_isRatified_15 g7 g8 rfl ?_
      refine aw_goto 22 dL_isRatified_16 rfl ?_
      refine aw_iconst 23 (v := 0) dL_isRatified_22 kI_0 rfl ?_
      exact aw_ireturn (ty := .int) dL_isRatified_23 rfl rfl (leb rfl) (leb rfl) ⟨_, rfl, h⟩
  · obtain ⟨hE, h⟩ := h
    rcases hE with rfl
    refine aw_atc (lv' := [(0, .ref _), (1, .int _), (2, .ref _)]) [] (0, 16, 19, 13) [] rfl (fun z hz => nomatch hz) (by decide) (by decide) (tk3 (i := 61) (by decide +kernel) rfl) (by decide) 3 1 20 (Or.inl ⟨3, rfl, dL_isRatified_19, rfl⟩) (ltb rfl) rfl ?_
    refine aw_widen (cc' := 1) (ss' := 6) (leb rfl) (leb rfl) ?_
    replace h := h rfl
    refine aw_iconst 21 (v := 1) dL_isRatified_20 kI_1 rfl ?_
    exact aw_ireturn (ty := .int) dL_isRatified_21 rfl rfl (leb rfl) (leb rfl) ⟨_, rfl, h⟩)
set_option maxRecDepth 20000 in
theorem am_X4_isRecorded {G : GG} (hG : G.1.stackTraces = false) {l0 : Nat} {l1 : Int32} {l2 : Int32} {X : XH} {K : Int32 → XH → Prop} {KX : String → XH → Prop} (h : w_X4_isRecorded l0 l1 l2 X K KX) : AM G M_X4_isRecorded X [.ref l0, .int l1, .int l2] (KxT (KrI K) KX) := AM_of (by decide +kernel) rfl (leb rfl) hG (by
  show AW G M_X4_isRecorded 0 [(0, .ref l0), (1, .int l1), (2, .int l2)] [] X 0 0 _
  unfold w_X4_isRecorded at h
  refine aw_aload_n 1 dX4_isRecorded_0 rfl 0 rfl rfl ?_
  refine aw_iload_n 2 dX4_isRecorded_1 rfl 1 rfl rfl ?_
  refine aw_iload_n 3 dX4_isRecorded_2 rfl 2 rfl rfl ?_
  obtain ⟨g2, h⟩ := h
  refine aw_callV (M' := M_X4_checkTranslation) 6 115 4 l0 [.int _, .int _] [] dX4_isRecorded_3 lk_RX4_115 mv_X4_checkTranslation mp_X4_checkTranslation rfl ⟨leb rfl, leb rfl⟩ rfl (ltb rfl) g2 rfl (leb rfl) (leb rfl) (leb rfl) rfl (am_X4_checkTranslation hG h) (kkT (kkV fun X1 h => ?_)) (kxT KrV.no fun E X h => at_out rfl (leb rfl) (leb rfl) (Or.inr ⟨_, rfl, h⟩))
  refine aw_widen (cc' := 2) (ss' := 12) (leb rfl) (leb rfl) ?_
  refine aw_aload_n 7 dX4_isRecorded_6 rfl 0 rfl rfl ?_
  obtain ⟨g3, h⟩ := h
  obtain ⟨g4, h⟩ := h
  refine aw_getR 10 dX4_isRecorded_7 fl_RX4_10 rfl g3 g4 rfl ?_
  refine aw_iload_n 11 dX4_isRecorded_10 rfl 1 rfl rfl ?_
  refine aw_iload_n 12 dX4_isRecorded_11 rfl 2 rfl rfl ?_
  obtain ⟨g7, h⟩ := h
  refine aw_callV (M' := M_X3_isTaken) 15 119 3 (hR X1 l0 0) [.int _, .int _] [] dX4_isRecorded_12 lk_RX4_119 mv_X3_isTaken mp_X3_isTaken rfl ⟨leb rfl, leb rfl⟩ rfl (ltb rfl) g7 rfl (leb rfl) (leb rfl) (leb rfl) rfl (am_X3_isTaken hG h) (kkI fun v6 X5 h => ?_) (kxN KrI.no)
  refine aw_widen (cc' := 2) (ss' := 12) (leb rfl) (leb rfl) ?_
  obtain ⟨g8, h⟩ := h
  exact aw_ireturn (ty := .boolean) dX4_isRecorded_15 rfl (narZ g8) (leb rfl) (leb rfl) (Or.inl ⟨_, rfl, h⟩))
set_option maxRecDepth 20000 in
theorem am_L_isRecorded {G : GG} (hG : G.1.stackTraces = false) {l0 : Nat} {l1 : Int32} {l2 : Int32} {l3 : Nat} {X : XH} {K : Int32 → XH → Prop} (h : w_L_isRecorded l0 l1 l2 l3 X K) : AM G M_L_isRecorded X [.ref l0, .int l1, .int l2, .ref l3] (KrI K) := AM_ofH (by decide +kernel) (0, 17, 20, 13) [] rfl (leb rfl) hG (by
  show AW G M_L_isRecorded 0 [(0, .ref l0), (1, .int l1), (2, .int l2), (3, .ref l3)] [] X 0 0 _
  unfold w_L_isRecorded at h
  refine aw_aload_n 1 dL_isRecorded_0 rfl 3 rfl rfl ?_
  refine aw_iconst 2 (v := 0) dL_isRecorded_1 kI_0 rfl ?_
  refine aw_aload_n 3 dL_isRecorded_2 rfl 0 rfl rfl ?_
  refine aw_iload_n 4 dL_isRecorded_3 rfl 1 rfl rfl ?_
  refine aw_iload_n 5 dL_isRecorded_4 rfl 2 rfl rfl ?_
  obtain ⟨g3, h⟩ := h
  refine aw_callV (M' := M_X4_isRecorded) 8 96 4 l0 [.int _, .int _] [.int _, .ref _] dL_isRecorded_5 lk_RL_96 mv_X4_isRecorded mp_X4_isRecorded rfl ⟨leb rfl, leb rfl⟩ rfl (ltb rfl) g3 rfl (leb rfl) (leb rfl) (leb rfl) rfl (am_X4_isRecorded hG h) (kkT (kkI fun v2 X1 h => ?_)) (kxT KrI.no fun E X1 h => ?_)
  · refine aw_widen (cc' := 2) (ss' := 12) (leb rfl) (leb rfl) ?_
    refine aw_if_eq 15 11 dL_isRecorded_8 rfl rfl (fun c4 => ?_) (fun c4 => ?_)
    · replace h := h.1 c4
      refine aw_lconst 16 (v := 0) dL_isRecorded_15 kL_0 rfl ?_
      obtain ⟨g5, h⟩ := h
      obtain ⟨g6, h⟩ := h
      refine aw_lastore 17 dL_isRecorded_16 g5 g6 rfl ?_
      refine aw_goto 24 dL_isRecorded_17 rfl ?_
      refine aw_iconst 25 (v := 0) dL_isRecorded_24 kI_0 rfl ?_
      exact aw_ireturn (ty := .int) dL_isRecorded_25 rfl rfl (leb rfl) (leb rfl) ⟨_, rfl, h⟩
    · replace h := h.2 c4
      refine aw_lconst 12 (v := 1) dL_isRecorded_11 kL_1 rfl ?_
      refine aw_goto 16 dL_isRecorded_12 rfl ?_
      obtain ⟨g7, h⟩ := h
      obtain ⟨g8, h⟩ := h
      refine aw_lastore 17 dL_isRecorded_16 g7 g8 rfl ?_
      refine aw_goto 24 dL_isRecorded_17 rfl ?_
      refine aw_iconst 25 (v := 0) dL_isRecorded_24 kI_0 rfl ?_
      exact aw_ireturn (ty := .int) dL_isRecorded_25 rfl rfl (leb rfl) (leb rfl) ⟨_, rfl, h⟩
  · obtain ⟨hE, h⟩ := h
    rcases hE with rfl
    refine aw_atc (lv' := [(0, .ref _), (1, .int _), (2, .int _), (3, .ref _)]) [] (0, 17, 20, 13) [] rfl (fun z hz => nomatch hz) (by decide) (by decide) (tk3 (i := 61) (by decide +kernel) rfl) (by decide) 4 2 22 (Or.inr ⟨dL_isRecorded_20, rfl⟩) (ltb rfl) rfl ?_
    refine aw_widen (cc' := 2) (ss' := 12) (leb rfl) (leb rfl) ?_
    replace h := h rfl
    refine aw_iconst 23 (v := 1) dL_isRecorded_22 kI_1 rfl ?_
    exact aw_ireturn (ty := .int) dL_isRecorded_23 rfl rfl (leb rfl) (leb rfl) ⟨_, rfl, h⟩)
set_option maxRecDepth 20000 in
theorem am_X4_isTranslated {G : GG} (hG : G.1.stackTraces = false) {l0 : Nat} {l1 : Int32} {l2 : Int32} {X : XH} {K : Int32 → XH → Prop} {KX : String → XH → Prop} (h : w_X4_isTranslated l0 l1 l2 X K KX) : AM G M_X4_isTranslated X [.ref l0, .int l1, .int l2] (KxT (KrI K) KX) := AM_of (by decide +kernel) rfl (leb rfl) hG (by
  show AW G M_X4_isTranslated 0 [(0, .ref l0), (1, .int l1), (2, .int l2)] [] X 0 0 _
  unfold w_X4_isTranslated at h
  refine aw_aload_n 1 dX4_isTranslated_0 rfl 0 rfl rfl ?_
  refine aw_iload_n 2 dX4_isTranslated_1 rfl 1 rfl rfl ?_
  refine aw_iload_n 3 dX4_isTranslated_2 rfl 2 rfl rfl ?_
  obtain ⟨g2, h⟩ := h
  refine aw_callV (M' := M_X4_checkTranslation) 6 115 4 l0 [.int _, .int _] [] dX4_isTranslated_3 lk_RX4_115 mv_X4_checkTranslation mp_X4_checkTranslation rfl ⟨leb rfl, leb rfl⟩ rfl (ltb rfl) g2 rfl (leb rfl) (leb rfl) (leb rfl) rfl (am_X4_checkTranslation hG h) (kkT (kkV fun X1 h => ?_)) (kxT KrV.no fun E X h => at_out rfl (leb rfl) (leb rfl) (Or.inr ⟨_, rfl, h⟩))
  refine aw_widen (cc' := 2) (ss' := 12) (leb rfl) (leb rfl) ?_
  refine aw_aload_n 7 dX4_isTranslated_6 rfl 0 rfl rfl ?_
  obtain ⟨g3, h⟩ := h
  obtain ⟨g4, h⟩ := h
  refine aw_getR 10 dX4_isTranslated_7 fl_RX4_10 rfl g3 g4 rfl ?_
  refine aw_iload_n 11 dX4_isTranslated_10 rfl 1 rfl rfl ?_
  refine aw_iload_n 12 dX4_isTranslated_11 rfl 2 rfl rfl ?_
  obtain ⟨g7, h⟩ := h
  refine aw_callV (M' := M_X3_hasTranslation) 15 283 3 (hR X1 l0 0) [.int _, .int _] [] dX4_isTranslated_12 lk_RX4_283 mv_X3_hasTranslation mp_X3_hasTranslation rfl ⟨leb rfl, leb rfl⟩ rfl (ltb rfl) g7 rfl (leb rfl) (leb rfl) (leb rfl) rfl (am_X3_hasTranslation hG h) (kkI fun v6 X5 h => ?_) (kxN KrI.no)
  refine aw_widen (cc' := 2) (ss' := 12) (leb rfl) (leb rfl) ?_
  obtain ⟨g8, h⟩ := h
  exact aw_ireturn (ty := .boolean) dX4_isTranslated_15 rfl (narZ g8) (leb rfl) (leb rfl) (Or.inl ⟨_, rfl, h⟩))
set_option maxRecDepth 20000 in
theorem am_L_isTranslated {G : GG} (hG : G.1.stackTraces = false) {l0 : Nat} {l1 : Int32} {l2 : Int32} {l3 : Nat} {X : XH} {K : Int32 → XH → Prop} (h : w_L_isTranslated l0 l1 l2 l3 X K) : AM G M_L_isTranslated X [.ref l0, .int l1, .int l2, .ref l3] (KrI K) := AM_ofH (by decide +kernel) (0, 17, 20, 13) [] rfl (leb rfl) hG (by
  show AW G M_L_isTranslated 0 [(0, .ref l0), (1, .int l1), (2, .int l2), (3, .ref l3)] [] X 0 0 _
  unfold w_L_isTranslated at h
  refine aw_aload_n 1 dL_isTranslated_0 rfl 3 rfl rfl ?_
  refine aw_iconst 2 (v := 0) dL_isTranslated_1 kI_0 rfl ?_
  refine aw_aload_n 3 dL_isTranslated_2 rfl 0 rfl rfl ?_
  refine aw_iload_n 4 dL_isTranslated_3 rfl 1 rfl rfl ?_
  refine aw_iload_n 5 dL_isTranslated_4 rfl 2 rfl rfl ?_
  obtain ⟨g3, h⟩ := h
  refine aw_callV (M' := M_X4_isTranslated) 8 86 4 l0 [.int _, .int _] [.int _, .ref _] dL_isTranslated_5 lk_RL_86 mv_X4_isTranslated mp_X4_isTranslated rfl ⟨leb rfl, leb rfl⟩ rfl (ltb rfl) g3 rfl (leb rfl) (leb rfl) (leb rfl) rfl (am_X4_isTranslated hG h) (kkT (kkI fun v2 X1 h => ?_)) (kxT KrI.no fun E X1 h => ?_)
  · refine aw_widen (cc' := 2) (ss' := 12) (leb rfl) (leb rfl) ?_
    refine aw_if_eq 15 11 dL_isTranslated_8 rfl rfl (fun c4 => ?_) (fun c4 => ?_)
    · replace h := h.1 c4
      refine aw_lconst 16 (v := 0) dL_isTranslated_15 kL_0 rfl ?_
      obtain ⟨g5, h⟩ := h
      obtain ⟨g6, h⟩ := h
      refine aw_lastore 17 dL_isTranslated_16 g5 g6 rfl ?_
      refine aw_goto 24 dL_isTranslated_17 rfl ?_
      refine aw_iconst 25 (v := 0) dL_isTranslated_24 kI_0 rfl ?_
      exact aw_ireturn (ty := .int) dL_isTranslated_25 rfl rfl (leb rfl) (leb rfl) ⟨_, rfl, h⟩
    · replace h := h.2 c4
      refine aw_lconst 12 (v := 1) dL_isTranslated_11 kL_1 rfl ?_
      refine aw_goto 16 dL_isTranslated_12 rfl ?_
      obtain ⟨g7, h⟩ := h
      obtain ⟨g8, h⟩ := h
      refine aw_lastore 17 dL_isTranslated_16 g7 g8 rfl ?_
      refine aw_goto 24 dL_isTranslated_17 rfl ?_
      refine aw_iconst 25 (v := 0) dL_isTranslated_24 kI_0 rfl ?_
      exact aw_ireturn (ty := .int) dL_isTranslated_25 rfl rfl (leb rfl) (leb rfl) ⟨_, rfl, h⟩
  · obtain ⟨hE, h⟩ := h
    rcases hE with rfl
    refine aw_atc (lv' := [(0, .ref _), (1, .int _), (2, .int _), (3, .ref _)]) [] (0, 17, 20, 13) [] rfl (fun z hz => nomatch hz) (by decide) (by decide) (tk3 (i := 61) (by decide +kernel) rfl) (by decide) 4 2 22 (Or.inr ⟨dL_isTranslated_20, rfl⟩) (ltb rfl) rfl ?_
    refine aw_widen (cc' := 2) (ss' := 12) (leb rfl) (leb rfl) ?_
    replace h := h rfl
    refine aw_iconst 23 (v := 1) dL_isTranslated_22 kI_1 rfl ?_
    exact aw_ireturn (ty := .int) dL_isTranslated_23 rfl rfl (leb rfl) (leb rfl) ⟨_, rfl, h⟩)
set_option maxRecDepth 20000 in
theorem am_X4_keep {G : GG} (hG : G.1.stackTraces = false) {l0 : Nat} {l1 : Int32} {X : XH} {K : XH → Prop} {KX : String → XH → Prop} (h : w_X4_keep l0 l1 X K KX) : AM G M_X4_keep X [.ref l0, .int l1] (KxT (KrV K) KX) := AM_of (by decide +kernel) rfl (leb rfl) hG (by
  show AW G M_X4_keep 0 [(0, .ref l0), (1, .int l1)] [] X 0 0 _
  unfold w_X4_keep at h
  refine aw_iload_n 1 dX4_keep_0 rfl 1 rfl rfl ?_
  refine aw_iconst 2 (v := 0) dX4_keep_1 kI_0 rfl ?_
  refine aw_iconst 3 (v := 1) dX4_keep_2 kI_1 rfl ?_
  refine aw_callS (M' := M_X4_checkRange) 6 52 [.int _, .int _, .int _] [] dX4_keep_3 lk_RX4_52 ms_X4_checkRange mp_X4_checkRange rfl ⟨leb rfl, leb rfl⟩ rfl (leb rfl) (leb rfl) (leb rfl) rfl (am_X4_checkRange hG h) (kkT (kkV fun X1 h => ?_)) (kxT KrV.no fun E X h => at_out rfl (leb rfl) (leb rfl) (Or.inr ⟨_, rfl, h⟩))
  refine aw_widen (cc' := 1) (ss' := 6) (leb rfl) (leb rfl) ?_
  refine aw_aload_n 7 dX4_keep_6 rfl 0 rfl rfl ?_
  obtain ⟨g2, h⟩ := h
  obtain ⟨g3, h⟩ := h
  refine aw_getR 10 dX4_keep_7 fl_RX4_23 rfl g2 g3 rfl ?_
  refine aw_iload_n 11 dX4_keep_10 rfl 1 rfl rfl ?_
  refine aw_callS (M' := M_X4_treatyAt) 14 265 [.ref _, .int _] [] dX4_keep_11 lk_RX4_265 ms_X4_treatyAt mp_X4_treatyAt rfl ⟨leb rfl, leb rfl⟩ rfl (leb rfl) (leb rfl) (leb rfl) rfl (am_X4_treatyAt hG h) (kkR fun v5 X4 h => ?_) (kxN KrR.no)
  refine aw_widen (cc' := 1) (ss' := 6) (leb rfl) (leb rfl) ?_
  refine aw_astore_n 15 (lv' := [(2, _), (0, _), (1, _)]) dX4_keep_14 rfl (ltb rfl) rfl rfl ?_
  refine aw_aload_n 16 dX4_keep_15 rfl 0 rfl rfl ?_
  refine aw_ifnull 19 dX4_keep_16 rfl ?_
  refine aw_iload_n 20 dX4_keep_19 rfl 2 rfl rfl ?_
  refine aw_if_lt 47 23 dX4_keep_20 rfl rfl (fun c6 => ?_) (fun c6 => ?_)
  · replace h := h.1 c6
    exact aw_return dX4_keep_47 rfl (leb rfl) (leb rfl) (Or.inl ⟨rfl, h⟩)
  · replace h := h.2 c6
    refine aw_iload_n 24 dX4_keep_23 rfl 2 rfl rfl ?_
    refine aw_aload_n 25 dX4_keep_24 rfl 1 rfl rfl ?_
    obtain ⟨g7, h⟩ := h
    obtain ⟨g8, h⟩ := h
    refine aw_getR 28 dX4_keep_25 fl_RX4_27 rfl g7 g8 rfl ?_
    obtain ⟨g9, h⟩ := h
    refine aw_alen 29 dX4_keep_28 g9 rfl ?_
    refine aw_icmp_ge 47 32 dX4_keep_29 rfl rfl (fun c10 => ?_) (fun c10 => ?_)
    · replace h := h.1 c10
      exact aw_return dX4_keep_47 rfl (leb rfl) (leb rfl) (Or.inl ⟨rfl, h⟩)
    · replace h := h.2 c10
      refine aw_aload_n 33 dX4_keep_32 rfl 0 rfl rfl ?_
      refine aw_aload_n 34 dX4_keep_33 rfl 1 rfl rfl ?_
      obtain ⟨g11, h⟩ := h
      refine aw_getR 37 dX4_keep_34 fl_RX4_10 rfl g7 g11 rfl ?_
      obtain ⟨g13, h⟩ := h
      refine aw_callV (M' := M_X3_becomeLike) 40 269 3 v5 [.ref _] [] dX4_keep_37 lk_RX4_269 mv_X3_becomeLike mp_X3_becomeLike rfl ⟨leb rfl, leb rfl⟩ rfl (ltb rfl) g13 rfl (leb rfl) (leb rfl) (leb rfl) rfl (am_X3_becomeLike hG h) (kkV fun X12 h => ?_) (kxN KrV.no)
      refine aw_widen (cc' := 1) (ss' := 6) (leb rfl) (leb rfl) ?_
      refine aw_aload_n 41 dX4_keep_40 rfl 1 rfl rfl ?_
      obtain ⟨g14, h⟩ := h
      obtain ⟨g15, h⟩ := h
      refine aw_getR 44 dX4_keep_41 fl_RX4_27 rfl g14 g15 rfl ?_
      refine aw_iload_n 45 dX4_keep_44 rfl 2 rfl rfl ?_
      refine aw_iconst 46 (v := 1) dX4_keep_45 kI_1 rfl ?_
      obtain ⟨g16, h⟩ := h
      obtain ⟨g17, h⟩ := h
      refine aw_bastore 47 dX4_keep_46 g16 g17 (Or.inr rfl) rfl ?_
      exact aw_return dX4_keep_47 rfl (leb rfl) (leb rfl) (Or.inl ⟨rfl, h⟩))
set_option maxRecDepth 20000 in
theorem am_L_keep {G : GG} (hG : G.1.stackTraces = false) {l0 : Nat} {l1 : Int32} {X : XH} {K : Int32 → XH → Prop} (h : w_L_keep l0 l1 X K) : AM G M_L_keep X [.ref l0, .int l1] (KrI K) := AM_ofH (by decide +kernel) (0, 5, 8, 15) [] rfl (leb rfl) hG (by
  show AW G M_L_keep 0 [(0, .ref l0), (1, .int l1)] [] X 0 0 _
  unfold w_L_keep at h
  refine aw_aload_n 1 dL_keep_0 rfl 0 rfl rfl ?_
  refine aw_iload_n 2 dL_keep_1 rfl 1 rfl rfl ?_
  obtain ⟨g2, h⟩ := h
  refine aw_callV (M' := M_X4_keep) 5 64 4 l0 [.int _] [] dL_keep_2 lk_RL_64 mv_X4_keep mp_X4_keep rfl ⟨leb rfl, leb rfl⟩ rfl (ltb rfl) g2 rfl (leb rfl) (leb rfl) (leb rfl) rfl (am_X4_keep hG h) (kkT (kkV fun X1 h => ?_)) (kxT KrV.no fun E X1 h => ?_)
  · refine aw_widen (cc' := 1) (ss' := 6) (leb rfl) (leb rfl) ?_
    refine aw_goto 11 dL_keep_5 rfl ?_
    refine aw_iconst 12 (v := 0) dL_keep_11 kI_0 rfl ?_
    exact aw_ireturn (ty := .int) dL_keep_12 rfl rfl (leb rfl) (leb rfl) ⟨_, rfl, h⟩
  · obtain ⟨hE, h⟩ := h
    rcases hE with rfl
    refine aw_atc (lv' := [(0, .ref _), (1, .int _)]) [] (0, 5, 8, 15) [] rfl (fun z hz => nomatch hz) (by decide) (by decide) (tk3 (i := 62) (by decide +kernel) rfl) (by decide) 2 1 9 (Or.inl ⟨2, rfl, dL_keep_8, rfl⟩) (ltb rfl) rfl ?_
    refine aw_widen (cc' := 1) (ss' := 6) (leb rfl) (leb rfl) ?_
    replace h := h rfl
    refine aw_iconst 10 (v := 1) dL_keep_9 kI_1 rfl ?_
    exact aw_ireturn (ty := .int) dL_keep_10 rfl rfl (leb rfl) (leb rfl) ⟨_, rfl, h⟩)
set_option maxRecDepth 20000 in
theorem aw_X3_init_94 {G : GG} (hG : G.1.stackTraces = false)  {l0 : Nat} {l1 : Int32} {X : XH} {K : XH → Prop}  (h : w_X3_init_94  l0 l1 X K) : AW G M_X3_init 94 [(0, .ref l0), (1, .int l1)] [] X 11 366 (KrV K) :=
  h (fun l0 l1 X => AW G M_X3_init 94 [(0, .ref l0), (1, .int l1)] [] X 11 366 (KrV K)) (fun l0 l1 X h => by
    refine aw_iload_n 95 dX3_init_94 rfl 1 rfl rfl ?_
    refine aw_aload_n 96 dX3_init_95 rfl 0 rfl rfl ?_
    obtain ⟨g1, h⟩ := h
    obtain ⟨g2, h⟩ := h
    refine aw_getR 99 dX3_init_96 fl_RX3_33 rfl g1 g2 rfl ?_
    obtain ⟨g3, h⟩ := h
    refine aw_alen 100 dX3_init_99 g3 rfl ?_
    refine aw_icmp_ge 124 103 dX3_init_100 rfl rfl (fun c4 => ?_) (fun c4 => ?_)
    · replace h := h.1 c4
      exact aw_return dX3_init_124 rfl (leb rfl) (leb rfl) ⟨rfl, h⟩
    · replace h := h.2 c4
      refine aw_aload_n 104 dX3_init_103 rfl 0 rfl rfl ?_
      refine aw_getR 107 dX3_init_104 fl_RX3_33 rfl g1 g2 rfl ?_
      refine aw_iload_n 108 dX3_init_107 rfl 1 rfl rfl ?_
      refine aw_bipush 110 (v := 60) dX3_init_108 kB_60 rfl ?_
      refine aw_bipush 112 (v := 10) dX3_init_110 kB_10 rfl ?_
      refine aw_iload_n 113 dX3_init_112 rfl 1 rfl rfl ?_
      refine aw_iconst 114 (v := 3) dX3_init_113 kI_3 rfl ?_
      refine aw_irem 115 dX3_init_114 (by decide) rfl ?_
      refine aw_imul 116 dX3_init_115 rfl ?_
      refine aw_iadd 117 dX3_init_116 rfl ?_
      obtain ⟨g5, h⟩ := h
      obtain ⟨g6, h⟩ := h
      refine aw_iastore 118 dX3_init_117 g5 g6 rfl ?_
      refine aw_iinc 121 (v := 1) (lv' := [(1, _), (0, _)]) dX3_init_118 1 rfl kI_1 (ltb rfl) rfl rfl ?_
      refine aw_goto 94 dX3_init_121 rfl ?_
      exact aw_pick [1, 0] rfl h)
set_option maxRecDepth 20000 in
theorem am_X3_init {G : GG} (hG : G.1.stackTraces = false) {l0 : Nat} {X : XH} {K : XH → Prop} (h : w_X3_init l0 X K) : AM G M_X3_init X [.ref l0] (KrV K) := AM_of (by decide +kernel) rfl (leb rfl) hG (by
  show AW G M_X3_init 0 [(0, .ref l0)] [] X 0 0 _
  unfold w_X3_init at h
  refine aw_aload_n 1 dX3_init_0 rfl 0 rfl rfl ?_
  refine aw_objinit 4 dX3_init_1 (tk1 (i := 30) (by decide +kernel) rfl) (tk1 (i := 23) (by decide +kernel) rfl) (tk1 (i := 24) (by decide +kernel) rfl) (leb rfl) (leb rfl) rfl ?_
  refine aw_aload_n 5 dX3_init_4 rfl 0 rfl rfl ?_
  refine aw_bipush 7 (v := 24) dX3_init_5 kB_24 rfl ?_
  refine aw_newa 9 100 24 dX3_init_7 (tk1 (i := 88) (by decide +kernel) rfl) rfl (leb rfl) (leb rfl) rfl (by decide) (by decide) (by decide) (leb rfl) (leb rfl) rfl ?_
  obtain ⟨g1, h⟩ := h
  refine aw_putRF 12 dX3_init_9 fl_RX3_9 rfl rfl rfl rfl g1 (Nat.succ_ne_zero _) rfl ?_
  refine aw_aload_n 13 dX3_init_12 rfl 0 rfl rfl ?_
  refine aw_bipush 15 (v := 24) dX3_init_13 kB_24 rfl ?_
  refine aw_newa 17 100 24 dX3_init_15 (tk1 (i := 88) (by decide +kernel) rfl) rfl (leb rfl) (leb rfl) rfl (by decide) (by decide) (by decide) (leb rfl) (leb rfl) rfl ?_
  obtain ⟨g2, h⟩ := h
  refine aw_putRF 20 dX3_init_17 fl_RX3_15 rfl rfl rfl rfl g2 (Nat.succ_ne_zero _) rfl ?_
  refine aw_aload_n 21 dX3_init_20 rfl 0 rfl rfl ?_
  refine aw_bipush 23 (v := 24) dX3_init_21 kB_24 rfl ?_
  refine aw_newa 25 100 24 dX3_init_23 (tk1 (i := 88) (by decide +kernel) rfl) rfl (leb rfl) (leb rfl) rfl (by decide) (by decide) (by decide) (leb rfl) (leb rfl) rfl ?_
  obtain ⟨g3, h⟩ := h
  refine aw_putRF 28 dX3_init_25 fl_RX3_18 rfl rfl rfl rfl g3 (Nat.succ_ne_zero _) rfl ?_
  refine aw_aload_n 29 dX3_init_28 rfl 0 rfl rfl ?_
  refine aw_bipush 31 (v := 24) dX3_init_29 kB_24 rfl ?_
  refine aw_newa 33 100 24 dX3_init_31 (tk1 (i := 88) (by decide +kernel) rfl) rfl (leb rfl) (leb rfl) rfl (by decide) (by decide) (by decide) (leb rfl) (leb rfl) rfl ?_
  obtain ⟨g4, h⟩ := h
  refine aw_putRF 36 dX3_init_33 fl_RX3_21 rfl rfl rfl rfl g4 (Nat.succ_ne_zero _) rfl ?_
  refine aw_aload_n 37 dX3_init_36 rfl 0 rfl rfl ?_
  refine aw_bipush 39 (v := 72) dX3_init_37 kB_72 rfl ?_
  refine aw_newa 41 100 72 dX3_init_39 (tk1 (i := 88) (by decide +kernel) rfl) rfl (leb rfl) (leb rfl) rfl (by decide) (by decide) (by decide) (leb rfl) (leb rfl) rfl ?_
  obtain ⟨g5, h⟩ := h
  refine aw_putRF 44 dX3_init_41 fl_RX3_24 rfl rfl rfl rfl g5 (Nat.succ_ne_zero _) rfl ?_
  refine aw_aload_n 45 dX3_init_44 rfl 0 rfl rfl ?_
  refine aw_bipush 47 (v := 72) dX3_init_45 kB_72 rfl ?_
  refine aw_newa 49 100 72 dX3_init_47 (tk1 (i := 88) (by decide +kernel) rfl) rfl (leb rfl) (leb rfl) rfl (by decide) (by decide) (by decide) (leb rfl) (leb rfl) rfl ?_
  obtain ⟨g6, h⟩ := h
  refine aw_putRF 52 dX3_init_49 fl_RX3_27 rfl rfl rfl rfl g6 (Nat.succ_ne_zero _) rfl ?_
  refine aw_aload_n 53 dX3_init_52 rfl 0 rfl rfl ?_
  refine aw_bipush 55 (v := 72) dX3_init_53 kB_72 rfl ?_
  refine aw_newa 57 100 72 dX3_init_55 (tk1 (i := 88) (by decide +kernel) rfl) rfl (leb rfl) (leb rfl) rfl (by decide) (by decide) (by decide) (leb rfl) (leb rfl) rfl ?_
  obtain ⟨g7, h⟩ := h
  refine aw_putRF 60 dX3_init_57 fl_RX3_30 rfl rfl rfl rfl g7 (Nat.succ_ne_zero _) rfl ?_
  refine aw_aload_n 61 dX3_init_60 rfl 0 rfl rfl ?_
  refine aw_bipush 63 (v := 15) dX3_init_61 kB_15 rfl ?_
  refine aw_newa 65 100 15 dX3_init_63 (tk1 (i := 88) (by decide +kernel) rfl) rfl (leb rfl) (leb rfl) rfl (by decide) (by decide) (by decide) (leb rfl) (leb rfl) rfl ?_
  obtain ⟨g8, h⟩ := h
  refine aw_putRF 68 dX3_init_65 fl_RX3_33 rfl rfl rfl rfl g8 (Nat.succ_ne_zero _) rfl ?_
  refine aw_aload_n 69 dX3_init_68 rfl 0 rfl rfl ?_
  refine aw_bipush 71 (v := 15) dX3_init_69 kB_15 rfl ?_
  refine aw_newa 73 100 15 dX3_init_71 (tk1 (i := 88) (by decide +kernel) rfl) rfl (leb rfl) (leb rfl) rfl (by decide) (by decide) (by decide) (leb rfl) (leb rfl) rfl ?_
  obtain ⟨g9, h⟩ := h
  refine aw_putRF 76 dX3_init_73 fl_RX3_36 rfl rfl rfl rfl g9 (Nat.succ_ne_zero _) rfl ?_
  refine aw_aload_n 77 dX3_init_76 rfl 0 rfl rfl ?_
  refine aw_bipush 79 (v := 12) dX3_init_77 kB_12 rfl ?_
  refine aw_newa 81 100 12 dX3_init_79 (tk1 (i := 88) (by decide +kernel) rfl) rfl (leb rfl) (leb rfl) rfl (by decide) (by decide) (by decide) (leb rfl) (leb rfl) rfl ?_
  obtain ⟨g10, h⟩ := h
  refine aw_putRF 84 dX3_init_81 fl_RX3_39 rfl rfl rfl rfl g10 (Nat.succ_ne_zero _) rfl ?_
  refine aw_aload_n 85 dX3_init_84 rfl 0 rfl rfl ?_
  refine aw_bipush 87 (v := 12) dX3_init_85 kB_12 rfl ?_
  refine aw_newa 89 100 12 dX3_init_87 (tk1 (i := 88) (by decide +kernel) rfl) rfl (leb rfl) (leb rfl) rfl (by decide) (by decide) (by decide) (leb rfl) (leb rfl) rfl ?_
  obtain ⟨g11, h⟩ := h
  refine aw_putRF 92 dX3_init_89 fl_RX3_42 rfl rfl rfl rfl g11 (Nat.succ_ne_zero _) rfl ?_
  refine aw_iconst 93 (v := 0) dX3_init_92 kI_0 rfl ?_
  refine aw_istore_n 94 (lv' := [(1, _), (0, _)]) dX3_init_93 rfl (ltb rfl) rfl rfl ?_
  exact aw_pick [1, 0] rfl (aw_X3_init_94 hG  h))
set_option maxRecDepth 20000 in
theorem aw_X1_init_15 {G : GG} (hG : G.1.stackTraces = false)  {l0 : Nat} {l1 : Int32} {cc : Nat} {ss : Nat} {X : XH} {K : XH → Prop}  (h : w_X1_init_15  l0 l1 cc ss X K) : AW G M_X1_init 15 [(0, .ref l0), (1, .int l1)] [] X cc ss (KrV K) :=
  h (fun l0 l1 cc ss X => AW G M_X1_init 15 [(0, .ref l0), (1, .int l1)] [] X cc ss (KrV K)) (fun l0 l1 cc ss X h => by
    refine aw_iload_n 16 dX1_init_15 rfl 1 rfl rfl ?_
    refine aw_aload_n 17 dX1_init_16 rfl 0 rfl rfl ?_
    obtain ⟨g1, h⟩ := h
    obtain ⟨g2, h⟩ := h
    refine aw_getR 20 dX1_init_17 fl_RX1_11 rfl g1 g2 rfl ?_
    obtain ⟨g3, h⟩ := h
    refine aw_alen 21 dX1_init_20 g3 rfl ?_
    refine aw_icmp_ge 43 24 dX1_init_21 rfl rfl (fun c4 => ?_) (fun c4 => ?_)
    · replace h := h.1 c4
      obtain ⟨g5, h⟩ := h
      obtain ⟨g6, h⟩ := h
      exact aw_return dX1_init_43 rfl g5 g6 ⟨rfl, h⟩
    · replace h := h.2 c4
      refine aw_aload_n 25 dX1_init_24 rfl 0 rfl rfl ?_
      refine aw_getR 28 dX1_init_25 fl_RX1_11 rfl g1 g2 rfl ?_
      refine aw_iload_n 29 dX1_init_28 rfl 1 rfl rfl ?_
      obtain ⟨g7, h⟩ := h
      obtain ⟨g8, h⟩ := h
      refine aw_new 32 9 3 dX1_init_29 (ltb rfl) (tk1 (i := 95) (by decide +kernel) rfl) (tk1 (i := 26) (by decide +kernel) rfl) (tk1 (i := 2) (by decide +kernel) rfl) g7 g8 rfl ?_
      refine aw_dup 33 dX1_init_32 rfl rfl ?_
      obtain ⟨g9, h⟩ := h
      obtain ⟨g10, h⟩ := h
      refine aw_callI (M' := M_X3_init) 36 17 (hz X + 1) [] [.ref _, .int _, .ref _] dX1_init_33 lk_RX1_17 mi_X3_init mp_X3_init rfl rfl ⟨leb rfl, leb rfl⟩ rfl (leb rfl) g9 g10 rfl (am_X3_init hG h) (kkV fun X11 h => ?_) KrV.no
      refine aw_widen (cc' := cc + 12) (ss' := ss + 382) (Nat.le_refl _) (Nat.le_refl _) ?_
      obtain ⟨g12, h⟩ := h
      obtain ⟨g13, h⟩ := h
      obtain ⟨g14, h⟩ := h
      refine aw_aastore 37 3 dX1_init_36 (ltb rfl) g12 g13 g14 rfl ?_
      refine aw_iinc 40 (v := 1) (lv' := [(1, _), (0, _)]) dX1_init_37 1 rfl kI_1 (ltb rfl) rfl rfl ?_
      refine aw_goto 15 dX1_init_40 rfl ?_
      exact aw_pick [1, 0] rfl h)
set_option maxRecDepth 20000 in
theorem am_X1_init {G : GG} (hG : G.1.stackTraces = false) {l0 : Nat} {X : XH} {K : XH → Prop} (h : w_X1_init l0 X K) : AM G M_X1_init X [.ref l0] (KrV K) := AM_of (by decide +kernel) rfl (leb rfl) hG (by
  show AW G M_X1_init 0 [(0, .ref l0)] [] X 0 0 _
  unfold w_X1_init at h
  refine aw_aload_n 1 dX1_init_0 rfl 0 rfl rfl ?_
  refine aw_objinit 4 dX1_init_1 (tk1 (i := 94) (by decide +kernel) rfl) (tk1 (i := 23) (by decide +kernel) rfl) (tk1 (i := 24) (by decide +kernel) rfl) (leb rfl) (leb rfl) rfl ?_
  refine aw_aload_n 5 dX1_init_4 rfl 0 rfl rfl ?_
  refine aw_bipush 7 (v := 6) dX1_init_5 kB_6 rfl ?_
  refine aw_newq 10 9 3 6 dX1_init_7 (tk1 (i := 95) (by decide +kernel) rfl) rfl (by decide) (by decide) (leb rfl) (leb rfl) (leb rfl) rfl ?_
  obtain ⟨g1, h⟩ := h
  refine aw_putRF 13 dX1_init_10 fl_RX1_11 rfl rfl rfl rfl g1 (Nat.succ_ne_zero _) rfl ?_
  refine aw_iconst 14 (v := 0) dX1_init_13 kI_0 rfl ?_
  refine aw_istore_n 15 (lv' := [(1, _), (0, _)]) dX1_init_14 rfl (ltb rfl) rfl rfl ?_
  exact aw_pick [1, 0] rfl (aw_X1_init_15 hG  h))
set_option maxRecDepth 20000 in
theorem am_X0_init {G : GG} (hG : G.1.stackTraces = false) {l0 : Nat} {X : XH} {K : XH → Prop} (h : w_X0_init l0 X K) : AM G M_X0_init X [.ref l0] (KrV K) := AM_of (by decide +kernel) rfl (leb rfl) hG (by
  show AW G M_X0_init 0 [(0, .ref l0)] [] X 0 0 _
  unfold w_X0_init at h
  refine aw_aload_n 1 dX0_init_0 rfl 0 rfl rfl ?_
  refine aw_objinit 4 dX0_init_1 (tk1 (i := 111) (by decide +kernel) rfl) (tk1 (i := 23) (by decide +kernel) rfl) (tk1 (i := 24) (by decide +kernel) rfl) (leb rfl) (leb rfl) rfl ?_
  refine aw_aload_n 5 dX0_init_4 rfl 0 rfl rfl ?_
  refine aw_bipush 7 (v := 60) dX0_init_5 kB_60 rfl ?_
  refine aw_newa 9 100 60 dX0_init_7 (tk1 (i := 88) (by decide +kernel) rfl) rfl (leb rfl) (leb rfl) rfl (by decide) (by decide) (by decide) (leb rfl) (leb rfl) rfl ?_
  obtain ⟨g1, h⟩ := h
  refine aw_putRF 12 dX0_init_9 fl_RX0_9 rfl rfl rfl rfl g1 (Nat.succ_ne_zero _) rfl ?_
  refine aw_aload_n 13 dX0_init_12 rfl 0 rfl rfl ?_
  refine aw_bipush 15 (v := 60) dX0_init_13 kB_60 rfl ?_
  refine aw_newa 17 100 60 dX0_init_15 (tk1 (i := 88) (by decide +kernel) rfl) rfl (leb rfl) (leb rfl) rfl (by decide) (by decide) (by decide) (leb rfl) (leb rfl) rfl ?_
  obtain ⟨g2, h⟩ := h
  refine aw_putRF 20 dX0_init_17 fl_RX0_15 rfl rfl rfl rfl g2 (Nat.succ_ne_zero _) rfl ?_
  refine aw_aload_n 21 dX0_init_20 rfl 0 rfl rfl ?_
  refine aw_bipush 23 (v := 60) dX0_init_21 kB_60 rfl ?_
  refine aw_newa 25 100 60 dX0_init_23 (tk1 (i := 88) (by decide +kernel) rfl) rfl (leb rfl) (leb rfl) rfl (by decide) (by decide) (by decide) (leb rfl) (leb rfl) rfl ?_
  obtain ⟨g3, h⟩ := h
  refine aw_putRF 28 dX0_init_25 fl_RX0_18 rfl rfl rfl rfl g3 (Nat.succ_ne_zero _) rfl ?_
  refine aw_aload_n 29 dX0_init_28 rfl 0 rfl rfl ?_
  refine aw_bipush 31 (v := 60) dX0_init_29 kB_60 rfl ?_
  refine aw_newa 33 100 60 dX0_init_31 (tk1 (i := 88) (by decide +kernel) rfl) rfl (leb rfl) (leb rfl) rfl (by decide) (by decide) (by decide) (leb rfl) (leb rfl) rfl ?_
  obtain ⟨g4, h⟩ := h
  refine aw_putRF 36 dX0_init_33 fl_RX0_21 rfl rfl rfl rfl g4 (Nat.succ_ne_zero _) rfl ?_
  refine aw_aload_n 37 dX0_init_36 rfl 0 rfl rfl ?_
  refine aw_bipush 39 (v := 60) dX0_init_37 kB_60 rfl ?_
  refine aw_newa 41 100 60 dX0_init_39 (tk1 (i := 88) (by decide +kernel) rfl) rfl (leb rfl) (leb rfl) rfl (by decide) (by decide) (by decide) (leb rfl) (leb rfl) rfl ?_
  obtain ⟨g5, h⟩ := h
  refine aw_putRF 44 dX0_init_41 fl_RX0_24 rfl rfl rfl rfl g5 (Nat.succ_ne_zero _) rfl ?_
  exact aw_return dX0_init_44 rfl (leb rfl) (leb rfl) ⟨rfl, h⟩)
set_option maxRecDepth 20000 in
theorem am_X2_init {G : GG} (hG : G.1.stackTraces = false) {l0 : Nat} {X : XH} {K : XH → Prop} (h : w_X2_init l0 X K) : AM G M_X2_init X [.ref l0] (KrV K) := AM_of (by decide +kernel) rfl (leb rfl) hG (by
  show AW G M_X2_init 0 [(0, .ref l0)] [] X 0 0 _
  unfold w_X2_init at h
  refine aw_aload_n 1 dX2_init_0 rfl 0 rfl rfl ?_
  refine aw_objinit 4 dX2_init_1 (tk1 (i := 150) (by decide +kernel) rfl) (tk1 (i := 23) (by decide +kernel) rfl) (tk1 (i := 24) (by decide +kernel) rfl) (leb rfl) (leb rfl) rfl ?_
  refine aw_aload_n 5 dX2_init_4 rfl 0 rfl rfl ?_
  refine aw_bipush 7 (v := 24) dX2_init_5 kB_24 rfl ?_
  refine aw_newa 9 100 24 dX2_init_7 (tk1 (i := 88) (by decide +kernel) rfl) rfl (leb rfl) (leb rfl) rfl (by decide) (by decide) (by decide) (leb rfl) (leb rfl) rfl ?_
  obtain ⟨g1, h⟩ := h
  refine aw_putRF 12 dX2_init_9 fl_RX2_9 rfl rfl rfl rfl g1 (Nat.succ_ne_zero _) rfl ?_
  refine aw_aload_n 13 dX2_init_12 rfl 0 rfl rfl ?_
  refine aw_bipush 15 (v := 25) dX2_init_13 kB_25 rfl ?_
  refine aw_newa 17 100 25 dX2_init_15 (tk1 (i := 88) (by decide +kernel) rfl) rfl (leb rfl) (leb rfl) rfl (by decide) (by decide) (by decide) (leb rfl) (leb rfl) rfl ?_
  obtain ⟨g2, h⟩ := h
  refine aw_putRF 20 dX2_init_17 fl_RX2_15 rfl rfl rfl rfl g2 (Nat.succ_ne_zero _) rfl ?_
  exact aw_return dX2_init_20 rfl (leb rfl) (leb rfl) ⟨rfl, h⟩)
set_option maxRecDepth 20000 in
theorem aw_X4_init_36 {G : GG} (hG : G.1.stackTraces = false)  {l0 : Nat} {l1 : Int32} {cc : Nat} {ss : Nat} {X : XH} {K : XH → Prop}  (h : w_X4_init_36  l0 l1 cc ss X K) : AW G M_X4_init 36 [(0, .ref l0), (1, .int l1)] [] X cc ss (KrV K) :=
  h (fun l0 l1 cc ss X => AW G M_X4_init 36 [(0, .ref l0), (1, .int l1)] [] X cc ss (KrV K)) (fun l0 l1 cc ss X h => by
    refine aw_iload_n 37 dX4_init_36 rfl 1 rfl rfl ?_
    refine aw_aload_n 38 dX4_init_37 rfl 0 rfl rfl ?_
    obtain ⟨g1, h⟩ := h
    obtain ⟨g2, h⟩ := h
    refine aw_getR 41 dX4_init_38 fl_RX4_23 rfl g1 g2 rfl ?_
    obtain ⟨g3, h⟩ := h
    refine aw_alen 42 dX4_init_41 g3 rfl ?_
    refine aw_icmp_ge 64 45 dX4_init_42 rfl rfl (fun c4 => ?_) (fun c4 => ?_)
    · replace h := h.1 c4
      refine aw_aload_n 65 dX4_init_64 rfl 0 rfl rfl ?_
      refine aw_iconst 66 (v := 2) dX4_init_65 kI_2 rfl ?_
      obtain ⟨g5, h⟩ := h
      obtain ⟨g6, h⟩ := h
      refine aw_newa 68 101 2 dX4_init_66 (tk1 (i := 144) (by decide +kernel) rfl) rfl (leb rfl) (leb rfl) rfl (by decide) (by decide) (by decide) g5 g6 rfl ?_
      obtain ⟨g7, h⟩ := h
      refine aw_putRF 71 dX4_init_68 fl_RX4_27 rfl rfl rfl rfl g7 (Nat.succ_ne_zero _) rfl ?_
      refine aw_aload_n 72 dX4_init_71 rfl 0 rfl rfl ?_
      obtain ⟨g8, h⟩ := h
      obtain ⟨g9, h⟩ := h
      refine aw_new 75 31 0 dX4_init_72 (ltb rfl) (tk1 (i := 106) (by decide +kernel) rfl) (tk1 (i := 107) (by decide +kernel) rfl) (tk1 (i := 4) (by decide +kernel) rfl) g8 g9 rfl ?_
      refine aw_dup 76 dX4_init_75 rfl rfl ?_
      obtain ⟨g10, h⟩ := h
      obtain ⟨g11, h⟩ := h
      refine aw_callIN (M' := M_X0_init) 79 33 (hz (sR (sN X 101 2) l0 3 (hz X + 1)) + 1) [] [.ref _, .ref _] dX4_init_76 (by decide) mi_X0_init mp_X0_init rfl rfl ⟨leb rfl, leb rfl⟩ rfl (leb rfl) g10 g11 rfl (am_X0_init hG h) (kkV fun X12 h => ?_) KrV.no
      refine aw_widen (cc' := cc + 7) (ss' := ss + 310) (Nat.le_refl _) (Nat.le_refl _) ?_
      obtain ⟨g13, h⟩ := h
      refine aw_putRF 82 dX4_init_79 fl_RX4_34 rfl rfl rfl rfl g13 (Nat.succ_ne_zero _) rfl ?_
      refine aw_aload_n 83 dX4_init_82 rfl 0 rfl rfl ?_
      obtain ⟨g14, h⟩ := h
      obtain ⟨g15, h⟩ := h
      refine aw_new 86 38 2 dX4_init_83 (ltb rfl) (tk1 (i := 145) (by decide +kernel) rfl) (tk1 (i := 146) (by decide +kernel) rfl) (tk1 (i := 5) (by decide +kernel) rfl) g14 g15 rfl ?_
      refine aw_dup 87 dX4_init_86 rfl rfl ?_
      obtain ⟨g16, h⟩ := h
      obtain ⟨g17, h⟩ := h
      refine aw_callIN (M' := M_X2_init) 90 40 (hz (sR X12 l0 4 (hz (sR (sN X 101 2) l0 3 (hz X + 1)) + 1)) + 1) [] [.ref _, .ref _] dX4_init_87 (by decide) mi_X2_init mp_X2_init rfl rfl ⟨leb rfl, leb rfl⟩ rfl (leb rfl) g16 g17 rfl (am_X2_init hG h) (kkV fun X18 h => ?_) KrV.no
      refine aw_widen (cc' := cc + 10) (ss' := ss + 364) (Nat.le_refl _) (Nat.le_refl _) ?_
      obtain ⟨g19, h⟩ := h
      refine aw_putRF 93 dX4_init_90 fl_RX4_41 rfl rfl rfl rfl g19 (Nat.succ_ne_zero _) rfl ?_
      obtain ⟨g20, h⟩ := h
      obtain ⟨g21, h⟩ := h
      exact aw_return dX4_init_93 rfl g20 g21 ⟨rfl, h⟩
    · replace h := h.2 c4
      refine aw_aload_n 46 dX4_init_45 rfl 0 rfl rfl ?_
      refine aw_getR 49 dX4_init_46 fl_RX4_23 rfl g1 g2 rfl ?_
      refine aw_iload_n 50 dX4_init_49 rfl 1 rfl rfl ?_
      obtain ⟨g22, h⟩ := h
      obtain ⟨g23, h⟩ := h
      refine aw_new 53 7 3 dX4_init_50 (ltb rfl) (tk1 (i := 25) (by decide +kernel) rfl) (tk1 (i := 26) (by decide +kernel) rfl) (tk1 (i := 2) (by decide +kernel) rfl) g22 g23 rfl ?_
      refine aw_dup 54 dX4_init_53 rfl rfl ?_
      obtain ⟨g24, h⟩ := h
      obtain ⟨g25, h⟩ := h
      refine aw_callI (M' := M_X3_init) 57 9 (hz X + 1) [] [.ref _, .int _, .ref _] dX4_init_54 lk_RX4_9 mi_X3_init mp_X3_init rfl rfl ⟨leb rfl, leb rfl⟩ rfl (leb rfl) g24 g25 rfl (am_X3_init hG h) (kkV fun X26 h => ?_) KrV.no
      refine aw_widen (cc' := cc + 12) (ss' := ss + 382) (Nat.le_refl _) (Nat.le_refl _) ?_
      obtain ⟨g27, h⟩ := h
      obtain ⟨g28, h⟩ := h
      obtain ⟨g29, h⟩ := h
      refine aw_aastore 58 3 dX4_init_57 (ltb rfl) g27 g28 g29 rfl ?_
      refine aw_iinc 61 (v := 1) (lv' := [(1, _), (0, _)]) dX4_init_58 1 rfl kI_1 (ltb rfl) rfl rfl ?_
      refine aw_goto 36 dX4_init_61 rfl ?_
      exact aw_pick [1, 0] rfl h)
set_option maxRecDepth 20000 in
theorem am_X4_init {G : GG} (hG : G.1.stackTraces = false) {l0 : Nat} {X : XH} {K : XH → Prop} (h : w_X4_init l0 X K) : AM G M_X4_init X [.ref l0] (KrV K) := AM_of (by decide +kernel) rfl (leb rfl) hG (by
  show AW G M_X4_init 0 [(0, .ref l0)] [] X 0 0 _
  unfold w_X4_init at h
  refine aw_aload_n 1 dX4_init_0 rfl 0 rfl rfl ?_
  refine aw_objinit 4 dX4_init_1 (tk1 (i := 22) (by decide +kernel) rfl) (tk1 (i := 23) (by decide +kernel) rfl) (tk1 (i := 24) (by decide +kernel) rfl) (leb rfl) (leb rfl) rfl ?_
  refine aw_aload_n 5 dX4_init_4 rfl 0 rfl rfl ?_
  refine aw_new 8 7 3 dX4_init_5 (ltb rfl) (tk1 (i := 25) (by decide +kernel) rfl) (tk1 (i := 26) (by decide +kernel) rfl) (tk1 (i := 2) (by decide +kernel) rfl) (leb rfl) (leb rfl) rfl ?_
  refine aw_dup 9 dX4_init_8 rfl rfl ?_
  refine aw_callI (M' := M_X3_init) 12 9 (hz X + 1) [] [.ref _, .ref _] dX4_init_9 lk_RX4_9 mi_X3_init mp_X3_init rfl rfl ⟨leb rfl, leb rfl⟩ rfl (leb rfl) (leb rfl) (leb rfl) rfl (am_X3_init hG h) (kkV fun X1 h => ?_) KrV.no
  refine aw_widen (cc' := 12) (ss' := 382) (leb rfl) (leb rfl) ?_
  obtain ⟨g2, h⟩ := h
  refine aw_putRF 15 dX4_init_12 fl_RX4_10 rfl rfl rfl rfl g2 (Nat.succ_ne_zero _) rfl ?_
  refine aw_aload_n 16 dX4_init_15 rfl 0 rfl rfl ?_
  refine aw_new 19 16 1 dX4_init_16 (ltb rfl) (tk1 (i := 89) (by decide +kernel) rfl) (tk1 (i := 90) (by decide +kernel) rfl) (tk1 (i := 3) (by decide +kernel) rfl) (leb rfl) (leb rfl) rfl ?_
  refine aw_dup 20 dX4_init_19 rfl rfl ?_
  refine aw_callI (M' := M_X1_init) 23 18 (hz (sR X1 l0 0 (hz X + 1)) + 1) [] [.ref _, .ref _] dX4_init_20 lk_RX4_18 mi_X1_init mp_X1_init rfl rfl ⟨leb rfl, leb rfl⟩ rfl (leb rfl) (leb rfl) (leb rfl) rfl (am_X1_init hG h) (kkV fun X3 h => ?_) KrV.no
  refine aw_widen (cc' := 86) (ss' := 2682) (leb rfl) (leb rfl) ?_
  obtain ⟨g4, h⟩ := h
  refine aw_putRF 26 dX4_init_23 fl_RX4_19 rfl rfl rfl rfl g4 (Nat.succ_ne_zero _) rfl ?_
  refine aw_aload_n 27 dX4_init_26 rfl 0 rfl rfl ?_
  refine aw_iconst 28 (v := 2) dX4_init_27 kI_2 rfl ?_
  refine aw_newq 31 7 3 2 dX4_init_28 (tk1 (i := 25) (by decide +kernel) rfl) rfl (by decide) (by decide) (leb rfl) (leb rfl) (leb rfl) rfl ?_
  obtain ⟨g5, h⟩ := h
  refine aw_putRF 34 dX4_init_31 fl_RX4_23 rfl rfl rfl rfl g5 (Nat.succ_ne_zero _) rfl ?_
  refine aw_iconst 35 (v := 0) dX4_init_34 kI_0 rfl ?_
  refine aw_istore_n 36 (lv' := [(1, _), (0, _)]) dX4_init_35 rfl (ltb rfl) rfl rfl ?_
  exact aw_pick [1, 0] rfl (aw_X4_init_36 hG  h))
set_option maxRecDepth 20000 in
theorem aw_X5_init_48 {G : GG} (hG : G.1.stackTraces = false)  {l0 : Nat} {l1 : Int32} {X : XH} {K : XH → Prop}  (h : w_X5_init_48  l0 l1 X K) : AW G M_X5_init 48 [(0, .ref l0), (1, .int l1)] [] X 5 3401 (KrV K) :=
  h (fun l0 l1 X => AW G M_X5_init 48 [(0, .ref l0), (1, .int l1)] [] X 5 3401 (KrV K)) (fun l0 l1 X h => by
    refine aw_iload_n 49 dX5_init_48 rfl 1 rfl rfl ?_
    refine aw_bipush 51 (v := 15) dX5_init_49 kB_15 rfl ?_
    refine aw_icmp_ge 79 54 dX5_init_51 rfl rfl (fun c1 => ?_) (fun c1 => ?_)
    · replace h := h.1 c1
      exact aw_return dX5_init_79 rfl (leb rfl) (leb rfl) ⟨rfl, h⟩
    · replace h := h.2 c1
      refine aw_aload_n 55 dX5_init_54 rfl 0 rfl rfl ?_
      obtain ⟨g2, h⟩ := h
      obtain ⟨g3, h⟩ := h
      refine aw_getR 58 dX5_init_55 fl_RX5_7 rfl g2 g3 rfl ?_
      refine aw_sipush 61 (v := 312) dX5_init_58 kS_312 rfl ?_
      refine aw_iload_n 62 dX5_init_61 rfl 1 rfl rfl ?_
      refine aw_iadd 63 dX5_init_62 rfl ?_
      refine aw_bipush 65 (v := 60) dX5_init_63 kB_60 rfl ?_
      refine aw_bipush 67 (v := 10) dX5_init_65 kB_10 rfl ?_
      refine aw_iload_n 68 dX5_init_67 rfl 1 rfl rfl ?_
      refine aw_iconst 69 (v := 3) dX5_init_68 kI_3 rfl ?_
      refine aw_irem 70 dX5_init_69 (by decide) rfl ?_
      refine aw_imul 71 dX5_init_70 rfl ?_
      refine aw_iadd 72 dX5_init_71 rfl ?_
      obtain ⟨g4, h⟩ := h
      obtain ⟨g5, h⟩ := h
      refine aw_iastore 73 dX5_init_72 g4 g5 rfl ?_
      refine aw_iinc 76 (v := 1) (lv' := [(1, _), (0, _)]) dX5_init_73 1 rfl kI_1 (ltb rfl) rfl rfl ?_
      refine aw_goto 48 dX5_init_76 rfl ?_
      exact aw_pick [1, 0] rfl h)
set_option maxRecDepth 20000 in
theorem am_X5_init {G : GG} (hG : G.1.stackTraces = false) {l0 : Nat} {X : XH} {K : XH → Prop} (h : w_X5_init l0 X K) : AM G M_X5_init X [.ref l0] (KrV K) := AM_of (by decide +kernel) rfl (leb rfl) hG (by
  show AW G M_X5_init 0 [(0, .ref l0)] [] X 0 0 _
  unfold w_X5_init at h
  refine aw_aload_n 1 dX5_init_0 rfl 0 rfl rfl ?_
  refine aw_objinit 4 dX5_init_1 (tk5 (i := 229) (by decide +kernel) rfl) (tk1 (i := 23) (by decide +kernel) rfl) (tk1 (i := 24) (by decide +kernel) rfl) (leb rfl) (leb rfl) rfl ?_
  refine aw_aload_n 5 dX5_init_4 rfl 0 rfl rfl ?_
  refine aw_sipush 8 (v := 371) dX5_init_5 kS_371 rfl ?_
  refine aw_newa 10 100 371 dX5_init_8 (tk1 (i := 88) (by decide +kernel) rfl) rfl (leb rfl) (leb rfl) rfl (by decide) (by decide) (by decide) (leb rfl) (leb rfl) rfl ?_
  obtain ⟨g1, h⟩ := h
  refine aw_putRF 13 dX5_init_10 fl_RX5_7 rfl rfl rfl rfl g1 (Nat.succ_ne_zero _) rfl ?_
  refine aw_aload_n 14 dX5_init_13 rfl 0 rfl rfl ?_
  refine aw_sipush 17 (v := 2226) dX5_init_14 kS_2226 rfl ?_
  refine aw_newa 19 100 2226 dX5_init_17 (tk1 (i := 88) (by decide +kernel) rfl) rfl (leb rfl) (leb rfl) rfl (by decide) (by decide) (by decide) (leb rfl) (leb rfl) rfl ?_
  obtain ⟨g2, h⟩ := h
  refine aw_putRF 22 dX5_init_19 fl_RX5_13 rfl rfl rfl rfl g2 (Nat.succ_ne_zero _) rfl ?_
  refine aw_aload_n 23 dX5_init_22 rfl 0 rfl rfl ?_
  refine aw_sipush 26 (v := 742) dX5_init_23 kS_742 rfl ?_
  refine aw_newa 28 100 742 dX5_init_26 (tk1 (i := 88) (by decide +kernel) rfl) rfl (leb rfl) (leb rfl) rfl (by decide) (by decide) (by decide) (leb rfl) (leb rfl) rfl ?_
  obtain ⟨g3, h⟩ := h
  refine aw_putRF 31 dX5_init_28 fl_RX5_16 rfl rfl rfl rfl g3 (Nat.succ_ne_zero _) rfl ?_
  refine aw_aload_n 32 dX5_init_31 rfl 0 rfl rfl ?_
  refine aw_iconst 33 (v := 2) dX5_init_32 kI_2 rfl ?_
  refine aw_newa 35 101 2 dX5_init_33 (tk1 (i := 144) (by decide +kernel) rfl) rfl (leb rfl) (leb rfl) rfl (by decide) (by decide) (by decide) (leb rfl) (leb rfl) rfl ?_
  obtain ⟨g4, h⟩ := h
  refine aw_putRF 38 dX5_init_35 fl_RX5_19 rfl rfl rfl rfl g4 (Nat.succ_ne_zero _) rfl ?_
  refine aw_aload_n 39 dX5_init_38 rfl 0 rfl rfl ?_
  refine aw_bipush 41 (v := 60) dX5_init_39 kB_60 rfl ?_
  refine aw_newa 43 100 60 dX5_init_41 (tk1 (i := 88) (by decide +kernel) rfl) rfl (leb rfl) (leb rfl) rfl (by decide) (by decide) (by decide) (leb rfl) (leb rfl) rfl ?_
  obtain ⟨g5, h⟩ := h
  refine aw_putRF 46 dX5_init_43 fl_RX5_23 rfl rfl rfl rfl g5 (Nat.succ_ne_zero _) rfl ?_
  refine aw_iconst 47 (v := 0) dX5_init_46 kI_0 rfl ?_
  refine aw_istore_n 48 (lv' := [(1, _), (0, _)]) dX5_init_47 rfl (ltb rfl) rfl rfl ?_
  exact aw_pick [1, 0] rfl (aw_X5_init_48 hG  h))
set_option maxRecDepth 20000 in
theorem am_X5_in {G : GG} (hG : G.1.stackTraces = false) {l0 : Int32} {l1 : Int32} {l2 : Int32} {X : XH} {K : Int32 → XH → Prop} (h : w_X5_in l0 l1 l2 X K) : AM G M_X5_in X [.int l0, .int l1, .int l2] (KrI K) := AM_of (by decide +kernel) rfl (leb rfl) hG (by
  show AW G M_X5_in 0 [(0, .int l0), (1, .int l1), (2, .int l2)] [] X 0 0 _
  unfold w_X5_in at h
  refine aw_iload_n 1 dX5_in_0 rfl 0 rfl rfl ?_
  refine aw_iload_n 2 dX5_in_1 rfl 1 rfl rfl ?_
  refine aw_icmp_lt 14 5 dX5_in_2 rfl rfl (fun c1 => ?_) (fun c1 => ?_)
  · replace h := h.1 c1
    refine aw_iconst 15 (v := 0) dX5_in_14 kI_0 rfl ?_
    exact aw_ireturn (ty := .boolean) dX5_in_15 rfl rfl (leb rfl) (leb rfl) ⟨_, rfl, h⟩
  · replace h := h.2 c1
    refine aw_iload_n 6 dX5_in_5 rfl 0 rfl rfl ?_
    refine aw_iload_n 7 dX5_in_6 rfl 2 rfl rfl ?_
    refine aw_icmp_gt 14 10 dX5_in_7 rfl rfl (fun c2 => ?_) (fun c2 => ?_)
    · replace h := h.1 c2
      refine aw_iconst 15 (v := 0) dX5_in_14 kI_0 rfl ?_
      exact aw_ireturn (ty := .boolean) dX5_in_15 rfl rfl (leb rfl) (leb rfl) ⟨_, rfl, h⟩
    · replace h := h.2 c2
      refine aw_iconst 11 (v := 1) dX5_in_10 kI_1 rfl ?_
      refine aw_goto 15 dX5_in_11 rfl ?_
      exact aw_ireturn (ty := .boolean) dX5_in_15 rfl rfl (leb rfl) (leb rfl) ⟨_, rfl, h⟩)
set_option maxRecDepth 20000 in
theorem am_X5_isReel {G : GG} (hG : G.1.stackTraces = false) {l0 : Int32} {X : XH} {K : Int32 → XH → Prop} (h : w_X5_isReel l0 X K) : AM G M_X5_isReel X [.int l0] (KrI K) := AM_of (by decide +kernel) rfl (leb rfl) hG (by
  show AW G M_X5_isReel 0 [(0, .int l0)] [] X 0 0 _
  unfold w_X5_isReel at h
  refine aw_iload_n 1 dX5_isReel_0 rfl 0 rfl rfl ?_
  refine aw_iconst 2 (v := 0) dX5_isReel_1 kI_0 rfl ?_
  refine aw_iconst 3 (v := 3) dX5_isReel_2 kI_3 rfl ?_
  refine aw_callS (M' := M_X5_in) 6 30 [.int _, .int _, .int _] [] dX5_isReel_3 lk_RX5_30 ms_X5_in mp_X5_in rfl ⟨leb rfl, leb rfl⟩ rfl (leb rfl) (leb rfl) (leb rfl) rfl (am_X5_in hG h) (kkI fun v2 X1 h => ?_) (kxN KrI.no)
  refine aw_widen (cc' := 0) (ss' := 0) (leb rfl) (leb rfl) ?_
  obtain ⟨g3, h⟩ := h
  exact aw_ireturn (ty := .boolean) dX5_isReel_6 rfl (narZ g3) (leb rfl) (leb rfl) ⟨_, rfl, h⟩)
set_option maxRecDepth 20000 in
theorem am_X5_isState {G : GG} (hG : G.1.stackTraces = false) {l0 : Int32} {X : XH} {K : Int32 → XH → Prop} (h : w_X5_isState l0 X K) : AM G M_X5_isState X [.int l0] (KrI K) := AM_of (by decide +kernel) rfl (leb rfl) hG (by
  show AW G M_X5_isState 0 [(0, .int l0)] [] X 0 0 _
  unfold w_X5_isState at h
  refine aw_iload_n 1 dX5_isState_0 rfl 0 rfl rfl ?_
  refine aw_iconst 2 (v := 0) dX5_isState_1 kI_0 rfl ?_
  refine aw_iconst 3 (v := 4) dX5_isState_2 kI_4 rfl ?_
  refine aw_callS (M' := M_X5_in) 6 30 [.int _, .int _, .int _] [] dX5_isState_3 lk_RX5_30 ms_X5_in mp_X5_in rfl ⟨leb rfl, leb rfl⟩ rfl (leb rfl) (leb rfl) (leb rfl) rfl (am_X5_in hG h) (kkI fun v2 X1 h => ?_) (kxN KrI.no)
  refine aw_widen (cc' := 0) (ss' := 0) (leb rfl) (leb rfl) ?_
  obtain ⟨g3, h⟩ := h
  exact aw_ireturn (ty := .boolean) dX5_isState_6 rfl (narZ g3) (leb rfl) (leb rfl) ⟨_, rfl, h⟩)
set_option maxRecDepth 20000 in
theorem am_X5_refused {G : GG} (hG : G.1.stackTraces = false) {l0 : Nat} {l1 : Int32} {X : XH} {K : Int32 → XH → Prop} (h : w_X5_refused l0 l1 X K) : AM G M_X5_refused X [.ref l0, .int l1] (KrI K) := AM_of (by decide +kernel) rfl (leb rfl) hG (by
  show AW G M_X5_refused 0 [(0, .ref l0), (1, .int l1)] [] X 0 0 _
  unfold w_X5_refused at h
  refine aw_aload_n 1 dX5_refused_0 rfl 0 rfl rfl ?_
  refine aw_iload_n 2 dX5_refused_1 rfl 1 rfl rfl ?_
  obtain ⟨g1, h⟩ := h
  refine aw_putI 5 dX5_refused_2 fl_RX5_26 rfl rfl rfl rfl g1 rfl ?_
  refine aw_iload_n 6 dX5_refused_5 rfl 1 rfl rfl ?_
  refine aw_if_le 13 9 dX5_refused_6 rfl rfl (fun c2 => ?_) (fun c2 => ?_)
  · replace h := h.1 c2
    refine aw_iconst 14 (v := 0) dX5_refused_13 kI_0 rfl ?_
    exact aw_ireturn (ty := .boolean) dX5_refused_14 rfl rfl (leb rfl) (leb rfl) ⟨_, rfl, h⟩
  · replace h := h.2 c2
    refine aw_iconst 10 (v := 1) dX5_refused_9 kI_1 rfl ?_
    refine aw_goto 14 dX5_refused_10 rfl ?_
    exact aw_ireturn (ty := .boolean) dX5_refused_14 rfl rfl (leb rfl) (leb rfl) ⟨_, rfl, h⟩)
set_option maxRecDepth 20000 in
theorem aw_X5_saves_52 {G : GG} (hG : G.1.stackTraces = false)  {l0 : Nat} {l1 : Int32} {X : XH} {K : XH → Prop}  (h : w_X5_saves_52  l0 l1 X K) : AW G M_X5_saves 52 [(0, .ref l0), (1, .int l1)] [] X 0 0 (KrV K) :=
  h (fun l0 l1 X => AW G M_X5_saves 52 [(0, .ref l0), (1, .int l1)] [] X 0 0 (KrV K)) (fun l0 l1 X h => by
    refine aw_iload_n 53 dX5_saves_52 rfl 1 rfl rfl ?_
    refine aw_sipush 56 (v := 371) dX5_saves_53 kS_371 rfl ?_
    refine aw_icmp_ge 86 59 dX5_saves_56 rfl rfl (fun c1 => ?_) (fun c1 => ?_)
    · replace h := h.1 c1
      refine aw_aload_n 87 dX5_saves_86 rfl 0 rfl rfl ?_
      refine aw_dup 88 dX5_saves_87 rfl rfl ?_
      obtain ⟨g2, h⟩ := h
      refine aw_getI 91 dX5_saves_88 fl_RX5_41 rfl g2 rfl ?_
      refine aw_iconst 92 (v := 1) dX5_saves_91 kI_1 rfl ?_
      refine aw_iadd 93 dX5_saves_92 rfl ?_
      refine aw_putI 96 dX5_saves_93 fl_RX5_41 rfl rfl rfl rfl g2 rfl ?_
      exact aw_return dX5_saves_96 rfl (leb rfl) (leb rfl) ⟨rfl, h⟩
    · replace h := h.2 c1
      refine aw_aload_n 60 dX5_saves_59 rfl 0 rfl rfl ?_
      obtain ⟨g3, h⟩ := h
      obtain ⟨g4, h⟩ := h
      refine aw_getR 63 dX5_saves_60 fl_RX5_13 rfl g3 g4 rfl ?_
      refine aw_sipush 66 (v := 371) dX5_saves_63 kS_371 rfl ?_
      refine aw_aload_n 67 dX5_saves_66 rfl 0 rfl rfl ?_
      refine aw_getI 70 dX5_saves_67 fl_RX5_41 rfl g3 rfl ?_
      refine aw_imul 71 dX5_saves_70 rfl ?_
      refine aw_iload_n 72 dX5_saves_71 rfl 1 rfl rfl ?_
      refine aw_iadd 73 dX5_saves_72 rfl ?_
      refine aw_aload_n 74 dX5_saves_73 rfl 0 rfl rfl ?_
      obtain ⟨g5, h⟩ := h
      refine aw_getR 77 dX5_saves_74 fl_RX5_7 rfl g3 g5 rfl ?_
      refine aw_iload_n 78 dX5_saves_77 rfl 1 rfl rfl ?_
      obtain ⟨g6, h⟩ := h
      obtain ⟨g7, h⟩ := h
      refine aw_iaload 79 dX5_saves_78 g6 g7 rfl ?_
      obtain ⟨g8, h⟩ := h
      obtain ⟨g9, h⟩ := h
      refine aw_iastore 80 dX5_saves_79 g8 g9 rfl ?_
      refine aw_iinc 83 (v := 1) (lv' := [(1, _), (0, _)]) dX5_saves_80 1 rfl kI_1 (ltb rfl) rfl rfl ?_
      refine aw_goto 52 dX5_saves_83 rfl ?_
      exact aw_pick [1, 0] rfl h)
set_option maxRecDepth 20000 in
theorem aw_X5_saves_11 {G : GG} (hG : G.1.stackTraces = false)  {l0 : Nat} {l1 : Int32} {X : XH} {K : XH → Prop}  (h : w_X5_saves_11  l0 l1 X K) : AW G M_X5_saves 11 [(0, .ref l0), (1, .int l1)] [] X 0 0 (KrV K) :=
  h (fun l0 l1 X => AW G M_X5_saves 11 [(0, .ref l0), (1, .int l1)] [] X 0 0 (KrV K)) (fun l0 l1 X h => by
    refine aw_iload_n 12 dX5_saves_11 rfl 1 rfl rfl ?_
    refine aw_sipush 15 (v := 1855) dX5_saves_12 kS_1855 rfl ?_
    refine aw_icmp_ge 40 18 dX5_saves_15 rfl rfl (fun c1 => ?_) (fun c1 => ?_)
    · replace h := h.1 c1
      refine aw_aload_n 41 dX5_saves_40 rfl 0 rfl rfl ?_
      refine aw_dup 42 dX5_saves_41 rfl rfl ?_
      obtain ⟨g2, h⟩ := h
      refine aw_getI 45 dX5_saves_42 fl_RX5_41 rfl g2 rfl ?_
      refine aw_iconst 46 (v := 1) dX5_saves_45 kI_1 rfl ?_
      refine aw_isub 47 dX5_saves_46 rfl ?_
      refine aw_putI 50 dX5_saves_47 fl_RX5_41 rfl rfl rfl rfl g2 rfl ?_
      refine aw_iconst 51 (v := 0) dX5_saves_50 kI_0 rfl ?_
      refine aw_istore_n 52 (lv' := [(1, _), (0, _)]) dX5_saves_51 rfl (ltb rfl) rfl rfl ?_
      exact aw_pick [1, 0] rfl (aw_X5_saves_52 hG  h)
    · replace h := h.2 c1
      refine aw_aload_n 19 dX5_saves_18 rfl 0 rfl rfl ?_
      obtain ⟨g3, h⟩ := h
      obtain ⟨g4, h⟩ := h
      refine aw_getR 22 dX5_saves_19 fl_RX5_13 rfl g3 g4 rfl ?_
      refine aw_iload_n 23 dX5_saves_22 rfl 1 rfl rfl ?_
      refine aw_aload_n 24 dX5_saves_23 rfl 0 rfl rfl ?_
      refine aw_getR 27 dX5_saves_24 fl_RX5_13 rfl g3 g4 rfl ?_
      refine aw_sipush 30 (v := 371) dX5_saves_27 kS_371 rfl ?_
      refine aw_iload_n 31 dX5_saves_30 rfl 1 rfl rfl ?_
      refine aw_iadd 32 dX5_saves_31 rfl ?_
      obtain ⟨g5, h⟩ := h
      obtain ⟨g6, h⟩ := h
      refine aw_iaload 33 dX5_saves_32 g5 g6 rfl ?_
      obtain ⟨g7, h⟩ := h
      refine aw_iastore 34 dX5_saves_33 g5 g7 rfl ?_
      refine aw_iinc 37 (v := 1) (lv' := [(1, _), (0, _)]) dX5_saves_34 1 rfl kI_1 (ltb rfl) rfl rfl ?_
      refine aw_goto 11 dX5_saves_37 rfl ?_
      exact aw_pick [1, 0] rfl h)
set_option maxRecDepth 20000 in
theorem am_X5_saves {G : GG} (hG : G.1.stackTraces = false) {l0 : Nat} {X : XH} {K : XH → Prop} (h : w_X5_saves l0 X K) : AM G M_X5_saves X [.ref l0] (KrV K) := AM_of (by decide +kernel) rfl (leb rfl) hG (by
  show AW G M_X5_saves 0 [(0, .ref l0)] [] X 0 0 _
  unfold w_X5_saves at h
  refine aw_aload_n 1 dX5_saves_0 rfl 0 rfl rfl ?_
  obtain ⟨g1, h⟩ := h
  refine aw_getI 4 dX5_saves_1 fl_RX5_41 rfl g1 rfl ?_
  refine aw_bipush 6 (v := 6) dX5_saves_4 kB_6 rfl ?_
  refine aw_icmp_ne 50 9 dX5_saves_6 rfl rfl (fun c2 => ?_) (fun c2 => ?_)
  · replace h := h.1 c2
    refine aw_iconst 51 (v := 0) dX5_saves_50 kI_0 rfl ?_
    refine aw_istore_n 52 (lv' := [(1, _), (0, _)]) dX5_saves_51 rfl (ltb rfl) rfl rfl ?_
    exact aw_pick [1, 0] rfl (aw_X5_saves_52 hG  h)
  · replace h := h.2 c2
    refine aw_iconst 10 (v := 0) dX5_saves_9 kI_0 rfl ?_
    refine aw_istore_n 11 (lv' := [(1, _), (0, _)]) dX5_saves_10 rfl (ltb rfl) rfl rfl ?_
    exact aw_pick [1, 0] rfl (aw_X5_saves_11 hG  h))
set_option maxRecDepth 20000 in
theorem am_X5_at {G : GG} (hG : G.1.stackTraces = false) {l0 : Int32} {l1 : Int32} {X : XH} {K : Int32 → XH → Prop} (h : w_X5_at l0 l1 X K) : AM G M_X5_at X [.int l0, .int l1] (KrI K) := AM_of (by decide +kernel) rfl (leb rfl) hG (by
  show AW G M_X5_at 0 [(0, .int l0), (1, .int l1)] [] X 0 0 _
  unfold w_X5_at at h
  refine aw_bipush 2 (v := 13) dX5_at_0 kB_13 rfl ?_
  refine aw_iload_n 3 dX5_at_2 rfl 0 rfl rfl ?_
  refine aw_imul 4 dX5_at_3 rfl ?_
  refine aw_iload_n 5 dX5_at_4 rfl 1 rfl rfl ?_
  refine aw_iadd 6 dX5_at_5 rfl ?_
  exact aw_ireturn (ty := .int) dX5_at_6 rfl rfl (leb rfl) (leb rfl) ⟨_, rfl, h⟩)
set_option maxRecDepth 20000 in
theorem am_X5_unmix {G : GG} (hG : G.1.stackTraces = false) {l0 : Nat} {l1 : Int32} {l2 : Int32} {X : XH} {K : XH → Prop} (h : w_X5_unmix l0 l1 l2 X K) : AM G M_X5_unmix X [.ref l0, .int l1, .int l2] (KrV K) := AM_of (by decide +kernel) rfl (leb rfl) hG (by
  show AW G M_X5_unmix 0 [(0, .ref l0), (1, .int l1), (2, .int l2)] [] X 0 0 _
  unfold w_X5_unmix at h
  refine aw_aload_n 1 dX5_unmix_0 rfl 0 rfl rfl ?_
  obtain ⟨g1, h⟩ := h
  obtain ⟨g2, h⟩ := h
  refine aw_getR 4 dX5_unmix_1 fl_RX5_7 rfl g1 g2 rfl ?_
  refine aw_sipush 7 (v := 342) dX5_unmix_4 kS_342 rfl ?_
  refine aw_iconst 8 (v := 3) dX5_unmix_7 kI_3 rfl ?_
  refine aw_iload_n 9 dX5_unmix_8 rfl 1 rfl rfl ?_
  refine aw_imul 10 dX5_unmix_9 rfl ?_
  refine aw_iadd 11 dX5_unmix_10 rfl ?_
  refine aw_iload_n 12 dX5_unmix_11 rfl 2 rfl rfl ?_
  refine aw_iadd 13 dX5_unmix_12 rfl ?_
  refine aw_iconst 14 (v := 0) dX5_unmix_13 kI_0 rfl ?_
  obtain ⟨g3, h⟩ := h
  obtain ⟨g4, h⟩ := h
  refine aw_iastore 15 dX5_unmix_14 g3 g4 rfl ?_
  refine aw_aload_n 16 dX5_unmix_15 rfl 0 rfl rfl ?_
  refine aw_getR 19 dX5_unmix_16 fl_RX5_7 rfl g1 g2 rfl ?_
  refine aw_sipush 22 (v := 354) dX5_unmix_19 kS_354 rfl ?_
  refine aw_iconst 23 (v := 3) dX5_unmix_22 kI_3 rfl ?_
  refine aw_iload_n 24 dX5_unmix_23 rfl 1 rfl rfl ?_
  refine aw_imul 25 dX5_unmix_24 rfl ?_
  refine aw_iadd 26 dX5_unmix_25 rfl ?_
  refine aw_iload_n 27 dX5_unmix_26 rfl 2 rfl rfl ?_
  refine aw_iadd 28 dX5_unmix_27 rfl ?_
  refine aw_iconst 29 (v := 0) dX5_unmix_28 kI_0 rfl ?_
  obtain ⟨g5, h⟩ := h
  refine aw_iastore 30 dX5_unmix_29 g3 g5 rfl ?_
  exact aw_return dX5_unmix_30 rfl (leb rfl) (leb rfl) ⟨rfl, h⟩)
set_option maxRecDepth 20000 in
theorem aw_X5_unmixes_2 {G : GG} (hG : G.1.stackTraces = false)  {l0 : Nat} {l1 : Int32} {l2 : Int32} {X : XH} {K : XH → Prop}  (h : w_X5_unmixes_2  l0 l1 l2 X K) : AW G M_X5_unmixes 2 [(0, .ref l0), (1, .int l1), (2, .int l2)] [] X 0 0 (KrV K) :=
  h (fun l0 l1 l2 X => AW G M_X5_unmixes 2 [(0, .ref l0), (1, .int l1), (2, .int l2)] [] X 0 0 (KrV K)) (fun l0 l1 l2 X h => by
    refine aw_iload_n 3 dX5_unmixes_2 rfl 2 rfl rfl ?_
    refine aw_iconst 4 (v := 3) dX5_unmixes_3 kI_3 rfl ?_
    refine aw_icmp_ge 19 7 dX5_unmixes_4 rfl rfl (fun c1 => ?_) (fun c1 => ?_)
    · replace h := h.1 c1
      exact aw_return dX5_unmixes_19 rfl (leb rfl) (leb rfl) ⟨rfl, h⟩
    · replace h := h.2 c1
      refine aw_aload_n 8 dX5_unmixes_7 rfl 0 rfl rfl ?_
      refine aw_iload_n 9 dX5_unmixes_8 rfl 1 rfl rfl ?_
      refine aw_iload_n 10 dX5_unmixes_9 rfl 2 rfl rfl ?_
      obtain ⟨g3, h⟩ := h
      refine aw_callV (M' := M_X5_unmix) 13 55 5 l0 [.int _, .int _] [] dX5_unmixes_10 lk_RX5_55 mv_X5_unmix mp_X5_unmix rfl ⟨leb rfl, leb rfl⟩ rfl (ltb rfl) g3 rfl (leb rfl) (leb rfl) (leb rfl) rfl (am_X5_unmix hG h) (kkV fun X2 h => ?_) (kxN KrV.no)
      refine aw_widen (cc' := 0) (ss' := 0) (leb rfl) (leb rfl) ?_
      refine aw_iinc 16 (v := 1) (lv' := [(2, _), (0, _), (1, _)]) dX5_unmixes_13 2 rfl kI_1 (ltb rfl) rfl rfl ?_
      refine aw_goto 2 dX5_unmixes_16 rfl ?_
      exact aw_pick [1, 2, 0] rfl h)
set_option maxRecDepth 20000 in
theorem am_X5_unmixes {G : GG} (hG : G.1.stackTraces = false) {l0 : Nat} {l1 : Int32} {X : XH} {K : XH → Prop} (h : w_X5_unmixes l0 l1 X K) : AM G M_X5_unmixes X [.ref l0, .int l1] (KrV K) := AM_of (by decide +kernel) rfl (leb rfl) hG (by
  show AW G M_X5_unmixes 0 [(0, .ref l0), (1, .int l1)] [] X 0 0 _
  unfold w_X5_unmixes at h
  refine aw_iconst 1 (v := 0) dX5_unmixes_0 kI_0 rfl ?_
  refine aw_istore_n 2 (lv' := [(2, _), (0, _), (1, _)]) dX5_unmixes_1 rfl (ltb rfl) rfl rfl ?_
  exact aw_pick [1, 2, 0] rfl (aw_X5_unmixes_2 hG  h))
set_option maxRecDepth 20000 in
theorem aw_X5_adds_13 {G : GG} (hG : G.1.stackTraces = false)  {l0 : Nat} {l1 : Int32} {l2 : Int32} {l3 : Int32} {l4 : Int32} {l5 : Int32} {l6 : Int32} {X : XH} {K : XH → Prop}  (h : w_X5_adds_13  l0 l1 l2 l3 l4 l5 l6 X K) : AW G M_X5_adds 13 [(0, .ref l0), (1, .int l1), (2, .int l2), (3, .int l3), (4, .int l4), (5, .int l5), (6, .int l6)] [] X 0 0 (KrV K) :=
  h (fun l0 l1 l2 l3 l4 l5 l6 X => AW G M_X5_adds 13 [(0, .ref l0), (1, .int l1), (2, .int l2), (3, .int l3), (4, .int l4), (5, .int l5), (6, .int l6)] [] X 0 0 (KrV K)) (fun l0 l1 l2 l3 l4 l5 l6 X h => by
    refine aw_iload 15 dX5_adds_13 6 rfl rfl ?_
    refine aw_bipush 17 (v := 13) dX5_adds_15 kB_13 rfl ?_
    refine aw_icmp_ge 39 20 dX5_adds_17 rfl rfl (fun c1 => ?_) (fun c1 => ?_)
    · replace h := h.1 c1
      refine aw_aload_n 40 dX5_adds_39 rfl 0 rfl rfl ?_
      obtain ⟨g2, h⟩ := h
      obtain ⟨g3, h⟩ := h
      refine aw_getR 43 dX5_adds_40 fl_RX5_7 rfl g2 g3 rfl ?_
      refine aw_iload 45 dX5_adds_43 5 rfl rfl ?_
      refine aw_iconst 46 (v := 0) dX5_adds_45 kI_0 rfl ?_
      refine aw_callS (M' := M_X5_at) 49 44 [.int _, .int _] [.ref _] dX5_adds_46 lk_RX5_44 ms_X5_at mp_X5_at rfl ⟨leb rfl, leb rfl⟩ rfl (leb rfl) (leb rfl) (leb rfl) rfl (am_X5_at hG h) (kkI fun v5 X4 h => ?_) (kxN KrI.no)
      refine aw_widen (cc' := 0) (ss' := 0) (leb rfl) (leb rfl) ?_
      refine aw_iload_n 50 dX5_adds_49 rfl 1 rfl rfl ?_
      obtain ⟨g6, h⟩ := h
      obtain ⟨g7, h⟩ := h
      refine aw_iastore 51 dX5_adds_50 g6 g7 rfl ?_
      refine aw_aload_n 52 dX5_adds_51 rfl 0 rfl rfl ?_
      obtain ⟨g8, h⟩ := h
      obtain ⟨g9, h⟩ := h
      refine aw_getR 55 dX5_adds_52 fl_RX5_7 rfl g8 g9 rfl ?_
      refine aw_iload 57 dX5_adds_55 5 rfl rfl ?_
      refine aw_iconst 58 (v := 1) dX5_adds_57 kI_1 rfl ?_
      refine aw_callS (M' := M_X5_at) 61 44 [.int _, .int _] [.ref _] dX5_adds_58 lk_RX5_44 ms_X5_at mp_X5_at rfl ⟨leb rfl, leb rfl⟩ rfl (leb rfl) (leb rfl) (leb rfl) rfl (am_X5_at hG h) (kkI fun v11 X10 h => ?_) (kxN KrI.no)
      refine aw_widen (cc' := 0) (ss' := 0) (leb rfl) (leb rfl) ?_
      refine aw_iload_n 62 dX5_adds_61 rfl 2 rfl rfl ?_
      obtain ⟨g12, h⟩ := h
      obtain ⟨g13, h⟩ := h
      refine aw_iastore 63 dX5_adds_62 g12 g13 rfl ?_
      refine aw_aload_n 64 dX5_adds_63 rfl 0 rfl rfl ?_
      obtain ⟨g14, h⟩ := h
      obtain ⟨g15, h⟩ := h
      refine aw_getR 67 dX5_adds_64 fl_RX5_7 rfl g14 g15 rfl ?_
      refine aw_iload 69 dX5_adds_67 5 rfl rfl ?_
      refine aw_iconst 70 (v := 2) dX5_adds_69 kI_2 rfl ?_
      refine aw_callS (M' := M_X5_at) 73 44 [.int _, .int _] [.ref _] dX5_adds_70 lk_RX5_44 ms_X5_at mp_X5_at rfl ⟨leb rfl, leb rfl⟩ rfl (leb rfl) (leb rfl) (leb rfl) rfl (am_X5_at hG h) (kkI fun v17 X16 h => ?_) (kxN KrI.no)
      refine aw_widen (cc' := 0) (ss' := 0) (leb rfl) (leb rfl) ?_
      refine aw_iload_n 74 dX5_adds_73 rfl 3 rfl rfl ?_
      obtain ⟨g18, h⟩ := h
      obtain ⟨g19, h⟩ := h
      refine aw_iastore 75 dX5_adds_74 g18 g19 rfl ?_
      refine aw_aload_n 76 dX5_adds_75 rfl 0 rfl rfl ?_
      obtain ⟨g20, h⟩ := h
      obtain ⟨g21, h⟩ := h
      refine aw_getR 79 dX5_adds_76 fl_RX5_7 rfl g20 g21 rfl ?_
      refine aw_iload 81 dX5_adds_79 5 rfl rfl ?_
      refine aw_iconst 82 (v := 3) dX5_adds_81 kI_3 rfl ?_
      refine aw_callS (M' := M_X5_at) 85 44 [.int _, .int _] [.ref _] dX5_adds_82 lk_RX5_44 ms_X5_at mp_X5_at rfl ⟨leb rfl, leb rfl⟩ rfl (leb rfl) (leb rfl) (leb rfl) rfl (am_X5_at hG h) (kkI fun v23 X22 h => ?_) (kxN KrI.no)
      refine aw_widen (cc' := 0) (ss' := 0) (leb rfl) (leb rfl) ?_
      refine aw_iload 87 dX5_adds_85 4 rfl rfl ?_
      obtain ⟨g24, h⟩ := h
      obtain ⟨g25, h⟩ := h
      refine aw_iastore 88 dX5_adds_87 g24 g25 rfl ?_
      refine aw_aload_n 89 dX5_adds_88 rfl 0 rfl rfl ?_
      obtain ⟨g26, h⟩ := h
      obtain ⟨g27, h⟩ := h
      refine aw_getR 92 dX5_adds_89 fl_RX5_7 rfl g26 g27 rfl ?_
      refine aw_sipush 95 (v := 366) dX5_adds_92 kS_366 rfl ?_
      refine aw_dup2 96 dX5_adds_95 rfl rfl rfl ?_
      obtain ⟨g28, h⟩ := h
      obtain ⟨g29, h⟩ := h
      refine aw_iaload 97 dX5_adds_96 g28 g29 rfl ?_
      refine aw_iconst 98 (v := 1) dX5_adds_97 kI_1 rfl ?_
      refine aw_iadd 99 dX5_adds_98 rfl ?_
      refine aw_iastore 100 dX5_adds_99 g28 g29 rfl ?_
      refine aw_aload_n 101 dX5_adds_100 rfl 0 rfl rfl ?_
      refine aw_iload_n 102 dX5_adds_101 rfl 1 rfl rfl ?_
      refine aw_callV (M' := M_X5_unmixes) 105 71 5 l0 [.int _] [] dX5_adds_102 lk_RX5_71 mv_X5_unmixes mp_X5_unmixes rfl ⟨leb rfl, leb rfl⟩ rfl (ltb rfl) g26 rfl (leb rfl) (leb rfl) (leb rfl) rfl (am_X5_unmixes hG h) (kkV fun X30 h => ?_) (kxN KrV.no)
      refine aw_widen (cc' := 0) (ss' := 0) (leb rfl) (leb rfl) ?_
      exact aw_return dX5_adds_105 rfl (leb rfl) (leb rfl) ⟨rfl, h⟩
    · replace h := h.2 c1
      refine aw_aload_n 21 dX5_adds_20 rfl 0 rfl rfl ?_
      obtain ⟨g31, h⟩ := h
      obtain ⟨g32, h⟩ := h
      refine aw_getR 24 dX5_adds_21 fl_RX5_7 rfl g31 g32 rfl ?_
      refine aw_iload 26 dX5_adds_24 5 rfl rfl ?_
      refine aw_iload 28 dX5_adds_26 6 rfl rfl ?_
      refine aw_callS (M' := M_X5_at) 31 44 [.int _, .int _] [.ref _] dX5_adds_28 lk_RX5_44 ms_X5_at mp_X5_at rfl ⟨leb rfl, leb rfl⟩ rfl (leb rfl) (leb rfl) (leb rfl) rfl (am_X5_at hG h) (kkI fun v34 X33 h => ?_) (kxN KrI.no)
      refine aw_widen (cc' := 0) (ss' := 0) (leb rfl) (leb rfl) ?_
      refine aw_iconst 32 (v := 0) dX5_adds_31 kI_0 rfl ?_
      obtain ⟨g35, h⟩ := h
      obtain ⟨g36, h⟩ := h
      refine aw_iastore 33 dX5_adds_32 g35 g36 rfl ?_
      refine aw_iinc 36 (v := 1) (lv' := [(6, _), (0, _), (1, _), (2, _), (3, _), (4, _), (5, _)]) dX5_adds_33 6 rfl kI_1 (ltb rfl) rfl rfl ?_
      refine aw_goto 13 dX5_adds_36 rfl ?_
      exact aw_pick [1, 2, 3, 4, 5, 6, 0] rfl h)
set_option maxRecDepth 20000 in
theorem am_X5_adds {G : GG} (hG : G.1.stackTraces = false) {l0 : Nat} {l1 : Int32} {l2 : Int32} {l3 : Int32} {l4 : Int32} {X : XH} {K : XH → Prop} (h : w_X5_adds l0 l1 l2 l3 l4 X K) : AM G M_X5_adds X [.ref l0, .int l1, .int l2, .int l3, .int l4] (KrV K) := AM_of (by decide +kernel) rfl (leb rfl) hG (by
  show AW G M_X5_adds 0 [(0, .ref l0), (1, .int l1), (2, .int l2), (3, .int l3), (4, .int l4)] [] X 0 0 _
  unfold w_X5_adds at h
  refine aw_aload_n 1 dX5_adds_0 rfl 0 rfl rfl ?_
  obtain ⟨g1, h⟩ := h
  obtain ⟨g2, h⟩ := h
  refine aw_getR 4 dX5_adds_1 fl_RX5_7 rfl g1 g2 rfl ?_
  refine aw_sipush 7 (v := 366) dX5_adds_4 kS_366 rfl ?_
  obtain ⟨g3, h⟩ := h
  obtain ⟨g4, h⟩ := h
  refine aw_iaload 8 dX5_adds_7 g3 g4 rfl ?_
  refine aw_istore 10 (lv' := [(5, _), (0, _), (1, _), (2, _), (3, _), (4, _)]) dX5_adds_8 (ltb rfl) rfl rfl ?_
  refine aw_iconst 11 (v := 0) dX5_adds_10 kI_0 rfl ?_
  refine aw_istore 13 (lv' := [(6, _), (5, _), (0, _), (1, _), (2, _), (3, _), (4, _)]) dX5_adds_11 (ltb rfl) rfl rfl ?_
  exact aw_pick [2, 3, 4, 5, 6, 1, 0] rfl (aw_X5_adds_13 hG  h))
end XWK2
