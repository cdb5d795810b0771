/-! the walks of methods, as predicates -/
section XWK5
set_option maxRecDepth 20000 in
theorem aw_X3_hasRatification_30 {G : GG} (hG : G.1.stackTraces = false) {P2 : Nat → Int32 → Int32 → XH → Prop} {l0 : Nat} {l1 : Int32} {l2 : Int32} {s0 : Int32} {X : XH} {K : Int32 → XH → Prop} (hO2 : ∀ (l0 : Nat) (l1 : Int32) (l2 : Int32) (X : XH), P2 l0 l1 l2 X → AW G M_X3_hasRatification 2 [(0, .ref l0), (1, .int l1), (2, .int l2)] [] X 0 0 (KrI K)) (h : w_X3_hasRatification_30 P2 l0 l1 l2 s0 X K) : AW G M_X3_hasRatification 30 [(0, .ref l0), (1, .int l1), (2, .int l2)] [.int s0] X 0 0 (KrI K) := by
  unfold w_X3_hasRatification_30 at h
  refine aw_istore_n 31 (lv' := [(3, _), (0, _), (1, _), (2, _)]) dX3_hasRatification_30 rfl (ltb rfl) rfl rfl ?_
  refine aw_aload_n 32 dX3_hasRatification_31 rfl 1 rfl rfl ?_
  refine aw_iload_n 33 dX3_hasRatification_32 rfl 3 rfl rfl ?_
  obtain ⟨g3, h⟩ := h
  refine aw_callV (M' := M_X3_clausesOn) 36 148 3 l0 [.int _] [] dX3_hasRatification_33 lk_RX3_148 mv_X3_clausesOn mp_X3_clausesOn rfl ⟨leb rfl, leb rfl⟩ rfl (ltb rfl) g3 rfl (leb rfl) (leb rfl) (leb rfl) rfl (am_X3_clausesOn hG h) (kkI fun v2 X1 h => ?_) (kxN KrI.no)
  refine aw_widen (cc' := 0) (ss' := 0) (leb rfl) (leb rfl) ?_
  refine aw_if_le 45 39 dX3_hasRatification_36 rfl rfl (fun c4 => ?_) (fun c4 => ?_)
  · replace h := h.1 c4
    refine aw_iinc 48 (v := 1) (lv' := [(2, _), (3, _), (0, _), (1, _)]) dX3_hasRatification_45 3 rfl kI_1 (ltb rfl) rfl rfl ?_
    refine aw_goto 2 dX3_hasRatification_48 rfl ?_
    exact aw_pick [2, 3, 0] rfl (hO2 _ _ _ _ h)
  · replace h := h.2 c4
    refine aw_iload_n 40 dX3_hasRatification_39 rfl 0 rfl rfl ?_
    refine aw_if_ne 45 43 dX3_hasRatification_40 rfl rfl (fun c5 => ?_) (fun c5 => ?_)
    · replace h := h.1 c5
      refine aw_iinc 48 (v := 1) (lv' := [(2, _), (3, _), (0, _), (1, _)]) dX3_hasRatification_45 3 rfl kI_1 (ltb rfl) rfl rfl ?_
      refine aw_goto 2 dX3_hasRatification_48 rfl ?_
      exact aw_pick [2, 3, 0] rfl (hO2 _ _ _ _ h)
    · replace h := h.2 c5
      refine aw_iconst 44 (v := 0) dX3_hasRatification_43 kI_0 rfl ?_
      exact aw_ireturn (ty := .boolean) dX3_hasRatification_44 rfl rfl (leb rfl) (leb rfl) ⟨_, rfl, h⟩
set_option maxRecDepth 20000 in
theorem aw_X3_hasRatification_2 {G : GG} (hG : G.1.stackTraces = false)  {l0 : Nat} {l1 : Int32} {l2 : Int32} {X : XH} {K : Int32 → XH → Prop}  (h : w_X3_hasRatification_2  l0 l1 l2 X K) : AW G M_X3_hasRatification 2 [(0, .ref l0), (1, .int l1), (2, .int l2)] [] X 0 0 (KrI K) :=
  h (fun l0 l1 l2 X => AW G M_X3_hasRatification 2 [(0, .ref l0), (1, .int l1), (2, .int l2)] [] X 0 0 (KrI K)) (fun l0 l1 l2 X h => by
    refine aw_iload_n 3 dX3_hasRatification_2 rfl 2 rfl rfl ?_
    refine aw_iconst 4 (v := 4) dX3_hasRatification_3 kI_4 rfl ?_
    refine aw_icmp_ge 51 7 dX3_hasRatification_4 rfl rfl (fun c1 => ?_) (fun c1 => ?_)
    · replace h := h.1 c1
      refine aw_aload_n 52 dX3_hasRatification_51 rfl 0 rfl rfl ?_
      obtain ⟨g2, h⟩ := h
      refine aw_getI 55 dX3_hasRatification_52 fl_RX3_45 rfl g2 rfl ?_
      refine aw_if_le 62 58 dX3_hasRatification_55 rfl rfl (fun c3 => ?_) (fun c3 => ?_)
      · replace h := h.1 c3
        refine aw_iconst 63 (v := 0) dX3_hasRatification_62 kI_0 rfl ?_
        exact aw_ireturn (ty := .boolean) dX3_hasRatification_63 rfl rfl (leb rfl) (leb rfl) ⟨_, rfl, h⟩
      · replace h := h.2 c3
        refine aw_iconst 59 (v := 1) dX3_hasRatification_58 kI_1 rfl ?_
        refine aw_goto 63 dX3_hasRatification_59 rfl ?_
        exact aw_ireturn (ty := .boolean) dX3_hasRatification_63 rfl rfl (leb rfl) (leb rfl) ⟨_, rfl, h⟩
    · replace h := h.2 c1
      refine aw_aload_n 8 dX3_hasRatification_7 rfl 0 rfl rfl ?_
      refine aw_iload_n 9 dX3_hasRatification_8 rfl 2 rfl rfl ?_
      refine aw_iload_n 10 dX3_hasRatification_9 rfl 1 rfl rfl ?_
      obtain ⟨g6, h⟩ := h
      refine aw_callV (M' := M_X3_hasMix) 13 169 3 l0 [.int _, .int _] [] dX3_hasRatification_10 lk_RX3_169 mv_X3_hasMix mp_X3_hasMix rfl ⟨leb rfl, leb rfl⟩ rfl (ltb rfl) g6 rfl (leb rfl) (leb rfl) (leb rfl) rfl (am_X3_hasMix hG h) (kkI fun v5 X4 h => ?_) (kxN KrI.no)
      refine aw_widen (cc' := 0) (ss' := 0) (leb rfl) (leb rfl) ?_
      refine aw_if_eq 29 16 dX3_hasRatification_13 rfl rfl (fun c7 => ?_) (fun c7 => ?_)
      · replace h := h.1 c7
        refine aw_iconst 30 (v := 0) dX3_hasRatification_29 kI_0 rfl ?_
        exact aw_pick [0, 1, 2] rfl (aw_X3_hasRatification_30 hG (fun _ _ _ _ h => h) h)
      · replace h := h.2 c7
        refine aw_aload_n 17 dX3_hasRatification_16 rfl 0 rfl rfl ?_
        refine aw_iload_n 18 dX3_hasRatification_17 rfl 2 rfl rfl ?_
        refine aw_iload_n 19 dX3_hasRatification_18 rfl 1 rfl rfl ?_
        obtain ⟨g10, h⟩ := h
        refine aw_callV (M' := M_X3_signaturesMissing) 22 172 3 l0 [.int _, .int _] [] dX3_hasRatification_19 lk_RX3_172 mv_X3_signaturesMissing mp_X3_signaturesMissing rfl ⟨leb rfl, leb rfl⟩ rfl (ltb rfl) g10 rfl (leb rfl) (leb rfl) (leb rfl) rfl (am_X3_signaturesMissing hG h) (kkI fun v9 X8 h => ?_) (kxN KrI.no)
        refine aw_widen (cc' := 0) (ss' := 0) (leb rfl) (leb rfl) ?_
        refine aw_if_ne 29 25 dX3_hasRatification_22 rfl rfl (fun c11 => ?_) (fun c11 => ?_)
        · replace h := h.1 c11
          refine aw_iconst 30 (v := 0) dX3_hasRatification_29 kI_0 rfl ?_
          exact aw_pick [0, 1, 2] rfl (aw_X3_hasRatification_30 hG (fun _ _ _ _ h => h) h)
        · replace h := h.2 c11
          refine aw_iconst 26 (v := 1) dX3_hasRatification_25 kI_1 rfl ?_
          refine aw_goto 30 dX3_hasRatification_26 rfl ?_
          exact aw_pick [0, 1, 2] rfl (aw_X3_hasRatification_30 hG (fun _ _ _ _ h => h) h))
set_option maxRecDepth 20000 in
theorem am_X3_hasRatification {G : GG} (hG : G.1.stackTraces = false) {l0 : Nat} {l1 : Int32} {X : XH} {K : Int32 → XH → Prop} (h : w_X3_hasRatification l0 l1 X K) : AM G M_X3_hasRatification X [.ref l0, .int l1] (KrI K) := AM_of (by decide +kernel) rfl (leb rfl) hG (by
  show AW G M_X3_hasRatification 0 [(0, .ref l0), (1, .int l1)] [] X 0 0 _
  unfold w_X3_hasRatification at h
  refine aw_iconst 1 (v := 0) dX3_hasRatification_0 kI_0 rfl ?_
  refine aw_istore_n 2 (lv' := [(2, _), (0, _), (1, _)]) dX3_hasRatification_1 rfl (ltb rfl) rfl rfl ?_
  exact aw_pick [1, 2, 0] rfl (aw_X3_hasRatification_2 hG  h))
set_option maxRecDepth 20000 in
theorem am_X4_isRatified {G : GG} (hG : G.1.stackTraces = false) {l0 : Nat} {l1 : Int32} {X : XH} {K : Int32 → XH → Prop} {KX : String → XH → Prop} (h : w_X4_isRatified l0 l1 X K KX) : AM G M_X4_isRatified X [.ref l0, .int l1] (KxT (KrI K) KX) := AM_of (by decide +kernel) rfl (leb rfl) hG (by
  show AW G M_X4_isRatified 0 [(0, .ref l0), (1, .int l1)] [] X 0 0 _
  unfold w_X4_isRatified at h
  refine aw_iload_n 1 dX4_isRatified_0 rfl 1 rfl rfl ?_
  refine aw_callS (M' := M_X4_checkTongue) 4 195 [.int _] [] dX4_isRatified_1 lk_RX4_195 ms_X4_checkTongue mp_X4_checkTongue rfl ⟨leb rfl, leb rfl⟩ rfl (leb rfl) (leb rfl) (leb rfl) rfl (am_X4_checkTongue hG h) (kkT (kkV fun X1 h => ?_)) (kxT KrV.no fun E X h => at_out rfl (leb rfl) (leb rfl) (Or.inr ⟨_, rfl, h⟩))
  refine aw_widen (cc' := 1) (ss' := 6) (leb rfl) (leb rfl) ?_
  refine aw_aload_n 5 dX4_isRatified_4 rfl 0 rfl rfl ?_
  obtain ⟨g2, h⟩ := h
  obtain ⟨g3, h⟩ := h
  refine aw_getR 8 dX4_isRatified_5 fl_RX4_10 rfl g2 g3 rfl ?_
  refine aw_iload_n 9 dX4_isRatified_8 rfl 1 rfl rfl ?_
  obtain ⟨g6, h⟩ := h
  refine aw_callV (M' := M_X3_hasRatification) 12 325 3 (hR X1 l0 0) [.int _] [] dX4_isRatified_9 lk_RX4_325 mv_X3_hasRatification mp_X3_hasRatification rfl ⟨leb rfl, leb rfl⟩ rfl (ltb rfl) g6 rfl (leb rfl) (leb rfl) (leb rfl) rfl (am_X3_hasRatification hG h) (kkI fun v5 X4 h => ?_) (kxN KrI.no)
  refine aw_widen (cc' := 1) (ss' := 6) (leb rfl) (leb rfl) ?_
  obtain ⟨g7, h⟩ := h
  exact aw_ireturn (ty := .boolean) dX4_isRatified_12 rfl (narZ g7) (leb rfl) (leb rfl) (Or.inl ⟨_, rfl, h⟩))
set_option maxRecDepth 20000 in
theorem am_L_tongueAt {G : GG} (hG : G.1.stackTraces = false) {l0 : Nat} {l1 : Int32} {X : XH} {K : Int32 → XH → Prop} (h : w_L_tongueAt l0 l1 X K) : AM G M_L_tongueAt X [.ref l0, .int l1] (KrI K) := AM_ofH (by decide +kernel) (0, 39, 40, 15) [] rfl (leb rfl) hG (by
  show AW G M_L_tongueAt 0 [(0, .ref l0), (1, .int l1)] [] X 0 0 _
  unfold w_L_tongueAt at h
  refine aw_aload_n 1 dL_tongueAt_0 rfl 0 rfl rfl ?_
  refine aw_iload_n 2 dL_tongueAt_1 rfl 1 rfl rfl ?_
  obtain ⟨g3, h⟩ := h
  refine aw_callV (M' := M_X4_annexOf) 5 146 4 l0 [.int _] [] dL_tongueAt_2 lk_RL_146 mv_X4_annexOf mp_X4_annexOf rfl ⟨leb rfl, leb rfl⟩ rfl (ltb rfl) g3 rfl (leb rfl) (leb rfl) (leb rfl) rfl (am_X4_annexOf hG h) (kkT (kkI fun v2 X1 h => ?_)) (kxT KrI.no fun E X1 h => ?_)
  · refine aw_widen (cc' := 1) (ss' := 6) (leb rfl) (leb rfl) ?_
    refine aw_bipush 7 (v := 100) dL_tongueAt_5 kB_100 rfl ?_
    refine aw_aload_n 8 dL_tongueAt_7 rfl 0 rfl rfl ?_
    refine aw_iload_n 9 dL_tongueAt_8 rfl 1 rfl rfl ?_
    obtain ⟨g6, h⟩ := h
    refine aw_callV (M' := M_X4_recordedIn) 12 149 4 l0 [.int _] [.int _, .int _] dL_tongueAt_9 lk_RL_149 mv_X4_recordedIn mp_X4_recordedIn rfl ⟨leb rfl, leb rfl⟩ rfl (ltb rfl) g6 rfl (leb rfl) (leb rfl) (leb rfl) rfl (am_X4_recordedIn hG h) (kkT (kkI fun v5 X4 h => ?_)) (kxT KrI.no fun E X4 h => ?_)
    · refine aw_widen (cc' := 2) (ss' := 12) (leb rfl) (leb rfl) ?_
      refine aw_imul 13 dL_tongueAt_12 rfl ?_
      refine aw_iadd 14 dL_tongueAt_13 rfl ?_
      refine aw_sipush 17 (v := 10000) dL_tongueAt_14 kS_10000 rfl ?_
      refine aw_aload_n 18 dL_tongueAt_17 rfl 0 rfl rfl ?_
      refine aw_iload_n 19 dL_tongueAt_18 rfl 1 rfl rfl ?_
      obtain ⟨g9, h⟩ := h
      refine aw_callV (M' := M_X4_misfitsIn) 22 152 4 l0 [.int _] [.int _, .int _] dL_tongueAt_19 lk_RL_152 mv_X4_misfitsIn mp_X4_misfitsIn rfl ⟨leb rfl, leb rfl⟩ rfl (ltb rfl) g9 rfl (leb rfl) (leb rfl) (leb rfl) rfl (am_X4_misfitsIn hG h) (kkT (kkI fun v8 X7 h => ?_)) (kxT KrI.no fun E X7 h => ?_)
      · refine aw_widen (cc' := 3) (ss' := 18) (leb rfl) (leb rfl) ?_
        refine aw_imul 23 dL_tongueAt_22 rfl ?_
        refine aw_iadd 24 dL_tongueAt_23 rfl ?_
        refine aw_aload_n 25 dL_tongueAt_24 rfl 0 rfl rfl ?_
        refine aw_iload_n 26 dL_tongueAt_25 rfl 1 rfl rfl ?_
        obtain ⟨g12, h⟩ := h
        refine aw_callV (M' := M_X4_isRatified) 29 155 4 l0 [.int _] [.int _] dL_tongueAt_26 lk_RL_155 mv_X4_isRatified mp_X4_isRatified rfl ⟨leb rfl, leb rfl⟩ rfl (ltb rfl) g12 rfl (leb rfl) (leb rfl) (leb rfl) rfl (am_X4_isRatified hG h) (kkT (kkI fun v11 X10 h => ?_)) (kxT KrI.no fun E X10 h => ?_)
        · refine aw_widen (cc' := 4) (ss' := 24) (leb rfl) (leb rfl) ?_
          refine aw_if_eq 37 32 dL_tongueAt_29 rfl rfl (fun c13 => ?_) (fun c13 => ?_)
          · replace h := h.1 c13
            refine aw_iconst 38 (v := 0) dL_tongueAt_37 kI_0 rfl ?_
            refine aw_iadd 39 dL_tongueAt_38 rfl ?_
            exact aw_ireturn (ty := .int) dL_tongueAt_39 rfl rfl (leb rfl) (leb rfl) ⟨_, rfl, h⟩
          · replace h := h.2 c13
            refine aw_ldc 34 (v := 1000000) dL_tongueAt_32 (tk4 (i := 23) (by decide +kernel) rfl) rfl ?_
            refine aw_goto 38 dL_tongueAt_34 rfl ?_
            refine aw_iadd 39 dL_tongueAt_38 rfl ?_
            exact aw_ireturn (ty := .int) dL_tongueAt_39 rfl rfl (leb rfl) (leb rfl) ⟨_, rfl, h⟩
        · obtain ⟨hE, h⟩ := h
          rcases hE with rfl
          refine aw_atc (lv' := [(0, .ref _), (1, .int _)]) [] (0, 39, 40, 15) [] rfl (fun z hz => nomatch hz) (by decide) (by decide) (tk3 (i := 40) (by decide +kernel) rfl) (by decide) 2 1 41 (Or.inl ⟨2, rfl, dL_tongueAt_40, rfl⟩) (ltb rfl) rfl ?_
          refine aw_widen (cc' := 4) (ss' := 24) (leb rfl) (leb rfl) ?_
          replace h := h rfl
          refine aw_bipush 43 (v := -2) dL_tongueAt_41 kB_m2 rfl ?_
          exact aw_ireturn (ty := .int) dL_tongueAt_43 rfl rfl (leb rfl) (leb rfl) ⟨_, rfl, h⟩
      · obtain ⟨hE, h⟩ := h
        rcases hE with rfl
        refine aw_atc (lv' := [(0, .ref _), (1, .int _)]) [] (0, 39, 40, 15) [] rfl (fun z hz => nomatch hz) (by decide) (by decide) (tk3 (i := 40) (by decide +kernel) rfl) (by decide) 2 1 41 (Or.inl ⟨2, rfl, dL_tongueAt_40, rfl⟩) (ltb rfl) rfl ?_
        refine aw_widen (cc' := 3) (ss' := 18) (leb rfl) (leb rfl) ?_
        replace h := h rfl
        refine aw_bipush 43 (v := -2) dL_tongueAt_41 kB_m2 rfl ?_
        exact aw_ireturn (ty := .int) dL_tongueAt_43 rfl rfl (leb rfl) (leb rfl) ⟨_, rfl, h⟩
    · obtain ⟨hE, h⟩ := h
      rcases hE with rfl
      refine aw_atc (lv' := [(0, .ref _), (1, .int _)]) [] (0, 39, 40, 15) [] rfl (fun z hz => nomatch hz) (by decide) (by decide) (tk3 (i := 40) (by decide +kernel) rfl) (by decide) 2 1 41 (Or.inl ⟨2, rfl, dL_tongueAt_40, rfl⟩) (ltb rfl) rfl ?_
      refine aw_widen (cc' := 2) (ss' := 12) (leb rfl) (leb rfl) ?_
      replace h := h rfl
      refine aw_bipush 43 (v := -2) dL_tongueAt_41 kB_m2 rfl ?_
      exact aw_ireturn (ty := .int) dL_tongueAt_43 rfl rfl (leb rfl) (leb rfl) ⟨_, rfl, h⟩
  · obtain ⟨hE, h⟩ := h
    rcases hE with rfl
    refine aw_atc (lv' := [(0, .ref _), (1, .int _)]) [] (0, 39, 40, 15) [] rfl (fun z hz => nomatch hz) (by decide) (by decide) (tk3 (i := 40) (by decide +kernel) rfl) (by decide) 2 1 41 (Or.inl ⟨2, rfl, dL_tongueAt_40, rfl⟩) (ltb rfl) rfl ?_
    refine aw_widen (cc' := 1) (ss' := 6) (leb rfl) (leb rfl) ?_
    replace h := h rfl
    refine aw_bipush 43 (v := -2) dL_tongueAt_41 kB_m2 rfl ?_
    exact aw_ireturn (ty := .int) dL_tongueAt_43 rfl rfl (leb rfl) (leb rfl) ⟨_, rfl, h⟩)
set_option maxRecDepth 20000 in
theorem aw_X3_readyTotal_4 {G : GG} (hG : G.1.stackTraces = false)  {l0 : Nat} {l1 : Int32} {l2 : Int32} {l3 : Int32} {X : XH} {K : Int32 → XH → Prop}  (h : w_X3_readyTotal_4  l0 l1 l2 l3 X K) : AW G M_X3_readyTotal 4 [(0, .ref l0), (1, .int l1), (2, .int l2), (3, .int l3)] [] X 0 0 (KrI K) :=
  h (fun l0 l1 l2 l3 X => AW G M_X3_readyTotal 4 [(0, .ref l0), (1, .int l1), (2, .int l2), (3, .int l3)] [] X 0 0 (KrI K)) (fun l0 l1 l2 l3 X h => by
    refine aw_iload_n 5 dX3_readyTotal_4 rfl 3 rfl rfl ?_
    refine aw_aload_n 6 dX3_readyTotal_5 rfl 0 rfl rfl ?_
    obtain ⟨g1, h⟩ := h
    refine aw_getI 9 dX3_readyTotal_6 fl_RX3_45 rfl g1 rfl ?_
    refine aw_icmp_ge 36 12 dX3_readyTotal_9 rfl rfl (fun c2 => ?_) (fun c2 => ?_)
    · replace h := h.1 c2
      refine aw_iload_n 37 dX3_readyTotal_36 rfl 2 rfl rfl ?_
      exact aw_ireturn (ty := .int) dX3_readyTotal_37 rfl rfl (leb rfl) (leb rfl) ⟨_, rfl, h⟩
    · replace h := h.2 c2
      refine aw_aload_n 13 dX3_readyTotal_12 rfl 0 rfl rfl ?_
      refine aw_iload_n 14 dX3_readyTotal_13 rfl 3 rfl rfl ?_
      refine aw_iload_n 15 dX3_readyTotal_14 rfl 1 rfl rfl ?_
      refine aw_callV (M' := M_X3_isReady) 18 134 3 l0 [.int _, .int _] [] dX3_readyTotal_15 lk_RX3_134 mv_X3_isReady mp_X3_isReady rfl ⟨leb rfl, leb rfl⟩ rfl (ltb rfl) g1 rfl (leb rfl) (leb rfl) (leb rfl) rfl (am_X3_isReady hG h) (kkI fun v4 X3 h => ?_) (kxN KrI.no)
      refine aw_widen (cc' := 0) (ss' := 0) (leb rfl) (leb rfl) ?_
      refine aw_if_eq 30 21 dX3_readyTotal_18 rfl rfl (fun c5 => ?_) (fun c5 => ?_)
      · replace h := h.1 c5
        refine aw_iinc 33 (v := 1) (lv' := [(3, _), (0, _), (1, _), (2, _)]) dX3_readyTotal_30 3 rfl kI_1 (ltb rfl) rfl rfl ?_
        refine aw_goto 4 dX3_readyTotal_33 rfl ?_
        exact aw_pick [1, 2, 3, 0] rfl h
      · replace h := h.2 c5
        refine aw_iload_n 22 dX3_readyTotal_21 rfl 2 rfl rfl ?_
        refine aw_aload_n 23 dX3_readyTotal_22 rfl 0 rfl rfl ?_
        refine aw_iload_n 24 dX3_readyTotal_23 rfl 3 rfl rfl ?_
        refine aw_iload_n 25 dX3_readyTotal_24 rfl 1 rfl rfl ?_
        obtain ⟨g8, h⟩ := h
        refine aw_callV (M' := M_X3_spokenAt) 28 85 3 l0 [.int _, .int _] [.int _] dX3_readyTotal_25 lk_RX3_85 mv_X3_spokenAt mp_X3_spokenAt rfl ⟨leb rfl, leb rfl⟩ rfl (ltb rfl) g8 rfl (leb rfl) (leb rfl) (leb rfl) rfl (am_X3_spokenAt hG h) (kkI fun v7 X6 h => ?_) (kxN KrI.no)
        refine aw_widen (cc' := 0) (ss' := 0) (leb rfl) (leb rfl) ?_
        refine aw_iadd 29 dX3_readyTotal_28 rfl ?_
        refine aw_istore_n 30 (lv' := [(2, _), (0, _), (1, _), (3, _)]) dX3_readyTotal_29 rfl (ltb rfl) rfl rfl ?_
        refine aw_iinc 33 (v := 1) (lv' := [(3, _), (2, _), (0, _), (1, _)]) dX3_readyTotal_30 3 rfl kI_1 (ltb rfl) rfl rfl ?_
        refine aw_goto 4 dX3_readyTotal_33 rfl ?_
        exact aw_pick [2, 3, 1, 0] rfl h)
set_option maxRecDepth 20000 in
theorem am_X3_readyTotal {G : GG} (hG : G.1.stackTraces = false) {l0 : Nat} {l1 : Int32} {X : XH} {K : Int32 → XH → Prop} (h : w_X3_readyTotal l0 l1 X K) : AM G M_X3_readyTotal X [.ref l0, .int l1] (KrI K) := AM_of (by decide +kernel) rfl (leb rfl) hG (by
  show AW G M_X3_readyTotal 0 [(0, .ref l0), (1, .int l1)] [] X 0 0 _
  unfold w_X3_readyTotal at h
  refine aw_iconst 1 (v := 0) dX3_readyTotal_0 kI_0 rfl ?_
  refine aw_istore_n 2 (lv' := [(2, _), (0, _), (1, _)]) dX3_readyTotal_1 rfl (ltb rfl) rfl rfl ?_
  refine aw_iconst 3 (v := 0) dX3_readyTotal_2 kI_0 rfl ?_
  refine aw_istore_n 4 (lv' := [(3, _), (2, _), (0, _), (1, _)]) dX3_readyTotal_3 rfl (ltb rfl) rfl rfl ?_
  exact aw_pick [2, 3, 1, 0] rfl (aw_X3_readyTotal_4 hG  h))
set_option maxRecDepth 20000 in
theorem am_X4_readyByClauses {G : GG} (hG : G.1.stackTraces = false) {l0 : Nat} {l1 : Int32} {X : XH} {K : Int32 → XH → Prop} {KX : String → XH → Prop} (h : w_X4_readyByClauses l0 l1 X K KX) : AM G M_X4_readyByClauses X [.ref l0, .int l1] (KxT (KrI K) KX) := AM_of (by decide +kernel) rfl (leb rfl) hG (by
  show AW G M_X4_readyByClauses 0 [(0, .ref l0), (1, .int l1)] [] X 0 0 _
  unfold w_X4_readyByClauses at h
  refine aw_iload_n 1 dX4_readyByClauses_0 rfl 1 rfl rfl ?_
  refine aw_callS (M' := M_X4_checkTongue) 4 195 [.int _] [] dX4_readyByClauses_1 lk_RX4_195 ms_X4_checkTongue mp_X4_checkTongue rfl ⟨leb rfl, leb rfl⟩ rfl (leb rfl) (leb rfl) (leb rfl) rfl (am_X4_checkTongue hG h) (kkT (kkV fun X1 h => ?_)) (kxT KrV.no fun E X h => at_out rfl (leb rfl) (leb rfl) (Or.inr ⟨_, rfl, h⟩))
  refine aw_widen (cc' := 1) (ss' := 6) (leb rfl) (leb rfl) ?_
  refine aw_aload_n 5 dX4_readyByClauses_4 rfl 0 rfl rfl ?_
  obtain ⟨g2, h⟩ := h
  obtain ⟨g3, h⟩ := h
  refine aw_getR 8 dX4_readyByClauses_5 fl_RX4_10 rfl g2 g3 rfl ?_
  refine aw_iload_n 9 dX4_readyByClauses_8 rfl 1 rfl rfl ?_
  obtain ⟨g6, h⟩ := h
  refine aw_callV (M' := M_X3_readyTotal) 12 319 3 (hR X1 l0 0) [.int _] [] dX4_readyByClauses_9 lk_RX4_319 mv_X3_readyTotal mp_X3_readyTotal rfl ⟨leb rfl, leb rfl⟩ rfl (ltb rfl) g6 rfl (leb rfl) (leb rfl) (leb rfl) rfl (am_X3_readyTotal hG h) (kkI fun v5 X4 h => ?_) (kxN KrI.no)
  refine aw_widen (cc' := 1) (ss' := 6) (leb rfl) (leb rfl) ?_
  exact aw_ireturn (ty := .int) dX4_readyByClauses_12 rfl rfl (leb rfl) (leb rfl) (Or.inl ⟨_, rfl, h⟩))
set_option maxRecDepth 20000 in
theorem aw_X3_readyOfVoice_5 {G : GG} (hG : G.1.stackTraces = false)  {l0 : Nat} {l1 : Int32} {l2 : Int32} {l3 : Int32} {l4 : Int32} {X : XH} {K : Int32 → XH → Prop}  (h : w_X3_readyOfVoice_5  l0 l1 l2 l3 l4 X K) : AW G M_X3_readyOfVoice 5 [(0, .ref l0), (1, .int l1), (2, .int l2), (3, .int l3), (4, .int l4)] [] X 0 0 (KrI K) :=
  h (fun l0 l1 l2 l3 l4 X => AW G M_X3_readyOfVoice 5 [(0, .ref l0), (1, .int l1), (2, .int l2), (3, .int l3), (4, .int l4)] [] X 0 0 (KrI K)) (fun l0 l1 l2 l3 l4 X h => by
    refine aw_iload 7 dX3_readyOfVoice_5 4 rfl rfl ?_
    refine aw_aload_n 8 dX3_readyOfVoice_7 rfl 0 rfl rfl ?_
    obtain ⟨g1, h⟩ := h
    refine aw_getI 11 dX3_readyOfVoice_8 fl_RX3_45 rfl g1 rfl ?_
    refine aw_icmp_ge 50 14 dX3_readyOfVoice_11 rfl rfl (fun c2 => ?_) (fun c2 => ?_)
    · replace h := h.1 c2
      refine aw_iload_n 51 dX3_readyOfVoice_50 rfl 3 rfl rfl ?_
      exact aw_ireturn (ty := .int) dX3_readyOfVoice_51 rfl rfl (leb rfl) (leb rfl) ⟨_, rfl, h⟩
    · replace h := h.2 c2
      refine aw_aload_n 15 dX3_readyOfVoice_14 rfl 0 rfl rfl ?_
      refine aw_iload 17 dX3_readyOfVoice_15 4 rfl rfl ?_
      refine aw_callV (M' := M_X3_speakerAt) 20 77 3 l0 [.int _] [] dX3_readyOfVoice_17 lk_RX3_77 mv_X3_speakerAt mp_X3_speakerAt rfl ⟨leb rfl, leb rfl⟩ rfl (ltb rfl) g1 rfl (leb rfl) (leb rfl) (leb rfl) rfl (am_X3_speakerAt hG h) (kkI fun v4 X3 h => ?_) (kxN KrI.no)
      refine aw_widen (cc' := 0) (ss' := 0) (leb rfl) (leb rfl) ?_
      refine aw_iload_n 21 dX3_readyOfVoice_20 rfl 1 rfl rfl ?_
      refine aw_icmp_ne 44 24 dX3_readyOfVoice_21 rfl rfl (fun c5 => ?_) (fun c5 => ?_)
      · replace h := h.1 c5
        refine aw_iinc 47 (v := 1) (lv' := [(4, _), (0, _), (1, _), (2, _), (3, _)]) dX3_readyOfVoice_44 4 rfl kI_1 (ltb rfl) rfl rfl ?_
        refine aw_goto 5 dX3_readyOfVoice_47 rfl ?_
        exact aw_pick [1, 2, 3, 4, 0] rfl h
      · replace h := h.2 c5
        refine aw_aload_n 25 dX3_readyOfVoice_24 rfl 0 rfl rfl ?_
        refine aw_iload 27 dX3_readyOfVoice_25 4 rfl rfl ?_
        refine aw_iload_n 28 dX3_readyOfVoice_27 rfl 2 rfl rfl ?_
        obtain ⟨g8, h⟩ := h
        refine aw_callV (M' := M_X3_isReady) 31 134 3 l0 [.int _, .int _] [] dX3_readyOfVoice_28 lk_RX3_134 mv_X3_isReady mp_X3_isReady rfl ⟨leb rfl, leb rfl⟩ rfl (ltb rfl) g8 rfl (leb rfl) (leb rfl) (leb rfl) rfl (am_X3_isReady hG h) (kkI fun v7 X6 h => ?_) (kxN KrI.no)
        refine aw_widen (cc' := 0) (ss' := 0) (leb rfl) (leb rfl) ?_
        refine aw_if_eq 44 34 dX3_readyOfVoice_31 rfl rfl (fun c9 => ?_) (fun c9 => ?_)
        · replace h := h.1 c9
          refine aw_iinc 47 (v := 1) (lv' := [(4, _), (0, _), (1, _), (2, _), (3, _)]) dX3_readyOfVoice_44 4 rfl kI_1 (ltb rfl) rfl rfl ?_
          refine aw_goto 5 dX3_readyOfVoice_47 rfl ?_
          exact aw_pick [1, 2, 3, 4, 0] rfl h
        · replace h := h.2 c9
          refine aw_iload_n 35 dX3_readyOfVoice_34 rfl 3 rfl rfl ?_
          refine aw_aload_n 36 dX3_readyOfVoice_35 rfl 0 rfl rfl ?_
          refine aw_iload 38 dX3_readyOfVoice_36 4 rfl rfl ?_
          refine aw_iload_n 39 dX3_readyOfVoice_38 rfl 2 rfl rfl ?_
          obtain ⟨g12, h⟩ := h
          refine aw_callV (M' := M_X3_spokenAt) 42 85 3 l0 [.int _, .int _] [.int _] dX3_readyOfVoice_39 lk_RX3_85 mv_X3_spokenAt mp_X3_spokenAt rfl ⟨leb rfl, leb rfl⟩ rfl (ltb rfl) g12 rfl (leb rfl) (leb rfl) (leb rfl) rfl (am_X3_spokenAt hG h) (kkI fun v11 X10 h => ?_) (kxN KrI.no)
          refine aw_widen (cc' := 0) (ss' := 0) (leb rfl) (leb rfl) ?_
          refine aw_iadd 43 dX3_readyOfVoice_42 rfl ?_
          refine aw_istore_n 44 (lv' := [(3, _), (0, _), (1, _), (2, _), (4, _)]) dX3_readyOfVoice_43 rfl (ltb rfl) rfl rfl ?_
          refine aw_iinc 47 (v := 1) (lv' := [(4, _), (3, _), (0, _), (1, _), (2, _)]) dX3_readyOfVoice_44 4 rfl kI_1 (ltb rfl) rfl rfl ?_
          refine aw_goto 5 dX3_readyOfVoice_47 rfl ?_
          exact aw_pick [2, 3, 4, 1, 0] rfl h)
set_option maxRecDepth 20000 in
theorem am_X3_readyOfVoice {G : GG} (hG : G.1.stackTraces = false) {l0 : Nat} {l1 : Int32} {l2 : Int32} {X : XH} {K : Int32 → XH → Prop} (h : w_X3_readyOfVoice l0 l1 l2 X K) : AM G M_X3_readyOfVoice X [.ref l0, .int l1, .int l2] (KrI K) := AM_of (by decide +kernel) rfl (leb rfl) hG (by
  show AW G M_X3_readyOfVoice 0 [(0, .ref l0), (1, .int l1), (2, .int l2)] [] X 0 0 _
  unfold w_X3_readyOfVoice at h
  refine aw_iconst 1 (v := 0) dX3_readyOfVoice_0 kI_0 rfl ?_
  refine aw_istore_n 2 (lv' := [(3, _), (0, _), (1, _), (2, _)]) dX3_readyOfVoice_1 rfl (ltb rfl) rfl rfl ?_
  refine aw_iconst 3 (v := 0) dX3_readyOfVoice_2 kI_0 rfl ?_
  refine aw_istore 5 (lv' := [(4, _), (3, _), (0, _), (1, _), (2, _)]) dX3_readyOfVoice_3 (ltb rfl) rfl rfl ?_
  exact aw_pick [2, 3, 4, 1, 0] rfl (aw_X3_readyOfVoice_5 hG  h))
set_option maxRecDepth 20000 in
theorem aw_X3_readyOfAllVoices_4 {G : GG} (hG : G.1.stackTraces = false)  {l0 : Nat} {l1 : Int32} {l2 : Int32} {l3 : Int32} {X : XH} {K : Int32 → XH → Prop}  (h : w_X3_readyOfAllVoices_4  l0 l1 l2 l3 X K) : AW G M_X3_readyOfAllVoices 4 [(0, .ref l0), (1, .int l1), (2, .int l2), (3, .int l3)] [] X 0 0 (KrI K) :=
  h (fun l0 l1 l2 l3 X => AW G M_X3_readyOfAllVoices 4 [(0, .ref l0), (1, .int l1), (2, .int l2), (3, .int l3)] [] X 0 0 (KrI K)) (fun l0 l1 l2 l3 X h => by
    refine aw_iload_n 5 dX3_readyOfAllVoices_4 rfl 3 rfl rfl ?_
    refine aw_iconst 6 (v := 5) dX3_readyOfAllVoices_5 kI_5 rfl ?_
    refine aw_icmp_ge 24 9 dX3_readyOfAllVoices_6 rfl rfl (fun c1 => ?_) (fun c1 => ?_)
    · replace h := h.1 c1
      refine aw_iload_n 25 dX3_readyOfAllVoices_24 rfl 2 rfl rfl ?_
      exact aw_ireturn (ty := .int) dX3_readyOfAllVoices_25 rfl rfl (leb rfl) (leb rfl) ⟨_, rfl, h⟩
    · replace h := h.2 c1
      refine aw_iload_n 10 dX3_readyOfAllVoices_9 rfl 2 rfl rfl ?_
      refine aw_aload_n 11 dX3_readyOfAllVoices_10 rfl 0 rfl rfl ?_
      refine aw_iload_n 12 dX3_readyOfAllVoices_11 rfl 3 rfl rfl ?_
      refine aw_iload_n 13 dX3_readyOfAllVoices_12 rfl 1 rfl rfl ?_
      obtain ⟨g4, h⟩ := h
      refine aw_callV (M' := M_X3_readyOfVoice) 16 166 3 l0 [.int _, .int _] [.int _] dX3_readyOfAllVoices_13 lk_RX3_166 mv_X3_readyOfVoice mp_X3_readyOfVoice rfl ⟨leb rfl, leb rfl⟩ rfl (ltb rfl) g4 rfl (leb rfl) (leb rfl) (leb rfl) rfl (am_X3_readyOfVoice hG h) (kkI fun v3 X2 h => ?_) (kxN KrI.no)
      refine aw_widen (cc' := 0) (ss' := 0) (leb rfl) (leb rfl) ?_
      refine aw_iadd 17 dX3_readyOfAllVoices_16 rfl ?_
      refine aw_istore_n 18 (lv' := [(2, _), (0, _), (1, _), (3, _)]) dX3_readyOfAllVoices_17 rfl (ltb rfl) rfl rfl ?_
      refine aw_iinc 21 (v := 1) (lv' := [(3, _), (2, _), (0, _), (1, _)]) dX3_readyOfAllVoices_18 3 rfl kI_1 (ltb rfl) rfl rfl ?_
      refine aw_goto 4 dX3_readyOfAllVoices_21 rfl ?_
      exact aw_pick [2, 3, 1, 0] rfl h)
set_option maxRecDepth 20000 in
theorem am_X3_readyOfAllVoices {G : GG} (hG : G.1.stackTraces = false) {l0 : Nat} {l1 : Int32} {X : XH} {K : Int32 → XH → Prop} (h : w_X3_readyOfAllVoices l0 l1 X K) : AM G M_X3_readyOfAllVoices X [.ref l0, .int l1] (KrI K) := AM_of (by decide +kernel) rfl (leb rfl) hG (by
  show AW G M_X3_readyOfAllVoices 0 [(0, .ref l0), (1, .int l1)] [] X 0 0 _
  unfold w_X3_readyOfAllVoices at h
  refine aw_iconst 1 (v := 0) dX3_readyOfAllVoices_0 kI_0 rfl ?_
  refine aw_istore_n 2 (lv' := [(2, _), (0, _), (1, _)]) dX3_readyOfAllVoices_1 rfl (ltb rfl) rfl rfl ?_
  refine aw_iconst 3 (v := 0) dX3_readyOfAllVoices_2 kI_0 rfl ?_
  refine aw_istore_n 4 (lv' := [(3, _), (2, _), (0, _), (1, _)]) dX3_readyOfAllVoices_3 rfl (ltb rfl) rfl rfl ?_
  exact aw_pick [2, 3, 1, 0] rfl (aw_X3_readyOfAllVoices_4 hG  h))
set_option maxRecDepth 20000 in
theorem am_X4_readyByVoices {G : GG} (hG : G.1.stackTraces = false) {l0 : Nat} {l1 : Int32} {X : XH} {K : Int32 → XH → Prop} {KX : String → XH → Prop} (h : w_X4_readyByVoices l0 l1 X K KX) : AM G M_X4_readyByVoices X [.ref l0, .int l1] (KxT (KrI K) KX) := AM_of (by decide +kernel) rfl (leb rfl) hG (by
  show AW G M_X4_readyByVoices 0 [(0, .ref l0), (1, .int l1)] [] X 0 0 _
  unfold w_X4_readyByVoices at h
  refine aw_iload_n 1 dX4_readyByVoices_0 rfl 1 rfl rfl ?_
  refine aw_callS (M' := M_X4_checkTongue) 4 195 [.int _] [] dX4_readyByVoices_1 lk_RX4_195 ms_X4_checkTongue mp_X4_checkTongue rfl ⟨leb rfl, leb rfl⟩ rfl (leb rfl) (leb rfl) (leb rfl) rfl (am_X4_checkTongue hG h) (kkT (kkV fun X1 h => ?_)) (kxT KrV.no fun E X h => at_out rfl (leb rfl) (leb rfl) (Or.inr ⟨_, rfl, h⟩))
  refine aw_widen (cc' := 1) (ss' := 6) (leb rfl) (leb rfl) ?_
  refine aw_aload_n 5 dX4_readyByVoices_4 rfl 0 rfl rfl ?_
  obtain ⟨g2, h⟩ := h
  obtain ⟨g3, h⟩ := h
  refine aw_getR 8 dX4_readyByVoices_5 fl_RX4_10 rfl g2 g3 rfl ?_
  refine aw_iload_n 9 dX4_readyByVoices_8 rfl 1 rfl rfl ?_
  obtain ⟨g6, h⟩ := h
  refine aw_callV (M' := M_X3_readyOfAllVoices) 12 322 3 (hR X1 l0 0) [.int _] [] dX4_readyByVoices_9 lk_RX4_322 mv_X3_readyOfAllVoices mp_X3_readyOfAllVoices rfl ⟨leb rfl, leb rfl⟩ rfl (ltb rfl) g6 rfl (leb rfl) (leb rfl) (leb rfl) rfl (am_X3_readyOfAllVoices hG h) (kkI fun v5 X4 h => ?_) (kxN KrI.no)
  refine aw_widen (cc' := 1) (ss' := 6) (leb rfl) (leb rfl) ?_
  exact aw_ireturn (ty := .int) dX4_readyByVoices_12 rfl rfl (leb rfl) (leb rfl) (Or.inl ⟨_, rfl, h⟩))
set_option maxRecDepth 20000 in
theorem am_L_ready {G : GG} (hG : G.1.stackTraces = false) {l0 : Nat} {l1 : Int32} {X : XH} {K : Int32 → XH → Prop} (h : w_L_ready l0 l1 X K) : AM G M_L_ready X [.ref l0, .int l1] (KrI K) := AM_ofH (by decide +kernel) (0, 23, 24, 15) [] rfl (leb rfl) hG (by
  show AW G M_L_ready 0 [(0, .ref l0), (1, .int l1)] [] X 0 0 _
  unfold w_L_ready at h
  refine aw_aload_n 1 dL_ready_0 rfl 0 rfl rfl ?_
  refine aw_iload_n 2 dL_ready_1 rfl 1 rfl rfl ?_
  obtain ⟨g3, h⟩ := h
  refine aw_callV (M' := M_X4_readyByClauses) 5 140 4 l0 [.int _] [] dL_ready_2 lk_RL_140 mv_X4_readyByClauses mp_X4_readyByClauses rfl ⟨leb rfl, leb rfl⟩ rfl (ltb rfl) g3 rfl (leb rfl) (leb rfl) (leb rfl) rfl (am_X4_readyByClauses hG h) (kkT (kkI fun v2 X1 h => ?_)) (kxT KrI.no fun E X1 h => ?_)
  · refine aw_widen (cc' := 1) (ss' := 6) (leb rfl) (leb rfl) ?_
    refine aw_aload_n 6 dL_ready_5 rfl 0 rfl rfl ?_
    refine aw_iload_n 7 dL_ready_6 rfl 1 rfl rfl ?_
    obtain ⟨g6, h⟩ := h
    refine aw_callV (M' := M_X4_readyByVoices) 10 143 4 l0 [.int _] [.int _] dL_ready_7 lk_RL_143 mv_X4_readyByVoices mp_X4_readyByVoices rfl ⟨leb rfl, leb rfl⟩ rfl (ltb rfl) g6 rfl (leb rfl) (leb rfl) (leb rfl) rfl (am_X4_readyByVoices hG h) (kkT (kkI fun v5 X4 h => ?_)) (kxT KrI.no fun E X4 h => ?_)
    · refine aw_widen (cc' := 2) (ss' := 12) (leb rfl) (leb rfl) ?_
      refine aw_icmp_ne 21 13 dL_ready_10 rfl rfl (fun c7 => ?_) (fun c7 => ?_)
      · replace h := h.1 c7
        refine aw_bipush 23 (v := -9) dL_ready_21 kB_m9 rfl ?_
        exact aw_ireturn (ty := .int) dL_ready_23 rfl rfl (leb rfl) (leb rfl) ⟨_, rfl, h⟩
      · replace h := h.2 c7
        refine aw_aload_n 14 dL_ready_13 rfl 0 rfl rfl ?_
        refine aw_iload_n 15 dL_ready_14 rfl 1 rfl rfl ?_
        obtain ⟨g10, h⟩ := h
        refine aw_callV (M' := M_X4_readyByClauses) 18 140 4 l0 [.int _] [] dL_ready_15 lk_RL_140 mv_X4_readyByClauses mp_X4_readyByClauses rfl ⟨leb rfl, leb rfl⟩ rfl (ltb rfl) g10 rfl (leb rfl) (leb rfl) (leb rfl) rfl (am_X4_readyByClauses hG h) (kkT (kkI fun v9 X8 h => ?_)) (kxT KrI.no fun E X8 h => ?_)
        · refine aw_widen (cc' := 3) (ss' := 18) (leb rfl) (leb rfl) ?_
          refine aw_goto 23 dL_ready_18 rfl ?_
          exact aw_ireturn (ty := .int) dL_ready_23 rfl rfl (leb rfl) (leb rfl) ⟨_, rfl, h⟩
        · obtain ⟨hE, h⟩ := h
          rcases hE with rfl
          refine aw_atc (lv' := [(0, .ref _), (1, .int _)]) [] (0, 23, 24, 15) [] rfl (fun z hz => nomatch hz) (by decide) (by decide) (tk3 (i := 40) (by decide +kernel) rfl) (by decide) 2 1 25 (Or.inl ⟨2, rfl, dL_ready_24, rfl⟩) (ltb rfl) rfl ?_
          refine aw_widen (cc' := 3) (ss' := 18) (leb rfl) (leb rfl) ?_
          replace h := h rfl
          refine aw_bipush 27 (v := -2) dL_ready_25 kB_m2 rfl ?_
          exact aw_ireturn (ty := .int) dL_ready_27 rfl rfl (leb rfl) (leb rfl) ⟨_, rfl, h⟩
    · obtain ⟨hE, h⟩ := h
      rcases hE with rfl
      refine aw_atc (lv' := [(0, .ref _), (1, .int _)]) [] (0, 23, 24, 15) [] rfl (fun z hz => nomatch hz) (by decide) (by decide) (tk3 (i := 40) (by decide +kernel) rfl) (by decide) 2 1 25 (Or.inl ⟨2, rfl, dL_ready_24, rfl⟩) (ltb rfl) rfl ?_
      refine aw_widen (cc' := 2) (ss' := 12) (leb rfl) (leb rfl) ?_
      replace h := h rfl
      refine aw_bipush 27 (v := -2) dL_ready_25 kB_m2 rfl ?_
      exact aw_ireturn (ty := .int) dL_ready_27 rfl rfl (leb rfl) (leb rfl) ⟨_, rfl, h⟩
  · obtain ⟨hE, h⟩ := h
    rcases hE with rfl
    refine aw_atc (lv' := [(0, .ref _), (1, .int _)]) [] (0, 23, 24, 15) [] rfl (fun z hz => nomatch hz) (by decide) (by decide) (tk3 (i := 40) (by decide +kernel) rfl) (by decide) 2 1 25 (Or.inl ⟨2, rfl, dL_ready_24, rfl⟩) (ltb rfl) rfl ?_
    refine aw_widen (cc' := 1) (ss' := 6) (leb rfl) (leb rfl) ?_
    replace h := h rfl
    refine aw_bipush 27 (v := -2) dL_ready_25 kB_m2 rfl ?_
    exact aw_ireturn (ty := .int) dL_ready_27 rfl rfl (leb rfl) (leb rfl) ⟨_, rfl, h⟩)
set_option maxRecDepth 20000 in
theorem aw_X3_meanHundredths_7 {G : GG} (hG : G.1.stackTraces = false)  {l0 : Nat} {l1 : Int32} {l2 : Int32} {l3 : Int32} {l4 : Int32} {X : XH} {K : UInt64 → XH → Prop}  (h : w_X3_meanHundredths_7  l0 l1 l2 l3 l4 X K) : AW G M_X3_meanHundredths 7 [(0, .ref l0), (1, .int l1), (2, .int l2), (3, .int l3), (4, .int l4)] [] X 0 0 (KrD K) :=
  h (fun l0 l1 l2 l3 l4 X => AW G M_X3_meanHundredths 7 [(0, .ref l0), (1, .int l1), (2, .int l2), (3, .int l3), (4, .int l4)] [] X 0 0 (KrD K)) (fun l0 l1 l2 l3 l4 X h => by
    refine aw_iload 9 dX3_meanHundredths_7 4 rfl rfl ?_
    refine aw_aload_n 10 dX3_meanHundredths_9 rfl 0 rfl rfl ?_
    obtain ⟨g1, h⟩ := h
    refine aw_getI 13 dX3_meanHundredths_10 fl_RX3_45 rfl g1 rfl ?_
    refine aw_icmp_ge 45 16 dX3_meanHundredths_13 rfl rfl (fun c2 => ?_) (fun c2 => ?_)
    · replace h := h.1 c2
      refine aw_iload_n 46 dX3_meanHundredths_45 rfl 3 rfl rfl ?_
      refine aw_if_le 57 49 dX3_meanHundredths_46 rfl rfl (fun c3 => ?_) (fun c3 => ?_)
      · replace h := h.1 c3
        refine aw_dconst0 58 dX3_meanHundredths_57 rfl ?_
        exact aw_dreturn dX3_meanHundredths_58 rfl (leb rfl) (leb rfl) ⟨_, rfl, h⟩
      · replace h := h.2 c3
        refine aw_iload_n 50 dX3_meanHundredths_49 rfl 2 rfl rfl ?_
        refine aw_i2d 51 dX3_meanHundredths_50 rfl ?_
        refine aw_iload_n 52 dX3_meanHundredths_51 rfl 3 rfl rfl ?_
        refine aw_i2d 53 dX3_meanHundredths_52 rfl ?_
        obtain ⟨g4, h⟩ := h
        refine aw_ddiv 54 dX3_meanHundredths_53 g4 rfl ?_
        refine aw_goto 58 dX3_meanHundredths_54 rfl ?_
        exact aw_dreturn dX3_meanHundredths_58 rfl (leb rfl) (leb rfl) ⟨_, rfl, h⟩
    · replace h := h.2 c2
      refine aw_aload_n 17 dX3_meanHundredths_16 rfl 0 rfl rfl ?_
      refine aw_iload 19 dX3_meanHundredths_17 4 rfl rfl ?_
      refine aw_iload_n 20 dX3_meanHundredths_19 rfl 1 rfl rfl ?_
      refine aw_callV (M' := M_X3_hasTranslation) 23 108 3 l0 [.int _, .int _] [] dX3_meanHundredths_20 lk_RX3_108 mv_X3_hasTranslation mp_X3_hasTranslation rfl ⟨leb rfl, leb rfl⟩ rfl (ltb rfl) g1 rfl (leb rfl) (leb rfl) (leb rfl) rfl (am_X3_hasTranslation hG h) (kkI fun v6 X5 h => ?_) (kxN KrI.no)
      refine aw_widen (cc' := 0) (ss' := 0) (leb rfl) (leb rfl) ?_
      refine aw_if_eq 39 26 dX3_meanHundredths_23 rfl rfl (fun c7 => ?_) (fun c7 => ?_)
      · replace h := h.1 c7
        refine aw_iinc 42 (v := 1) (lv' := [(4, _), (0, _), (1, _), (2, _), (3, _)]) dX3_meanHundredths_39 4 rfl kI_1 (ltb rfl) rfl rfl ?_
        refine aw_goto 7 dX3_meanHundredths_42 rfl ?_
        exact aw_pick [1, 2, 3, 4, 0] rfl h
      · replace h := h.2 c7
        refine aw_iload_n 27 dX3_meanHundredths_26 rfl 2 rfl rfl ?_
        refine aw_aload_n 28 dX3_meanHundredths_27 rfl 0 rfl rfl ?_
        refine aw_iload 30 dX3_meanHundredths_28 4 rfl rfl ?_
        refine aw_iload_n 31 dX3_meanHundredths_30 rfl 1 rfl rfl ?_
        obtain ⟨g10, h⟩ := h
        refine aw_callV (M' := M_X3_hundredthsAt) 34 175 3 l0 [.int _, .int _] [.int _] dX3_meanHundredths_31 lk_RX3_175 mv_X3_hundredthsAt mp_X3_hundredthsAt rfl ⟨leb rfl, leb rfl⟩ rfl (ltb rfl) g10 rfl (leb rfl) (leb rfl) (leb rfl) rfl (am_X3_hundredthsAt hG h) (kkI fun v9 X8 h => ?_) (kxN KrI.no)
        refine aw_widen (cc' := 0) (ss' := 0) (leb rfl) (leb rfl) ?_
        refine aw_iadd 35 dX3_meanHundredths_34 rfl ?_
        refine aw_istore_n 36 (lv' := [(2, _), (0, _), (1, _), (3, _), (4, _)]) dX3_meanHundredths_35 rfl (ltb rfl) rfl rfl ?_
        refine aw_iinc 39 (v := 1) (lv' := [(3, _), (2, _), (0, _), (1, _), (4, _)]) dX3_meanHundredths_36 3 rfl kI_1 (ltb rfl) rfl rfl ?_
        refine aw_iinc 42 (v := 1) (lv' := [(4, _), (3, _), (2, _), (0, _), (1, _)]) dX3_meanHundredths_39 4 rfl kI_1 (ltb rfl) rfl rfl ?_
        refine aw_goto 7 dX3_meanHundredths_42 rfl ?_
        exact aw_pick [3, 4, 2, 1, 0] rfl h)
set_option maxRecDepth 20000 in
theorem am_X3_meanHundredths {G : GG} (hG : G.1.stackTraces = false) {l0 : Nat} {l1 : Int32} {X : XH} {K : UInt64 → XH → Prop} (h : w_X3_meanHundredths l0 l1 X K) : AM G M_X3_meanHundredths X [.ref l0, .int l1] (KrD K) := AM_of (by decide +kernel) rfl (leb rfl) hG (by
  show AW G M_X3_meanHundredths 0 [(0, .ref l0), (1, .int l1)] [] X 0 0 _
  unfold w_X3_meanHundredths at h
  refine aw_iconst 1 (v := 0) dX3_meanHundredths_0 kI_0 rfl ?_
  refine aw_istore_n 2 (lv' := [(2, _), (0, _), (1, _)]) dX3_meanHundredths_1 rfl (ltb rfl) rfl rfl ?_
  refine aw_iconst 3 (v := 0) dX3_meanHundredths_2 kI_0 rfl ?_
  refine aw_istore_n 4 (lv' := [(3, _), (2, _), (0, _), (1, _)]) dX3_meanHundredths_3 rfl (ltb rfl) rfl rfl ?_
  refine aw_iconst 5 (v := 0) dX3_meanHundredths_4 kI_0 rfl ?_
  refine aw_istore 7 (lv' := [(4, _), (3, _), (2, _), (0, _), (1, _)]) dX3_meanHundredths_5 (ltb rfl) rfl rfl ?_
  exact aw_pick [3, 4, 2, 1, 0] rfl (aw_X3_meanHundredths_7 hG  h))
set_option maxRecDepth 20000 in
theorem am_X4_meanFit {G : GG} (hG : G.1.stackTraces = false) {l0 : Nat} {l1 : Int32} {X : XH} {K : UInt64 → XH → Prop} {KX : String → XH → Prop} (h : w_X4_meanFit l0 l1 X K KX) : AM G M_X4_meanFit X [.ref l0, .int l1] (KxT (KrD K) KX) := AM_of (by decide +kernel) rfl (leb rfl) hG (by
  show AW G M_X4_meanFit 0 [(0, .ref l0), (1, .int l1)] [] X 0 0 _
  unfold w_X4_meanFit at h
  refine aw_iload_n 1 dX4_meanFit_0 rfl 1 rfl rfl ?_
  refine aw_callS (M' := M_X4_checkTongue) 4 195 [.int _] [] dX4_meanFit_1 lk_RX4_195 ms_X4_checkTongue mp_X4_checkTongue rfl ⟨leb rfl, leb rfl⟩ rfl (leb rfl) (leb rfl) (leb rfl) rfl (am_X4_checkTongue hG h) (kkT (kkV fun X1 h => ?_)) (kxT KrV.no fun E X h => at_out rfl (leb rfl) (leb rfl) (Or.inr ⟨_, rfl, h⟩))
  refine aw_widen (cc' := 1) (ss' := 6) (leb rfl) (leb rfl) ?_
  refine aw_aload_n 5 dX4_meanFit_4 rfl 0 rfl rfl ?_
  obtain ⟨g2, h⟩ := h
  obtain ⟨g3, h⟩ := h
  refine aw_getR 8 dX4_meanFit_5 fl_RX4_10 rfl g2 g3 rfl ?_
  refine aw_iload_n 9 dX4_meanFit_8 rfl 1 rfl rfl ?_
  obtain ⟨g6, h⟩ := h
  refine aw_callV (M' := M_X3_meanHundredths) 12 361 3 (hR X1 l0 0) [.int _] [] dX4_meanFit_9 lk_RX4_361 mv_X3_meanHundredths mp_X3_meanHundredths rfl ⟨leb rfl, leb rfl⟩ rfl (ltb rfl) g6 rfl (leb rfl) (leb rfl) (leb rfl) rfl (am_X3_meanHundredths hG h) (kkD fun v5 X4 h => ?_) (kxN KrD.no)
  refine aw_widen (cc' := 1) (ss' := 6) (leb rfl) (leb rfl) ?_
  exact aw_dreturn dX4_meanFit_12 rfl (leb rfl) (leb rfl) (Or.inl ⟨_, rfl, h⟩))
set_option maxRecDepth 20000 in
theorem am_L_meanFit {G : GG} (hG : G.1.stackTraces = false) {l0 : Nat} {l1 : Int32} {X : XH} {K : UInt64 → XH → Prop} (h : w_L_meanFit l0 l1 X K) : AM G M_L_meanFit X [.ref l0, .int l1] (KrD K) := AM_ofH (by decide +kernel) (0, 5, 6, 15) [] rfl (leb rfl) hG (by
  show AW G M_L_meanFit 0 [(0, .ref l0), (1, .int l1)] [] X 0 0 _
  unfold w_L_meanFit at h
  refine aw_aload_n 1 dL_meanFit_0 rfl 0 rfl rfl ?_
  refine aw_iload_n 2 dL_meanFit_1 rfl 1 rfl rfl ?_
  obtain ⟨g3, h⟩ := h
  refine aw_callV (M' := M_X4_meanFit) 5 169 4 l0 [.int _] [] dL_meanFit_2 lk_RL_169 mv_X4_meanFit mp_X4_meanFit rfl ⟨leb rfl, leb rfl⟩ rfl (ltb rfl) g3 rfl (leb rfl) (leb rfl) (leb rfl) rfl (am_X4_meanFit hG h) (kkT (kkD fun v2 X1 h => ?_)) (kxT KrD.no fun E X1 h => ?_)
  · refine aw_widen (cc' := 1) (ss' := 6) (leb rfl) (leb rfl) ?_
    exact aw_dreturn dL_meanFit_5 rfl (leb rfl) (leb rfl) ⟨_, rfl, h⟩
  · obtain ⟨hE, h⟩ := h
    rcases hE with rfl
    refine aw_atc (lv' := [(0, .ref _), (1, .int _)]) [] (0, 5, 6, 15) [] rfl (fun z hz => nomatch hz) (by decide) (by decide) (tk3 (i := 40) (by decide +kernel) rfl) (by decide) 2 1 7 (Or.inl ⟨2, rfl, dL_meanFit_6, rfl⟩) (ltb rfl) rfl ?_
    refine aw_widen (cc' := 1) (ss' := 6) (leb rfl) (leb rfl) ?_
    replace h := h rfl
    refine aw_ldc2d 10 (v := 13835058055282163712) dL_meanFit_7 (tk5 (i := 189) (by decide +kernel) rfl) rfl ?_
    exact aw_dreturn dL_meanFit_10 rfl (leb rfl) (leb rfl) ⟨_, rfl, h⟩)
set_option maxRecDepth 20000 in
theorem am_X4_recordings {G : GG} (hG : G.1.stackTraces = false) {l0 : Nat} {X : XH} {K : Int32 → XH → Prop} (h : w_X4_recordings l0 X K) : AM G M_X4_recordings X [.ref l0] (KrI K) := AM_of (by decide +kernel) rfl (leb rfl) hG (by
  show AW G M_X4_recordings 0 [(0, .ref l0)] [] X 0 0 _
  unfold w_X4_recordings at h
  refine aw_aload_n 1 dX4_recordings_0 rfl 0 rfl rfl ?_
  obtain ⟨g1, h⟩ := h
  obtain ⟨g2, h⟩ := h
  refine aw_getR 4 dX4_recordings_1 fl_RX4_10 rfl g1 g2 rfl ?_
  obtain ⟨g3, h⟩ := h
  refine aw_getI 7 dX4_recordings_4 fl_RX4_331 rfl g3 rfl ?_
  exact aw_ireturn (ty := .int) dX4_recordings_7 rfl rfl (leb rfl) (leb rfl) ⟨_, rfl, h⟩)
set_option maxRecDepth 20000 in
theorem am_X4_wiped {G : GG} (hG : G.1.stackTraces = false) {l0 : Nat} {X : XH} {K : Int32 → XH → Prop} (h : w_X4_wiped l0 X K) : AM G M_X4_wiped X [.ref l0] (KrI K) := AM_of (by decide +kernel) rfl (leb rfl) hG (by
  show AW G M_X4_wiped 0 [(0, .ref l0)] [] X 0 0 _
  unfold w_X4_wiped at h
  refine aw_aload_n 1 dX4_wiped_0 rfl 0 rfl rfl ?_
  obtain ⟨g1, h⟩ := h
  obtain ⟨g2, h⟩ := h
  refine aw_getR 4 dX4_wiped_1 fl_RX4_10 rfl g1 g2 rfl ?_
  obtain ⟨g3, h⟩ := h
  refine aw_getI 7 dX4_wiped_4 fl_RX4_334 rfl g3 rfl ?_
  exact aw_ireturn (ty := .int) dX4_wiped_7 rfl rfl (leb rfl) (leb rfl) ⟨_, rfl, h⟩)
set_option maxRecDepth 20000 in
theorem am_X4_mixes {G : GG} (hG : G.1.stackTraces = false) {l0 : Nat} {X : XH} {K : Int32 → XH → Prop} (h : w_X4_mixes l0 X K) : AM G M_X4_mixes X [.ref l0] (KrI K) := AM_of (by decide +kernel) rfl (leb rfl) hG (by
  show AW G M_X4_mixes 0 [(0, .ref l0)] [] X 0 0 _
  unfold w_X4_mixes at h
  refine aw_aload_n 1 dX4_mixes_0 rfl 0 rfl rfl ?_
  obtain ⟨g1, h⟩ := h
  obtain ⟨g2, h⟩ := h
  refine aw_getR 4 dX4_mixes_1 fl_RX4_10 rfl g1 g2 rfl ?_
  obtain ⟨g3, h⟩ := h
  refine aw_getI 7 dX4_mixes_4 fl_RX4_337 rfl g3 rfl ?_
  exact aw_ireturn (ty := .int) dX4_mixes_7 rfl rfl (leb rfl) (leb rfl) ⟨_, rfl, h⟩)
end XWK5
