/-! the walks of methods, as predicates -/
section XWK8
set_option maxRecDepth 20000 in
theorem aw_L_refuses_922 {G : GG} (hG : G.1.stackTraces = false) {P648 : Nat → Int32 → Int32 → Int32 → Int32 → Int32 → Int32 → Nat → Nat → XH → Prop} {l0 : Nat} {l1 : Int32} {l2 : Int32} {l4 : Int32} {l6 : Int32} {l8 : Int32} {l9 : Int32} {cc : Nat} {ss : Nat} {X : XH} {K : Int32 → XH → Prop} (hO648 : ∀ (l0 : Nat) (l1 : Int32) (l2 : Int32) (l4 : Int32) (l6 : Int32) (l7 : Int32) (l8 : Int32) (cc : Nat) (ss : Nat) (X : XH), P648 l0 l1 l2 l4 l6 l7 l8 cc ss X → AW G M_L_refuses 648 [(0, .ref l0), (1, .int l1), (2, .int l2), (4, .int l4), (6, .int l6), (7, .int l7), (8, .int l8)] [] X cc ss (KrI K)) (h : w_L_refuses_922 P648 l0 l1 l2 l4 l6 l8 l9 cc ss X K) : AW G M_L_refuses 922 [(0, .ref l0), (1, .int l1), (2, .int l2), (4, .int l4), (6, .int l6), (8, .int l8), (9, .int l9)] [] X cc ss (KrI K) := by
  unfold w_L_refuses_922 at h
  refine aw_aload_n 923 dL_refuses_922 rfl 0 rfl rfl ?_
  refine aw_iload 925 dL_refuses_923 5 rfl rfl ?_
  refine aw_iload 927 dL_refuses_925 6 rfl rfl ?_
  obtain ⟨g1, h⟩ := h
  obtain ⟨g2, h⟩ := h
  refine aw_callSX (M' := M_L_reasonAgainst) 930 262 [.ref _, .int _, .int _] [] dL_refuses_927 lk_RL_262 ms_L_reasonAgainst mp_L_reasonAgainst (0, 6, 7, 15) [] rfl ⟨leb rfl, leb rfl⟩ rfl (leb rfl) g1 g2 rfl (am_L_reasonAgainst hG h) (kkI fun v4 X3 h => ?_) (kxN KrI.no)
  refine aw_widen (cc' := cc + 2) (ss' := ss + 12) (Nat.le_refl _) (Nat.le_refl _) ?_
  refine aw_if_eq 946 933 dL_refuses_930 rfl rfl (fun c5 => ?_) (fun c5 => ?_)
  · replace h := h.1 c5
    refine aw_iconst 947 (v := 1) dL_refuses_946 kI_1 rfl ?_
    refine aw_goto 951 dL_refuses_947 rfl ?_
    refine aw_istore 953 (lv' := [(7, _), (0, _), (1, _), (2, _), (4, _), (6, _), (8, _), (9, _)]) dL_refuses_951 (ltb rfl) rfl rfl ?_
    refine aw_iinc 956 (v := 1) (lv' := [(8, _), (7, _), (0, _), (1, _), (2, _), (4, _), (6, _), (9, _)]) dL_refuses_953 6 rfl kI_1 (ltb rfl) rfl rfl ?_
    refine aw_goto 648 dL_refuses_956 rfl ?_
    exact aw_pick [2, 3, 4, 5, 6, 1, 0] rfl (hO648 _ _ _ _ _ _ _ _ _ _ h)
  · replace h := h.2 c5
    refine aw_aload_n 934 dL_refuses_933 rfl 0 rfl rfl ?_
    refine aw_iload 936 dL_refuses_934 5 rfl rfl ?_
    refine aw_iload 938 dL_refuses_936 6 rfl rfl ?_
    obtain ⟨g6, h⟩ := h
    obtain ⟨g7, h⟩ := h
    refine aw_callSX (M' := M_L_recordIt) 941 240 [.ref _, .int _, .int _] [] dL_refuses_938 lk_RL_240 ms_L_recordIt mp_L_recordIt (0, 6, 7, 15) [(0, 6, 11, 19)] rfl ⟨leb rfl, leb rfl⟩ rfl (leb rfl) g6 g7 rfl (am_L_recordIt hG h) (kkI fun v9 X8 h => ?_) (kxN KrI.no)
    refine aw_widen (cc' := cc + 5) (ss' := ss + 30) (Nat.le_refl _) (Nat.le_refl _) ?_
    refine aw_bipush 943 (v := -4) dL_refuses_941 kB_m4 rfl ?_
    refine aw_icmp_ne 950 946 dL_refuses_943 rfl rfl (fun c10 => ?_) (fun c10 => ?_)
    · replace h := h.1 c10
      refine aw_iconst 951 (v := 0) dL_refuses_950 kI_0 rfl ?_
      refine aw_istore 953 (lv' := [(7, _), (0, _), (1, _), (2, _), (4, _), (6, _), (8, _), (9, _)]) dL_refuses_951 (ltb rfl) rfl rfl ?_
      refine aw_iinc 956 (v := 1) (lv' := [(8, _), (7, _), (0, _), (1, _), (2, _), (4, _), (6, _), (9, _)]) dL_refuses_953 6 rfl kI_1 (ltb rfl) rfl rfl ?_
      refine aw_goto 648 dL_refuses_956 rfl ?_
      exact aw_pick [2, 3, 4, 5, 6, 1, 0] rfl (hO648 _ _ _ _ _ _ _ _ _ _ h)
    · replace h := h.2 c10
      refine aw_iconst 947 (v := 1) dL_refuses_946 kI_1 rfl ?_
      refine aw_goto 951 dL_refuses_947 rfl ?_
      refine aw_istore 953 (lv' := [(7, _), (0, _), (1, _), (2, _), (4, _), (6, _), (8, _), (9, _)]) dL_refuses_951 (ltb rfl) rfl rfl ?_
      refine aw_iinc 956 (v := 1) (lv' := [(8, _), (7, _), (0, _), (1, _), (2, _), (4, _), (6, _), (9, _)]) dL_refuses_953 6 rfl kI_1 (ltb rfl) rfl rfl ?_
      refine aw_goto 648 dL_refuses_956 rfl ?_
      exact aw_pick [2, 3, 4, 5, 6, 1, 0] rfl (hO648 _ _ _ _ _ _ _ _ _ _ h)
set_option maxRecDepth 20000 in
theorem aw_L_refuses_853 {G : GG} (hG : G.1.stackTraces = false) {P648 : Nat → Int32 → Int32 → Int32 → Int32 → Int32 → Int32 → Nat → Nat → XH → Prop} {l0 : Nat} {l1 : Int32} {l2 : Int32} {l4 : Int32} {l6 : Int32} {l8 : Int32} {l9 : Int32} {cc : Nat} {ss : Nat} {X : XH} {K : Int32 → XH → Prop} (hO648 : ∀ (l0 : Nat) (l1 : Int32) (l2 : Int32) (l4 : Int32) (l6 : Int32) (l7 : Int32) (l8 : Int32) (cc : Nat) (ss : Nat) (X : XH), P648 l0 l1 l2 l4 l6 l7 l8 cc ss X → AW G M_L_refuses 648 [(0, .ref l0), (1, .int l1), (2, .int l2), (4, .int l4), (6, .int l6), (7, .int l7), (8, .int l8)] [] X cc ss (KrI K)) (h : w_L_refuses_853 P648 l0 l1 l2 l4 l6 l8 l9 cc ss X K) : AW G M_L_refuses 853 [(0, .ref l0), (1, .int l1), (2, .int l2), (4, .int l4), (6, .int l6), (8, .int l8), (9, .int l9)] [] X cc ss (KrI K) := by
  unfold w_L_refuses_853 at h
  refine aw_aload_n 854 dL_refuses_853 rfl 0 rfl rfl ?_
  refine aw_iload 856 dL_refuses_854 5 rfl rfl ?_
  refine aw_iload 858 dL_refuses_856 6 rfl rfl ?_
  obtain ⟨g1, h⟩ := h
  obtain ⟨g2, h⟩ := h
  refine aw_callSX (M' := M_L_sessionOf) 861 264 [.ref _, .int _, .int _] [] dL_refuses_858 lk_RL_264 ms_L_sessionOf mp_L_sessionOf (0, 6, 7, 15) [(0, 6, 11, 19)] rfl ⟨leb rfl, leb rfl⟩ rfl (leb rfl) g1 g2 rfl (am_L_sessionOf hG h) (kkI fun v4 X3 h => ?_) (kxN KrI.no)
  refine aw_widen (cc' := cc + 3) (ss' := ss + 18) (Nat.le_refl _) (Nat.le_refl _) ?_
  refine aw_if_ge 880 864 dL_refuses_861 rfl rfl (fun c5 => ?_) (fun c5 => ?_)
  · replace h := h.1 c5
    refine aw_aload_n 881 dL_refuses_880 rfl 0 rfl rfl ?_
    refine aw_iload 883 dL_refuses_881 5 rfl rfl ?_
    refine aw_iload 885 dL_refuses_883 6 rfl rfl ?_
    refine aw_iconst 886 (v := 5) dL_refuses_885 kI_5 rfl ?_
    obtain ⟨g6, h⟩ := h
    obtain ⟨g7, h⟩ := h
    refine aw_callSX (M' := M_L_translate) 889 206 [.ref _, .int _, .int _, .int _] [] dL_refuses_886 lk_RL_206 ms_L_translate mp_L_translate (0, 7, 8, 15) [(0, 7, 14, 17), (0, 7, 20, 19)] rfl ⟨leb rfl, leb rfl⟩ rfl (leb rfl) g6 g7 rfl (am_L_translate hG h) (kkI fun v9 X8 h => ?_) (kxN KrI.no)
    refine aw_widen (cc' := cc + 7) (ss' := ss + 42) (Nat.le_refl _) (Nat.le_refl _) ?_
    refine aw_sipush 892 (v := -904) dL_refuses_889 kS_m904 rfl ?_
    refine aw_icmp_ne 950 895 dL_refuses_892 rfl rfl (fun c10 => ?_) (fun c10 => ?_)
    · replace h := h.1 c10
      refine aw_iconst 951 (v := 0) dL_refuses_950 kI_0 rfl ?_
      refine aw_istore 953 (lv' := [(7, _), (0, _), (1, _), (2, _), (4, _), (6, _), (8, _), (9, _)]) dL_refuses_951 (ltb rfl) rfl rfl ?_
      refine aw_iinc 956 (v := 1) (lv' := [(8, _), (7, _), (0, _), (1, _), (2, _), (4, _), (6, _), (9, _)]) dL_refuses_953 6 rfl kI_1 (ltb rfl) rfl rfl ?_
      refine aw_goto 648 dL_refuses_956 rfl ?_
      exact aw_pick [2, 3, 4, 5, 6, 1, 0] rfl (hO648 _ _ _ _ _ _ _ _ _ _ h)
    · replace h := h.2 c10
      refine aw_aload_n 896 dL_refuses_895 rfl 0 rfl rfl ?_
      refine aw_iload 898 dL_refuses_896 5 rfl rfl ?_
      refine aw_iload 900 dL_refuses_898 6 rfl rfl ?_
      refine aw_iconst 901 (v := 1) dL_refuses_900 kI_1 rfl ?_
      obtain ⟨g11, h⟩ := h
      obtain ⟨g12, h⟩ := h
      refine aw_callSX (M' := M_L_annex) 904 208 [.ref _, .int _, .int _, .int _] [] dL_refuses_901 lk_RL_208 ms_L_annex mp_L_annex (0, 7, 8, 15) [(0, 7, 13, 17), (0, 7, 18, 19)] rfl ⟨leb rfl, leb rfl⟩ rfl (leb rfl) g11 g12 rfl (am_L_annex hG h) (kkI fun v14 X13 h => ?_) (kxN KrI.no)
      refine aw_widen (cc' := cc + 11) (ss' := ss + 66) (Nat.le_refl _) (Nat.le_refl _) ?_
      refine aw_bipush 906 (v := -4) dL_refuses_904 kB_m4 rfl ?_
      refine aw_icmp_ne 950 909 dL_refuses_906 rfl rfl (fun c15 => ?_) (fun c15 => ?_)
      · replace h := h.1 c15
        refine aw_iconst 951 (v := 0) dL_refuses_950 kI_0 rfl ?_
        refine aw_istore 953 (lv' := [(7, _), (0, _), (1, _), (2, _), (4, _), (6, _), (8, _), (9, _)]) dL_refuses_951 (ltb rfl) rfl rfl ?_
        refine aw_iinc 956 (v := 1) (lv' := [(8, _), (7, _), (0, _), (1, _), (2, _), (4, _), (6, _), (9, _)]) dL_refuses_953 6 rfl kI_1 (ltb rfl) rfl rfl ?_
        refine aw_goto 648 dL_refuses_956 rfl ?_
        exact aw_pick [2, 3, 4, 5, 6, 1, 0] rfl (hO648 _ _ _ _ _ _ _ _ _ _ h)
      · replace h := h.2 c15
        refine aw_aload_n 910 dL_refuses_909 rfl 0 rfl rfl ?_
        refine aw_iload 912 dL_refuses_910 5 rfl rfl ?_
        refine aw_iload 914 dL_refuses_912 6 rfl rfl ?_
        obtain ⟨g16, h⟩ := h
        obtain ⟨g17, h⟩ := h
        refine aw_callSX (M' := M_L_bringBack) 917 210 [.ref _, .int _, .int _] [] dL_refuses_914 lk_RL_210 ms_L_bringBack mp_L_bringBack (0, 6, 7, 15) [(0, 6, 11, 19)] rfl ⟨leb rfl, leb rfl⟩ rfl (leb rfl) g16 g17 rfl (am_L_bringBack hG h) (kkI fun v19 X18 h => ?_) (kxN KrI.no)
        refine aw_widen (cc' := cc + 14) (ss' := ss + 84) (Nat.le_refl _) (Nat.le_refl _) ?_
        refine aw_bipush 919 (v := -4) dL_refuses_917 kB_m4 rfl ?_
        refine aw_icmp_ne 950 922 dL_refuses_919 rfl rfl (fun c20 => ?_) (fun c20 => ?_)
        · replace h := h.1 c20
          refine aw_iconst 951 (v := 0) dL_refuses_950 kI_0 rfl ?_
          refine aw_istore 953 (lv' := [(7, _), (0, _), (1, _), (2, _), (4, _), (6, _), (8, _), (9, _)]) dL_refuses_951 (ltb rfl) rfl rfl ?_
          refine aw_iinc 956 (v := 1) (lv' := [(8, _), (7, _), (0, _), (1, _), (2, _), (4, _), (6, _), (9, _)]) dL_refuses_953 6 rfl kI_1 (ltb rfl) rfl rfl ?_
          refine aw_goto 648 dL_refuses_956 rfl ?_
          exact aw_pick [2, 3, 4, 5, 6, 1, 0] rfl (hO648 _ _ _ _ _ _ _ _ _ _ h)
        · replace h := h.2 c20
          exact aw_pick [0, 1, 2, 3, 4, 5, 6] rfl (aw_L_refuses_922 hG hO648 h)
  · replace h := h.2 c5
    refine aw_aload_n 865 dL_refuses_864 rfl 0 rfl rfl ?_
    refine aw_iload 867 dL_refuses_865 5 rfl rfl ?_
    refine aw_iload 869 dL_refuses_867 6 rfl rfl ?_
    obtain ⟨g21, h⟩ := h
    obtain ⟨g22, h⟩ := h
    refine aw_callSX (M' := M_L_wipe) 872 217 [.ref _, .int _, .int _] [] dL_refuses_869 lk_RL_217 ms_L_wipe mp_L_wipe (0, 6, 7, 15) [(0, 6, 11, 19)] rfl ⟨leb rfl, leb rfl⟩ rfl (leb rfl) g21 g22 rfl (am_L_wipe hG h) (kkI fun v24 X23 h => ?_) (kxN KrI.no)
    refine aw_widen (cc' := cc + 6) (ss' := ss + 36) (Nat.le_refl _) (Nat.le_refl _) ?_
    refine aw_bipush 874 (v := -4) dL_refuses_872 kB_m4 rfl ?_
    refine aw_icmp_ne 950 877 dL_refuses_874 rfl rfl (fun c25 => ?_) (fun c25 => ?_)
    · replace h := h.1 c25
      refine aw_iconst 951 (v := 0) dL_refuses_950 kI_0 rfl ?_
      refine aw_istore 953 (lv' := [(7, _), (0, _), (1, _), (2, _), (4, _), (6, _), (8, _), (9, _)]) dL_refuses_951 (ltb rfl) rfl rfl ?_
      refine aw_iinc 956 (v := 1) (lv' := [(8, _), (7, _), (0, _), (1, _), (2, _), (4, _), (6, _), (9, _)]) dL_refuses_953 6 rfl kI_1 (ltb rfl) rfl rfl ?_
      refine aw_goto 648 dL_refuses_956 rfl ?_
      exact aw_pick [2, 3, 4, 5, 6, 1, 0] rfl (hO648 _ _ _ _ _ _ _ _ _ _ h)
    · replace h := h.2 c25
      refine aw_goto 922 dL_refuses_877 rfl ?_
      exact aw_pick [0, 1, 2, 3, 4, 5, 6] rfl (aw_L_refuses_922 hG hO648 h)
set_option maxRecDepth 20000 in
theorem aw_L_refuses_709 {G : GG} (hG : G.1.stackTraces = false) {P648 : Nat → Int32 → Int32 → Int32 → Int32 → Int32 → Int32 → Nat → Nat → XH → Prop} {l0 : Nat} {l1 : Int32} {l2 : Int32} {l4 : Int32} {l6 : Int32} {l8 : Int32} {l9 : Int32} {s0 : Int32} {cc : Nat} {ss : Nat} {X : XH} {K : Int32 → XH → Prop} (hO648 : ∀ (l0 : Nat) (l1 : Int32) (l2 : Int32) (l4 : Int32) (l6 : Int32) (l7 : Int32) (l8 : Int32) (cc : Nat) (ss : Nat) (X : XH), P648 l0 l1 l2 l4 l6 l7 l8 cc ss X → AW G M_L_refuses 648 [(0, .ref l0), (1, .int l1), (2, .int l2), (4, .int l4), (6, .int l6), (7, .int l7), (8, .int l8)] [] X cc ss (KrI K)) (h : w_L_refuses_709 P648 l0 l1 l2 l4 l6 l8 l9 s0 cc ss X K) : AW G M_L_refuses 709 [(0, .ref l0), (1, .int l1), (2, .int l2), (4, .int l4), (6, .int l6), (8, .int l8), (9, .int l9)] [.int s0] X cc ss (KrI K) := by
  unfold w_L_refuses_709 at h
  refine aw_istore 711 (lv' := [(10, _), (0, _), (1, _), (2, _), (4, _), (6, _), (8, _), (9, _)]) dL_refuses_709 (ltb rfl) rfl rfl ?_
  refine aw_aload_n 712 dL_refuses_711 rfl 1 rfl rfl ?_
  refine aw_iload 714 dL_refuses_712 6 rfl rfl ?_
  refine aw_bipush 716 (v := 61) dL_refuses_714 kB_61 rfl ?_
  refine aw_iload_n 717 dL_refuses_716 rfl 2 rfl rfl ?_
  refine aw_iadd 718 dL_refuses_717 rfl ?_
  obtain ⟨g1, h⟩ := h
  obtain ⟨g2, h⟩ := h
  refine aw_callSX (M' := M_L_changeLips) 721 199 [.ref _, .int _, .int _] [] dL_refuses_718 lk_RL_199 ms_L_changeLips mp_L_changeLips (0, 6, 7, 15) [(0, 6, 11, 17), (0, 6, 15, 19)] rfl ⟨leb rfl, leb rfl⟩ rfl (leb rfl) g1 g2 rfl (am_L_changeLips hG h) (kkI fun v4 X3 h => ?_) (kxN KrI.no)
  refine aw_widen (cc' := cc + 3) (ss' := ss + 18) (Nat.le_refl _) (Nat.le_refl _) ?_
  refine aw_bipush 723 (v := -3) dL_refuses_721 kB_m3 rfl ?_
  refine aw_icmp_ne 950 726 dL_refuses_723 rfl rfl (fun c5 => ?_) (fun c5 => ?_)
  · replace h := h.1 c5
    refine aw_iconst 951 (v := 0) dL_refuses_950 kI_0 rfl ?_
    refine aw_istore 953 (lv' := [(7, _), (10, _), (0, _), (1, _), (2, _), (4, _), (6, _), (8, _), (9, _)]) dL_refuses_951 (ltb rfl) rfl rfl ?_
    refine aw_iinc 956 (v := 1) (lv' := [(8, _), (7, _), (10, _), (0, _), (1, _), (2, _), (4, _), (6, _), (9, _)]) dL_refuses_953 7 rfl kI_1 (ltb rfl) rfl rfl ?_
    refine aw_goto 648 dL_refuses_956 rfl ?_
    exact aw_pick [3, 4, 5, 6, 7, 1, 0] rfl (hO648 _ _ _ _ _ _ _ _ _ _ h)
  · replace h := h.2 c5
    refine aw_aload_n 727 dL_refuses_726 rfl 1 rfl rfl ?_
    refine aw_iload 729 dL_refuses_727 6 rfl rfl ?_
    refine aw_bipush 731 (v := 21) dL_refuses_729 kB_21 rfl ?_
    refine aw_iload_n 732 dL_refuses_731 rfl 2 rfl rfl ?_
    refine aw_iadd 733 dL_refuses_732 rfl ?_
    obtain ⟨g6, h⟩ := h
    obtain ⟨g7, h⟩ := h
    refine aw_callSX (M' := M_L_changeSigh) 736 202 [.ref _, .int _, .int _] [] dL_refuses_733 lk_RL_202 ms_L_changeSigh mp_L_changeSigh (0, 6, 7, 15) [(0, 6, 11, 17), (0, 6, 15, 19)] rfl ⟨leb rfl, leb rfl⟩ rfl (leb rfl) g6 g7 rfl (am_L_changeSigh hG h) (kkI fun v9 X8 h => ?_) (kxN KrI.no)
    refine aw_widen (cc' := cc + 6) (ss' := ss + 36) (Nat.le_refl _) (Nat.le_refl _) ?_
    refine aw_bipush 738 (v := -3) dL_refuses_736 kB_m3 rfl ?_
    refine aw_icmp_ne 950 741 dL_refuses_738 rfl rfl (fun c10 => ?_) (fun c10 => ?_)
    · replace h := h.1 c10
      refine aw_iconst 951 (v := 0) dL_refuses_950 kI_0 rfl ?_
      refine aw_istore 953 (lv' := [(7, _), (10, _), (0, _), (1, _), (2, _), (4, _), (6, _), (8, _), (9, _)]) dL_refuses_951 (ltb rfl) rfl rfl ?_
      refine aw_iinc 956 (v := 1) (lv' := [(8, _), (7, _), (10, _), (0, _), (1, _), (2, _), (4, _), (6, _), (9, _)]) dL_refuses_953 7 rfl kI_1 (ltb rfl) rfl rfl ?_
      refine aw_goto 648 dL_refuses_956 rfl ?_
      exact aw_pick [3, 4, 5, 6, 7, 1, 0] rfl (hO648 _ _ _ _ _ _ _ _ _ _ h)
    · replace h := h.2 c10
      refine aw_aload_n 742 dL_refuses_741 rfl 1 rfl rfl ?_
      refine aw_iload 744 dL_refuses_742 6 rfl rfl ?_
      refine aw_iload 746 dL_refuses_744 4 rfl rfl ?_
      obtain ⟨g11, h⟩ := h
      obtain ⟨g12, h⟩ := h
      refine aw_callSX (M' := M_L_moveClause) 749 204 [.ref _, .int _, .int _] [] dL_refuses_746 lk_RL_204 ms_L_moveClause mp_L_moveClause (0, 6, 7, 15) [(0, 6, 11, 19)] rfl ⟨leb rfl, leb rfl⟩ rfl (leb rfl) g11 g12 rfl (am_L_moveClause hG h) (kkI fun v14 X13 h => ?_) (kxN KrI.no)
      refine aw_widen (cc' := cc + 9) (ss' := ss + 54) (Nat.le_refl _) (Nat.le_refl _) ?_
      refine aw_bipush 751 (v := -2) dL_refuses_749 kB_m2 rfl ?_
      refine aw_icmp_ne 950 754 dL_refuses_751 rfl rfl (fun c15 => ?_) (fun c15 => ?_)
      · replace h := h.1 c15
        refine aw_iconst 951 (v := 0) dL_refuses_950 kI_0 rfl ?_
        refine aw_istore 953 (lv' := [(7, _), (10, _), (0, _), (1, _), (2, _), (4, _), (6, _), (8, _), (9, _)]) dL_refuses_951 (ltb rfl) rfl rfl ?_
        refine aw_iinc 956 (v := 1) (lv' := [(8, _), (7, _), (10, _), (0, _), (1, _), (2, _), (4, _), (6, _), (9, _)]) dL_refuses_953 7 rfl kI_1 (ltb rfl) rfl rfl ?_
        refine aw_goto 648 dL_refuses_956 rfl ?_
        exact aw_pick [3, 4, 5, 6, 7, 1, 0] rfl (hO648 _ _ _ _ _ _ _ _ _ _ h)
      · replace h := h.2 c15
        refine aw_aload_n 755 dL_refuses_754 rfl 1 rfl rfl ?_
        refine aw_iload 757 dL_refuses_755 6 rfl rfl ?_
        refine aw_aload_n 758 dL_refuses_757 rfl 1 rfl rfl ?_
        refine aw_iload 760 dL_refuses_758 6 rfl rfl ?_
        obtain ⟨g16, h⟩ := h
        obtain ⟨g17, h⟩ := h
        refine aw_callSX (M' := M_L_clauseOf) 763 255 [.ref _, .int _] [.int _, .ref _] dL_refuses_760 lk_RL_255 ms_L_clauseOf mp_L_clauseOf (0, 32, 33, 15) [] rfl ⟨leb rfl, leb rfl⟩ rfl (leb rfl) g16 g17 rfl (am_L_clauseOf hG h) (kkI fun v19 X18 h => ?_) (kxN KrI.no)
        refine aw_widen (cc' := cc + 13) (ss' := ss + 78) (Nat.le_refl _) (Nat.le_refl _) ?_
        refine aw_iconst 764 (v := 4) dL_refuses_763 kI_4 rfl ?_
        refine aw_irem 765 dL_refuses_764 (by decide) rfl ?_
        obtain ⟨g20, h⟩ := h
        obtain ⟨g21, h⟩ := h
        refine aw_callSX (M' := M_L_moveClause) 768 204 [.ref _, .int _, .int _] [] dL_refuses_765 lk_RL_204 ms_L_moveClause mp_L_moveClause (0, 6, 7, 15) [(0, 6, 11, 19)] rfl ⟨leb rfl, leb rfl⟩ rfl (leb rfl) g20 g21 rfl (am_L_moveClause hG h) (kkI fun v23 X22 h => ?_) (kxN KrI.no)
        refine aw_widen (cc' := cc + 16) (ss' := ss + 96) (Nat.le_refl _) (Nat.le_refl _) ?_
        refine aw_bipush 770 (v := -4) dL_refuses_768 kB_m4 rfl ?_
        refine aw_icmp_ne 950 773 dL_refuses_770 rfl rfl (fun c24 => ?_) (fun c24 => ?_)
        · replace h := h.1 c24
          refine aw_iconst 951 (v := 0) dL_refuses_950 kI_0 rfl ?_
          refine aw_istore 953 (lv' := [(7, _), (10, _), (0, _), (1, _), (2, _), (4, _), (6, _), (8, _), (9, _)]) dL_refuses_951 (ltb rfl) rfl rfl ?_
          refine aw_iinc 956 (v := 1) (lv' := [(8, _), (7, _), (10, _), (0, _), (1, _), (2, _), (4, _), (6, _), (9, _)]) dL_refuses_953 7 rfl kI_1 (ltb rfl) rfl rfl ?_
          refine aw_goto 648 dL_refuses_956 rfl ?_
          exact aw_pick [3, 4, 5, 6, 7, 1, 0] rfl (hO648 _ _ _ _ _ _ _ _ _ _ h)
        · replace h := h.2 c24
          refine aw_aload_n 774 dL_refuses_773 rfl 1 rfl rfl ?_
          refine aw_iload 776 dL_refuses_774 6 rfl rfl ?_
          refine aw_iload 778 dL_refuses_776 5 rfl rfl ?_
          refine aw_iconst 779 (v := 5) dL_refuses_778 kI_5 rfl ?_
          obtain ⟨g25, h⟩ := h
          obtain ⟨g26, h⟩ := h
          refine aw_callSX (M' := M_L_translate) 782 206 [.ref _, .int _, .int _, .int _] [] dL_refuses_779 lk_RL_206 ms_L_translate mp_L_translate (0, 7, 8, 15) [(0, 7, 14, 17), (0, 7, 20, 19)] rfl ⟨leb rfl, leb rfl⟩ rfl (leb rfl) g25 g26 rfl (am_L_translate hG h) (kkI fun v28 X27 h => ?_) (kxN KrI.no)
          refine aw_widen (cc' := cc + 20) (ss' := ss + 120) (Nat.le_refl _) (Nat.le_refl _) ?_
          refine aw_sipush 785 (v := -902) dL_refuses_782 kS_m902 rfl ?_
          refine aw_icmp_ne 950 788 dL_refuses_785 rfl rfl (fun c29 => ?_) (fun c29 => ?_)
          · replace h := h.1 c29
            refine aw_iconst 951 (v := 0) dL_refuses_950 kI_0 rfl ?_
            refine aw_istore 953 (lv' := [(7, _), (10, _), (0, _), (1, _), (2, _), (4, _), (6, _), (8, _), (9, _)]) dL_refuses_951 (ltb rfl) rfl rfl ?_
            refine aw_iinc 956 (v := 1) (lv' := [(8, _), (7, _), (10, _), (0, _), (1, _), (2, _), (4, _), (6, _), (9, _)]) dL_refuses_953 7 rfl kI_1 (ltb rfl) rfl rfl ?_
            refine aw_goto 648 dL_refuses_956 rfl ?_
            exact aw_pick [3, 4, 5, 6, 7, 1, 0] rfl (hO648 _ _ _ _ _ _ _ _ _ _ h)
          · replace h := h.2 c29
            refine aw_aload_n 789 dL_refuses_788 rfl 1 rfl rfl ?_
            refine aw_iload 791 dL_refuses_789 6 rfl rfl ?_
            refine aw_iload 793 dL_refuses_791 7 rfl rfl ?_
            refine aw_bipush 795 (v := 61) dL_refuses_793 kB_61 rfl ?_
            refine aw_iload_n 796 dL_refuses_795 rfl 2 rfl rfl ?_
            refine aw_iadd 797 dL_refuses_796 rfl ?_
            obtain ⟨g30, h⟩ := h
            obtain ⟨g31, h⟩ := h
            refine aw_callSX (M' := M_L_translate) 800 206 [.ref _, .int _, .int _, .int _] [] dL_refuses_797 lk_RL_206 ms_L_translate mp_L_translate (0, 7, 8, 15) [(0, 7, 14, 17), (0, 7, 20, 19)] rfl ⟨leb rfl, leb rfl⟩ rfl (leb rfl) g30 g31 rfl (am_L_translate hG h) (kkI fun v33 X32 h => ?_) (kxN KrI.no)
            refine aw_widen (cc' := cc + 24) (ss' := ss + 144) (Nat.le_refl _) (Nat.le_refl _) ?_
            refine aw_sipush 803 (v := -903) dL_refuses_800 kS_m903 rfl ?_
            refine aw_icmp_ne 950 806 dL_refuses_803 rfl rfl (fun c34 => ?_) (fun c34 => ?_)
            · replace h := h.1 c34
              refine aw_iconst 951 (v := 0) dL_refuses_950 kI_0 rfl ?_
              refine aw_istore 953 (lv' := [(7, _), (10, _), (0, _), (1, _), (2, _), (4, _), (6, _), (8, _), (9, _)]) dL_refuses_951 (ltb rfl) rfl rfl ?_
              refine aw_iinc 956 (v := 1) (lv' := [(8, _), (7, _), (10, _), (0, _), (1, _), (2, _), (4, _), (6, _), (9, _)]) dL_refuses_953 7 rfl kI_1 (ltb rfl) rfl rfl ?_
              refine aw_goto 648 dL_refuses_956 rfl ?_
              exact aw_pick [3, 4, 5, 6, 7, 1, 0] rfl (hO648 _ _ _ _ _ _ _ _ _ _ h)
            · replace h := h.2 c34
              refine aw_aload_n 807 dL_refuses_806 rfl 1 rfl rfl ?_
              refine aw_iload 809 dL_refuses_807 6 rfl rfl ?_
              refine aw_iload 811 dL_refuses_809 7 rfl rfl ?_
              refine aw_bipush 813 (v := 60) dL_refuses_811 kB_60 rfl ?_
              refine aw_iload_n 814 dL_refuses_813 rfl 2 rfl rfl ?_
              refine aw_iadd 815 dL_refuses_814 rfl ?_
              obtain ⟨g35, h⟩ := h
              obtain ⟨g36, h⟩ := h
              refine aw_callSX (M' := M_L_annex) 818 208 [.ref _, .int _, .int _, .int _] [] dL_refuses_815 lk_RL_208 ms_L_annex mp_L_annex (0, 7, 8, 15) [(0, 7, 13, 17), (0, 7, 18, 19)] rfl ⟨leb rfl, leb rfl⟩ rfl (leb rfl) g35 g36 rfl (am_L_annex hG h) (kkI fun v38 X37 h => ?_) (kxN KrI.no)
              refine aw_widen (cc' := cc + 28) (ss' := ss + 168) (Nat.le_refl _) (Nat.le_refl _) ?_
              refine aw_bipush 820 (v := -3) dL_refuses_818 kB_m3 rfl ?_
              refine aw_icmp_ne 950 823 dL_refuses_820 rfl rfl (fun c39 => ?_) (fun c39 => ?_)
              · replace h := h.1 c39
                refine aw_iconst 951 (v := 0) dL_refuses_950 kI_0 rfl ?_
                refine aw_istore 953 (lv' := [(7, _), (10, _), (0, _), (1, _), (2, _), (4, _), (6, _), (8, _), (9, _)]) dL_refuses_951 (ltb rfl) rfl rfl ?_
                refine aw_iinc 956 (v := 1) (lv' := [(8, _), (7, _), (10, _), (0, _), (1, _), (2, _), (4, _), (6, _), (9, _)]) dL_refuses_953 7 rfl kI_1 (ltb rfl) rfl rfl ?_
                refine aw_goto 648 dL_refuses_956 rfl ?_
                exact aw_pick [3, 4, 5, 6, 7, 1, 0] rfl (hO648 _ _ _ _ _ _ _ _ _ _ h)
              · replace h := h.2 c39
                refine aw_iload 825 dL_refuses_823 0 rfl rfl ?_
                refine aw_if_eq 853 828 dL_refuses_825 rfl rfl (fun c40 => ?_) (fun c40 => ?_)
                · replace h := h.1 c40
                  exact aw_pick [1, 2, 3, 4, 5, 6, 7] rfl (aw_L_refuses_853 hG hO648 h)
                · replace h := h.2 c40
                  refine aw_aload_n 829 dL_refuses_828 rfl 1 rfl rfl ?_
                  refine aw_iload 831 dL_refuses_829 6 rfl rfl ?_
                  refine aw_bipush 833 (v := 60) dL_refuses_831 kB_60 rfl ?_
                  obtain ⟨g41, h⟩ := h
                  obtain ⟨g42, h⟩ := h
                  refine aw_callSX (M' := M_L_changeLips) 836 199 [.ref _, .int _, .int _] [] dL_refuses_833 lk_RL_199 ms_L_changeLips mp_L_changeLips (0, 6, 7, 15) [(0, 6, 11, 17), (0, 6, 15, 19)] rfl ⟨leb rfl, leb rfl⟩ rfl (leb rfl) g41 g42 rfl (am_L_changeLips hG h) (kkI fun v44 X43 h => ?_) (kxN KrI.no)
                  refine aw_widen (cc' := cc + 31) (ss' := ss + 186) (Nat.le_refl _) (Nat.le_refl _) ?_
                  refine aw_bipush 838 (v := -4) dL_refuses_836 kB_m4 rfl ?_
                  refine aw_icmp_ne 950 841 dL_refuses_838 rfl rfl (fun c45 => ?_) (fun c45 => ?_)
                  · replace h := h.1 c45
                    refine aw_iconst 951 (v := 0) dL_refuses_950 kI_0 rfl ?_
                    refine aw_istore 953 (lv' := [(7, _), (10, _), (0, _), (1, _), (2, _), (4, _), (6, _), (8, _), (9, _)]) dL_refuses_951 (ltb rfl) rfl rfl ?_
                    refine aw_iinc 956 (v := 1) (lv' := [(8, _), (7, _), (10, _), (0, _), (1, _), (2, _), (4, _), (6, _), (9, _)]) dL_refuses_953 7 rfl kI_1 (ltb rfl) rfl rfl ?_
                    refine aw_goto 648 dL_refuses_956 rfl ?_
                    exact aw_pick [3, 4, 5, 6, 7, 1, 0] rfl (hO648 _ _ _ _ _ _ _ _ _ _ h)
                  · replace h := h.2 c45
                    refine aw_aload_n 842 dL_refuses_841 rfl 1 rfl rfl ?_
                    refine aw_iload 844 dL_refuses_842 6 rfl rfl ?_
                    refine aw_iconst 845 (v := 0) dL_refuses_844 kI_0 rfl ?_
                    obtain ⟨g46, h⟩ := h
                    obtain ⟨g47, h⟩ := h
                    refine aw_callSX (M' := M_L_changeSigh) 848 202 [.ref _, .int _, .int _] [] dL_refuses_845 lk_RL_202 ms_L_changeSigh mp_L_changeSigh (0, 6, 7, 15) [(0, 6, 11, 17), (0, 6, 15, 19)] rfl ⟨leb rfl, leb rfl⟩ rfl (leb rfl) g46 g47 rfl (am_L_changeSigh hG h) (kkI fun v49 X48 h => ?_) (kxN KrI.no)
                    refine aw_widen (cc' := cc + 34) (ss' := ss + 204) (Nat.le_refl _) (Nat.le_refl _) ?_
                    refine aw_bipush 850 (v := -4) dL_refuses_848 kB_m4 rfl ?_
                    refine aw_icmp_ne 950 853 dL_refuses_850 rfl rfl (fun c50 => ?_) (fun c50 => ?_)
                    · replace h := h.1 c50
                      refine aw_iconst 951 (v := 0) dL_refuses_950 kI_0 rfl ?_
                      refine aw_istore 953 (lv' := [(7, _), (10, _), (0, _), (1, _), (2, _), (4, _), (6, _), (8, _), (9, _)]) dL_refuses_951 (ltb rfl) rfl rfl ?_
                      refine aw_iinc 956 (v := 1) (lv' := [(8, _), (7, _), (10, _), (0, _), (1, _), (2, _), (4, _), (6, _), (9, _)]) dL_refuses_953 7 rfl kI_1 (ltb rfl) rfl rfl ?_
                      refine aw_goto 648 dL_refuses_956 rfl ?_
                      exact aw_pick [3, 4, 5, 6, 7, 1, 0] rfl (hO648 _ _ _ _ _ _ _ _ _ _ h)
                    · replace h := h.2 c50
                      exact aw_pick [1, 2, 3, 4, 5, 6, 7] rfl (aw_L_refuses_853 hG hO648 h)
set_option maxRecDepth 20000 in
theorem aw_L_refuses_1011 {G : GG} (hG : G.1.stackTraces = false)  {l0 : Nat} {l1 : Int32} {cc : Nat} {ss : Nat} {X : XH} {K : Int32 → XH → Prop}  (h : w_L_refuses_1011  l0 l1 cc ss X K) : AW G M_L_refuses 1011 [(0, .ref l0), (1, .int l1)] [] X cc ss (KrI K) := by
  unfold w_L_refuses_1011 at h
  refine aw_aload_n 1012 dL_refuses_1011 rfl 0 rfl rfl ?_
  refine aw_iload_n 1013 dL_refuses_1012 rfl 1 rfl rfl ?_
  refine aw_iconst 1014 (v := 4) dL_refuses_1013 kI_4 rfl ?_
  refine aw_irem 1015 dL_refuses_1014 (by decide) rfl ?_
  refine aw_iconst 1016 (v := 1) dL_refuses_1015 kI_1 rfl ?_
  obtain ⟨g1, h⟩ := h
  obtain ⟨g2, h⟩ := h
  refine aw_callSX (M' := M_L_mixOf) 1019 288 [.ref _, .int _, .int _] [] dL_refuses_1016 lk_RL_288 ms_L_mixOf mp_L_mixOf (0, 49, 50, 15) [] rfl ⟨leb rfl, leb rfl⟩ rfl (leb rfl) g1 g2 rfl (am_L_mixOf hG h) (kkI fun v4 X3 h => ?_) (kxN KrI.no)
  refine aw_widen (cc' := cc + 8) (ss' := ss + 48) (Nat.le_refl _) (Nat.le_refl _) ?_
  refine aw_bipush 1021 (v := 10) dL_refuses_1019 kB_10 rfl ?_
  refine aw_irem 1022 dL_refuses_1021 (by decide) rfl ?_
  refine aw_iconst 1023 (v := 3) dL_refuses_1022 kI_3 rfl ?_
  refine aw_icmp_eq 1042 1026 dL_refuses_1023 rfl rfl (fun c5 => ?_) (fun c5 => ?_)
  · replace h := h.1 c5
    refine aw_iconst 1043 (v := 1) dL_refuses_1042 kI_1 rfl ?_
    refine aw_goto 1047 dL_refuses_1043 rfl ?_
    obtain ⟨g6, h⟩ := h
    obtain ⟨g7, h⟩ := h
    exact aw_ireturn (ty := .boolean) dL_refuses_1047 rfl rfl g6 g7 ⟨_, rfl, h⟩
  · replace h := h.2 c5
    refine aw_aload_n 1027 dL_refuses_1026 rfl 0 rfl rfl ?_
    refine aw_iload_n 1028 dL_refuses_1027 rfl 1 rfl rfl ?_
    refine aw_iconst 1029 (v := 5) dL_refuses_1028 kI_5 rfl ?_
    refine aw_irem 1030 dL_refuses_1029 (by decide) rfl ?_
    refine aw_iload_n 1031 dL_refuses_1030 rfl 1 rfl rfl ?_
    refine aw_iconst 1032 (v := 4) dL_refuses_1031 kI_4 rfl ?_
    refine aw_irem 1033 dL_refuses_1032 (by decide) rfl ?_
    refine aw_iconst 1034 (v := 1) dL_refuses_1033 kI_1 rfl ?_
    obtain ⟨g8, h⟩ := h
    obtain ⟨g9, h⟩ := h
    refine aw_callSX (M' := M_L_sign) 1037 221 [.ref _, .int _, .int _, .int _] [] dL_refuses_1034 lk_RL_221 ms_L_sign mp_L_sign (0, 7, 8, 15) [(0, 7, 13, 19)] rfl ⟨leb rfl, leb rfl⟩ rfl (leb rfl) g8 g9 rfl (am_L_sign hG h) (kkI fun v11 X10 h => ?_) (kxN KrI.no)
    refine aw_widen (cc' := cc + 12) (ss' := ss + 72) (Nat.le_refl _) (Nat.le_refl _) ?_
    refine aw_bipush 1039 (v := -4) dL_refuses_1037 kB_m4 rfl ?_
    refine aw_icmp_ne 1046 1042 dL_refuses_1039 rfl rfl (fun c12 => ?_) (fun c12 => ?_)
    · replace h := h.1 c12
      refine aw_iconst 1047 (v := 0) dL_refuses_1046 kI_0 rfl ?_
      obtain ⟨g13, h⟩ := h
      obtain ⟨g14, h⟩ := h
      exact aw_ireturn (ty := .boolean) dL_refuses_1047 rfl rfl g13 g14 ⟨_, rfl, h⟩
    · replace h := h.2 c12
      refine aw_iconst 1043 (v := 1) dL_refuses_1042 kI_1 rfl ?_
      refine aw_goto 1047 dL_refuses_1043 rfl ?_
      obtain ⟨g15, h⟩ := h
      obtain ⟨g16, h⟩ := h
      exact aw_ireturn (ty := .boolean) dL_refuses_1047 rfl rfl g15 g16 ⟨_, rfl, h⟩
set_option maxRecDepth 20000 in
theorem aw_L_refuses_983 {G : GG} (hG : G.1.stackTraces = false)  {l0 : Nat} {l1 : Int32} {cc : Nat} {ss : Nat} {X : XH} {K : Int32 → XH → Prop}  (h : w_L_refuses_983  l0 l1 cc ss X K) : AW G M_L_refuses 983 [(0, .ref l0), (1, .int l1)] [] X cc ss (KrI K) := by
  unfold w_L_refuses_983 at h
  refine aw_aload_n 984 dL_refuses_983 rfl 0 rfl rfl ?_
  refine aw_iload_n 985 dL_refuses_984 rfl 1 rfl rfl ?_
  refine aw_iconst 986 (v := 4) dL_refuses_985 kI_4 rfl ?_
  refine aw_irem 987 dL_refuses_986 (by decide) rfl ?_
  refine aw_iconst 988 (v := 0) dL_refuses_987 kI_0 rfl ?_
  obtain ⟨g1, h⟩ := h
  obtain ⟨g2, h⟩ := h
  refine aw_callSX (M' := M_L_mixOf) 991 288 [.ref _, .int _, .int _] [] dL_refuses_988 lk_RL_288 ms_L_mixOf mp_L_mixOf (0, 49, 50, 15) [] rfl ⟨leb rfl, leb rfl⟩ rfl (leb rfl) g1 g2 rfl (am_L_mixOf hG h) (kkI fun v4 X3 h => ?_) (kxN KrI.no)
  refine aw_widen (cc' := cc + 8) (ss' := ss + 48) (Nat.le_refl _) (Nat.le_refl _) ?_
  refine aw_bipush 993 (v := 10) dL_refuses_991 kB_10 rfl ?_
  refine aw_irem 994 dL_refuses_993 (by decide) rfl ?_
  refine aw_iconst 995 (v := 1) dL_refuses_994 kI_1 rfl ?_
  refine aw_icmp_eq 1011 998 dL_refuses_995 rfl rfl (fun c5 => ?_) (fun c5 => ?_)
  · replace h := h.1 c5
    exact aw_pick [0, 1] rfl (aw_L_refuses_1011 hG  h)
  · replace h := h.2 c5
    refine aw_aload_n 999 dL_refuses_998 rfl 0 rfl rfl ?_
    refine aw_iload_n 1000 dL_refuses_999 rfl 1 rfl rfl ?_
    refine aw_iconst 1001 (v := 4) dL_refuses_1000 kI_4 rfl ?_
    refine aw_irem 1002 dL_refuses_1001 (by decide) rfl ?_
    refine aw_iconst 1003 (v := 0) dL_refuses_1002 kI_0 rfl ?_
    obtain ⟨g6, h⟩ := h
    obtain ⟨g7, h⟩ := h
    refine aw_callSX (M' := M_L_mix) 1006 219 [.ref _, .int _, .int _] [] dL_refuses_1003 lk_RL_219 ms_L_mix mp_L_mix (0, 6, 7, 15) [(0, 6, 11, 19)] rfl ⟨leb rfl, leb rfl⟩ rfl (leb rfl) g6 g7 rfl (am_L_mix hG h) (kkI fun v9 X8 h => ?_) (kxN KrI.no)
    refine aw_widen (cc' := cc + 11) (ss' := ss + 66) (Nat.le_refl _) (Nat.le_refl _) ?_
    refine aw_bipush 1008 (v := -4) dL_refuses_1006 kB_m4 rfl ?_
    refine aw_icmp_ne 1046 1011 dL_refuses_1008 rfl rfl (fun c10 => ?_) (fun c10 => ?_)
    · replace h := h.1 c10
      refine aw_iconst 1047 (v := 0) dL_refuses_1046 kI_0 rfl ?_
      obtain ⟨g11, h⟩ := h
      obtain ⟨g12, h⟩ := h
      exact aw_ireturn (ty := .boolean) dL_refuses_1047 rfl rfl g11 g12 ⟨_, rfl, h⟩
    · replace h := h.2 c10
      exact aw_pick [0, 1] rfl (aw_L_refuses_1011 hG  h)
set_option maxRecDepth 20000 in
theorem aw_L_refuses_959 {G : GG} (hG : G.1.stackTraces = false)  {l0 : Nat} {l1 : Int32} {l2 : Int32} {l7 : Int32} {cc : Nat} {ss : Nat} {X : XH} {K : Int32 → XH → Prop}  (h : w_L_refuses_959  l0 l1 l2 l7 cc ss X K) : AW G M_L_refuses 959 [(0, .ref l0), (1, .int l1), (2, .int l2), (7, .int l7)] [] X cc ss (KrI K) := by
  unfold w_L_refuses_959 at h
  refine aw_iload 961 dL_refuses_959 3 rfl rfl ?_
  refine aw_if_eq 1046 964 dL_refuses_961 rfl rfl (fun c1 => ?_) (fun c1 => ?_)
  · replace h := h.1 c1
    refine aw_iconst 1047 (v := 0) dL_refuses_1046 kI_0 rfl ?_
    obtain ⟨g2, h⟩ := h
    obtain ⟨g3, h⟩ := h
    exact aw_ireturn (ty := .boolean) dL_refuses_1047 rfl rfl g2 g3 ⟨_, rfl, h⟩
  · replace h := h.2 c1
    refine aw_iload_n 965 dL_refuses_964 rfl 2 rfl rfl ?_
    refine aw_bipush 967 (v := 24) dL_refuses_965 kB_24 rfl ?_
    refine aw_icmp_lt 983 970 dL_refuses_967 rfl rfl (fun c4 => ?_) (fun c4 => ?_)
    · replace h := h.1 c4
      exact aw_pick [0, 1] rfl (aw_L_refuses_983 hG  h)
    · replace h := h.2 c4
      refine aw_aload_n 971 dL_refuses_970 rfl 0 rfl rfl ?_
      refine aw_iconst 972 (v := 0) dL_refuses_971 kI_0 rfl ?_
      refine aw_iconst 973 (v := 0) dL_refuses_972 kI_0 rfl ?_
      refine aw_bipush 975 (v := 9) dL_refuses_973 kB_9 rfl ?_
      obtain ⟨g5, h⟩ := h
      obtain ⟨g6, h⟩ := h
      refine aw_callSX (M' := M_L_addClause) 978 194 [.ref _, .int _, .int _, .int _] [] dL_refuses_975 lk_RL_194 ms_L_addClause mp_L_addClause (0, 7, 8, 15) [(0, 7, 13, 17), (0, 7, 18, 19)] rfl ⟨leb rfl, leb rfl⟩ rfl (leb rfl) g5 g6 rfl (am_L_addClause hG h) (kkI fun v8 X7 h => ?_) (kxN KrI.no)
      refine aw_widen (cc' := cc + 4) (ss' := ss + 24) (Nat.le_refl _) (Nat.le_refl _) ?_
      refine aw_bipush 980 (v := -4) dL_refuses_978 kB_m4 rfl ?_
      refine aw_icmp_ne 1046 983 dL_refuses_980 rfl rfl (fun c9 => ?_) (fun c9 => ?_)
      · replace h := h.1 c9
        refine aw_iconst 1047 (v := 0) dL_refuses_1046 kI_0 rfl ?_
        obtain ⟨g10, h⟩ := h
        obtain ⟨g11, h⟩ := h
        exact aw_ireturn (ty := .boolean) dL_refuses_1047 rfl rfl g10 g11 ⟨_, rfl, h⟩
      · replace h := h.2 c9
        exact aw_pick [0, 1] rfl (aw_L_refuses_983 hG  h)
set_option maxRecDepth 20000 in
theorem aw_L_refuses_648 {G : GG} (hG : G.1.stackTraces = false)  {l0 : Nat} {l1 : Int32} {l2 : Int32} {l4 : Int32} {l6 : Int32} {l7 : Int32} {l8 : Int32} {cc : Nat} {ss : Nat} {X : XH} {K : Int32 → XH → Prop}  (h : w_L_refuses_648  l0 l1 l2 l4 l6 l7 l8 cc ss X K) : AW G M_L_refuses 648 [(0, .ref l0), (1, .int l1), (2, .int l2), (4, .int l4), (6, .int l6), (7, .int l7), (8, .int l8)] [] X cc ss (KrI K) :=
  h (fun l0 l1 l2 l4 l6 l7 l8 cc ss X => AW G M_L_refuses 648 [(0, .ref l0), (1, .int l1), (2, .int l2), (4, .int l4), (6, .int l6), (7, .int l7), (8, .int l8)] [] X cc ss (KrI K)) (fun l0 l1 l2 l4 l6 l7 l8 cc ss X h => by
    refine aw_iload 650 dL_refuses_648 6 rfl rfl ?_
    refine aw_iload_n 651 dL_refuses_650 rfl 2 rfl rfl ?_
    refine aw_icmp_ge 959 654 dL_refuses_651 rfl rfl (fun c1 => ?_) (fun c1 => ?_)
    · replace h := h.1 c1
      exact aw_pick [0, 1, 2, 5] rfl (aw_L_refuses_959 hG  h)
    · replace h := h.2 c1
      refine aw_iload 656 dL_refuses_654 6 rfl rfl ?_
      refine aw_bipush 658 (v := 24) dL_refuses_656 kB_24 rfl ?_
      refine aw_icmp_ge 959 661 dL_refuses_658 rfl rfl (fun c2 => ?_) (fun c2 => ?_)
      · replace h := h.1 c2
        exact aw_pick [0, 1, 2, 5] rfl (aw_L_refuses_959 hG  h)
      · replace h := h.2 c2
        refine aw_iload 663 dL_refuses_661 5 rfl rfl ?_
        refine aw_if_eq 959 666 dL_refuses_663 rfl rfl (fun c3 => ?_) (fun c3 => ?_)
        · replace h := h.1 c3
          exact aw_pick [0, 1, 2, 5] rfl (aw_L_refuses_959 hG  h)
        · replace h := h.2 c3
          refine aw_iload_n 667 dL_refuses_666 rfl 1 rfl rfl ?_
          refine aw_iload 669 dL_refuses_667 6 rfl rfl ?_
          refine aw_iadd 670 dL_refuses_669 rfl ?_
          refine aw_iconst 671 (v := 3) dL_refuses_670 kI_3 rfl ?_
          refine aw_irem 672 dL_refuses_671 (by decide) rfl ?_
          refine aw_istore 674 (lv' := [(9, _), (0, _), (1, _), (2, _), (4, _), (6, _), (7, _), (8, _)]) dL_refuses_672 (ltb rfl) rfl rfl ?_
          refine aw_aload_n 675 dL_refuses_674 rfl 1 rfl rfl ?_
          refine aw_iload 677 dL_refuses_675 7 rfl rfl ?_
          refine aw_iconst 678 (v := 0) dL_refuses_677 kI_0 rfl ?_
          obtain ⟨g4, h⟩ := h
          obtain ⟨g5, h⟩ := h
          refine aw_callSX (M' := M_L_sessionOf) 681 264 [.ref _, .int _, .int _] [] dL_refuses_678 lk_RL_264 ms_L_sessionOf mp_L_sessionOf (0, 6, 7, 15) [(0, 6, 11, 19)] rfl ⟨leb rfl, leb rfl⟩ rfl (leb rfl) g4 g5 rfl (am_L_sessionOf hG h) (kkI fun v7 X6 h => ?_) (kxN KrI.no)
          refine aw_widen (cc' := cc + 3) (ss' := ss + 18) (Nat.le_refl _) (Nat.le_refl _) ?_
          refine aw_if_ge 704 684 dL_refuses_681 rfl rfl (fun c8 => ?_) (fun c8 => ?_)
          · replace h := h.1 c8
            refine aw_iconst 705 (v := 1) dL_refuses_704 kI_1 rfl ?_
            refine aw_goto 709 dL_refuses_705 rfl ?_
            exact aw_pick [1, 2, 3, 4, 5, 7, 0] rfl (aw_L_refuses_709 hG (fun _ _ _ _ _ _ _ _ _ _ h => h) h)
          · replace h := h.2 c8
            refine aw_aload_n 685 dL_refuses_684 rfl 1 rfl rfl ?_
            refine aw_iload 687 dL_refuses_685 7 rfl rfl ?_
            refine aw_iconst 688 (v := 1) dL_refuses_687 kI_1 rfl ?_
            obtain ⟨g9, h⟩ := h
            obtain ⟨g10, h⟩ := h
            refine aw_callSX (M' := M_L_sessionOf) 691 264 [.ref _, .int _, .int _] [] dL_refuses_688 lk_RL_264 ms_L_sessionOf mp_L_sessionOf (0, 6, 7, 15) [(0, 6, 11, 19)] rfl ⟨leb rfl, leb rfl⟩ rfl (leb rfl) g9 g10 rfl (am_L_sessionOf hG h) (kkI fun v12 X11 h => ?_) (kxN KrI.no)
            refine aw_widen (cc' := cc + 6) (ss' := ss + 36) (Nat.le_refl _) (Nat.le_refl _) ?_
            refine aw_if_ge 704 694 dL_refuses_691 rfl rfl (fun c13 => ?_) (fun c13 => ?_)
            · replace h := h.1 c13
              refine aw_iconst 705 (v := 1) dL_refuses_704 kI_1 rfl ?_
              refine aw_goto 709 dL_refuses_705 rfl ?_
              exact aw_pick [1, 2, 3, 4, 5, 7, 0] rfl (aw_L_refuses_709 hG (fun _ _ _ _ _ _ _ _ _ _ h => h) h)
            · replace h := h.2 c13
              refine aw_aload_n 695 dL_refuses_694 rfl 1 rfl rfl ?_
              refine aw_iload 697 dL_refuses_695 7 rfl rfl ?_
              refine aw_iconst 698 (v := 2) dL_refuses_697 kI_2 rfl ?_
              obtain ⟨g14, h⟩ := h
              obtain ⟨g15, h⟩ := h
              refine aw_callSX (M' := M_L_sessionOf) 701 264 [.ref _, .int _, .int _] [] dL_refuses_698 lk_RL_264 ms_L_sessionOf mp_L_sessionOf (0, 6, 7, 15) [(0, 6, 11, 19)] rfl ⟨leb rfl, leb rfl⟩ rfl (leb rfl) g14 g15 rfl (am_L_sessionOf hG h) (kkI fun v17 X16 h => ?_) (kxN KrI.no)
              refine aw_widen (cc' := cc + 9) (ss' := ss + 54) (Nat.le_refl _) (Nat.le_refl _) ?_
              refine aw_if_lt 708 704 dL_refuses_701 rfl rfl (fun c18 => ?_) (fun c18 => ?_)
              · replace h := h.1 c18
                refine aw_iconst 709 (v := 0) dL_refuses_708 kI_0 rfl ?_
                exact aw_pick [1, 2, 3, 4, 5, 7, 0] rfl (aw_L_refuses_709 hG (fun _ _ _ _ _ _ _ _ _ _ h => h) h)
              · replace h := h.2 c18
                refine aw_iconst 705 (v := 1) dL_refuses_704 kI_1 rfl ?_
                refine aw_goto 709 dL_refuses_705 rfl ?_
                exact aw_pick [1, 2, 3, 4, 5, 7, 0] rfl (aw_L_refuses_709 hG (fun _ _ _ _ _ _ _ _ _ _ h => h) h))
set_option maxRecDepth 20000 in
theorem aw_L_refuses_70 {G : GG} (hG : G.1.stackTraces = false)  {l0 : Nat} {l1 : Int32} {l2 : Int32} {l3 : Int32} {l4 : Int32} {l5 : Int32} {s0 : Int32} {cc : Nat} {ss : Nat} {X : XH} {K : Int32 → XH → Prop}  (h : w_L_refuses_70  l0 l1 l2 l3 l4 l5 s0 cc ss X K) : AW G M_L_refuses 70 [(0, .ref l0), (1, .int l1), (2, .int l2), (3, .int l3), (4, .int l4), (5, .int l5)] [.int s0] X cc ss (KrI K) := by
  unfold w_L_refuses_70 at h
  refine aw_istore 72 (lv' := [(6, _), (0, _), (1, _), (2, _), (3, _), (4, _), (5, _)]) dL_refuses_70 (ltb rfl) rfl rfl ?_
  refine aw_aload_n 73 dL_refuses_72 rfl 1 rfl rfl ?_
  refine aw_iload 75 dL_refuses_73 5 rfl rfl ?_
  refine aw_iconst 76 (v := 0) dL_refuses_75 kI_0 rfl ?_
  refine aw_iconst 77 (v := 0) dL_refuses_76 kI_0 rfl ?_
  obtain ⟨g1, h⟩ := h
  obtain ⟨g2, h⟩ := h
  refine aw_callSX (M' := M_L_addClause) 80 194 [.ref _, .int _, .int _, .int _] [] dL_refuses_77 lk_RL_194 ms_L_addClause mp_L_addClause (0, 7, 8, 15) [(0, 7, 13, 17), (0, 7, 18, 19)] rfl ⟨leb rfl, leb rfl⟩ rfl (leb rfl) g1 g2 rfl (am_L_addClause hG h) (kkI fun v4 X3 h => ?_) (kxN KrI.no)
  refine aw_widen (cc' := cc + 4) (ss' := ss + 24) (Nat.le_refl _) (Nat.le_refl _) ?_
  refine aw_bipush 82 (v := -2) dL_refuses_80 kB_m2 rfl ?_
  refine aw_icmp_ne 642 85 dL_refuses_82 rfl rfl (fun c5 => ?_) (fun c5 => ?_)
  · replace h := h.1 c5
    refine aw_iconst 643 (v := 0) dL_refuses_642 kI_0 rfl ?_
    refine aw_istore 645 (lv' := [(7, _), (6, _), (0, _), (1, _), (2, _), (3, _), (4, _), (5, _)]) dL_refuses_643 (ltb rfl) rfl rfl ?_
    refine aw_iconst 646 (v := 0) dL_refuses_645 kI_0 rfl ?_
    refine aw_istore 648 (lv' := [(8, _), (7, _), (6, _), (0, _), (1, _), (2, _), (3, _), (4, _), (5, _)]) dL_refuses_646 (ltb rfl) rfl rfl ?_
    exact aw_pick [3, 4, 5, 7, 2, 1, 0] rfl (aw_L_refuses_648 hG  h)
  · replace h := h.2 c5
    refine aw_aload_n 86 dL_refuses_85 rfl 1 rfl rfl ?_
    refine aw_iconst 87 (v := 0) dL_refuses_86 kI_0 rfl ?_
    refine aw_iload 89 dL_refuses_87 6 rfl rfl ?_
    refine aw_bipush 91 (v := 9) dL_refuses_89 kB_9 rfl ?_
    obtain ⟨g6, h⟩ := h
    obtain ⟨g7, h⟩ := h
    refine aw_callSX (M' := M_L_addClause) 94 194 [.ref _, .int _, .int _, .int _] [] dL_refuses_91 lk_RL_194 ms_L_addClause mp_L_addClause (0, 7, 8, 15) [(0, 7, 13, 17), (0, 7, 18, 19)] rfl ⟨leb rfl, leb rfl⟩ rfl (leb rfl) g6 g7 rfl (am_L_addClause hG h) (kkI fun v9 X8 h => ?_) (kxN KrI.no)
    refine aw_widen (cc' := cc + 8) (ss' := ss + 48) (Nat.le_refl _) (Nat.le_refl _) ?_
    refine aw_bipush 96 (v := -2) dL_refuses_94 kB_m2 rfl ?_
    refine aw_icmp_ne 642 99 dL_refuses_96 rfl rfl (fun c10 => ?_) (fun c10 => ?_)
    · replace h := h.1 c10
      refine aw_iconst 643 (v := 0) dL_refuses_642 kI_0 rfl ?_
      refine aw_istore 645 (lv' := [(7, _), (6, _), (0, _), (1, _), (2, _), (3, _), (4, _), (5, _)]) dL_refuses_643 (ltb rfl) rfl rfl ?_
      refine aw_iconst 646 (v := 0) dL_refuses_645 kI_0 rfl ?_
      refine aw_istore 648 (lv' := [(8, _), (7, _), (6, _), (0, _), (1, _), (2, _), (3, _), (4, _), (5, _)]) dL_refuses_646 (ltb rfl) rfl rfl ?_
      exact aw_pick [3, 4, 5, 7, 2, 1, 0] rfl (aw_L_refuses_648 hG  h)
    · replace h := h.2 c10
      refine aw_aload_n 100 dL_refuses_99 rfl 1 rfl rfl ?_
      refine aw_iconst 101 (v := 0) dL_refuses_100 kI_0 rfl ?_
      refine aw_iconst 102 (v := 0) dL_refuses_101 kI_0 rfl ?_
      refine aw_bipush 104 (v := 61) dL_refuses_102 kB_61 rfl ?_
      refine aw_iload_n 105 dL_refuses_104 rfl 2 rfl rfl ?_
      refine aw_iadd 106 dL_refuses_105 rfl ?_
      obtain ⟨g11, h⟩ := h
      obtain ⟨g12, h⟩ := h
      refine aw_callSX (M' := M_L_addClause) 109 194 [.ref _, .int _, .int _, .int _] [] dL_refuses_106 lk_RL_194 ms_L_addClause mp_L_addClause (0, 7, 8, 15) [(0, 7, 13, 17), (0, 7, 18, 19)] rfl ⟨leb rfl, leb rfl⟩ rfl (leb rfl) g11 g12 rfl (am_L_addClause hG h) (kkI fun v14 X13 h => ?_) (kxN KrI.no)
      refine aw_widen (cc' := cc + 12) (ss' := ss + 72) (Nat.le_refl _) (Nat.le_refl _) ?_
      refine aw_bipush 111 (v := -3) dL_refuses_109 kB_m3 rfl ?_
      refine aw_icmp_ne 642 114 dL_refuses_111 rfl rfl (fun c15 => ?_) (fun c15 => ?_)
      · replace h := h.1 c15
        refine aw_iconst 643 (v := 0) dL_refuses_642 kI_0 rfl ?_
        refine aw_istore 645 (lv' := [(7, _), (6, _), (0, _), (1, _), (2, _), (3, _), (4, _), (5, _)]) dL_refuses_643 (ltb rfl) rfl rfl ?_
        refine aw_iconst 646 (v := 0) dL_refuses_645 kI_0 rfl ?_
        refine aw_istore 648 (lv' := [(8, _), (7, _), (6, _), (0, _), (1, _), (2, _), (3, _), (4, _), (5, _)]) dL_refuses_646 (ltb rfl) rfl rfl ?_
        exact aw_pick [3, 4, 5, 7, 2, 1, 0] rfl (aw_L_refuses_648 hG  h)
      · replace h := h.2 c15
        refine aw_aload_n 115 dL_refuses_114 rfl 1 rfl rfl ?_
        refine aw_iload_n 116 dL_refuses_115 rfl 4 rfl rfl ?_
        refine aw_iconst 117 (v := 0) dL_refuses_116 kI_0 rfl ?_
        obtain ⟨g16, h⟩ := h
        obtain ⟨g17, h⟩ := h
        refine aw_callSX (M' := M_L_changeLips) 120 199 [.ref _, .int _, .int _] [] dL_refuses_117 lk_RL_199 ms_L_changeLips mp_L_changeLips (0, 6, 7, 15) [(0, 6, 11, 17), (0, 6, 15, 19)] rfl ⟨leb rfl, leb rfl⟩ rfl (leb rfl) g16 g17 rfl (am_L_changeLips hG h) (kkI fun v19 X18 h => ?_) (kxN KrI.no)
        refine aw_widen (cc' := cc + 15) (ss' := ss + 90) (Nat.le_refl _) (Nat.le_refl _) ?_
        refine aw_bipush 122 (v := -2) dL_refuses_120 kB_m2 rfl ?_
        refine aw_icmp_ne 642 125 dL_refuses_122 rfl rfl (fun c20 => ?_) (fun c20 => ?_)
        · replace h := h.1 c20
          refine aw_iconst 643 (v := 0) dL_refuses_642 kI_0 rfl ?_
          refine aw_istore 645 (lv' := [(7, _), (6, _), (0, _), (1, _), (2, _), (3, _), (4, _), (5, _)]) dL_refuses_643 (ltb rfl) rfl rfl ?_
          refine aw_iconst 646 (v := 0) dL_refuses_645 kI_0 rfl ?_
          refine aw_istore 648 (lv' := [(8, _), (7, _), (6, _), (0, _), (1, _), (2, _), (3, _), (4, _), (5, _)]) dL_refuses_646 (ltb rfl) rfl rfl ?_
          exact aw_pick [3, 4, 5, 7, 2, 1, 0] rfl (aw_L_refuses_648 hG  h)
        · replace h := h.2 c20
          refine aw_aload_n 126 dL_refuses_125 rfl 1 rfl rfl ?_
          refine aw_iload_n 127 dL_refuses_126 rfl 4 rfl rfl ?_
          refine aw_iconst 128 (v := 0) dL_refuses_127 kI_0 rfl ?_
          obtain ⟨g21, h⟩ := h
          obtain ⟨g22, h⟩ := h
          refine aw_callSX (M' := M_L_changeSigh) 131 202 [.ref _, .int _, .int _] [] dL_refuses_128 lk_RL_202 ms_L_changeSigh mp_L_changeSigh (0, 6, 7, 15) [(0, 6, 11, 17), (0, 6, 15, 19)] rfl ⟨leb rfl, leb rfl⟩ rfl (leb rfl) g21 g22 rfl (am_L_changeSigh hG h) (kkI fun v24 X23 h => ?_) (kxN KrI.no)
          refine aw_widen (cc' := cc + 18) (ss' := ss + 108) (Nat.le_refl _) (Nat.le_refl _) ?_
          refine aw_bipush 133 (v := -2) dL_refuses_131 kB_m2 rfl ?_
          refine aw_icmp_ne 642 136 dL_refuses_133 rfl rfl (fun c25 => ?_) (fun c25 => ?_)
          · replace h := h.1 c25
            refine aw_iconst 643 (v := 0) dL_refuses_642 kI_0 rfl ?_
            refine aw_istore 645 (lv' := [(7, _), (6, _), (0, _), (1, _), (2, _), (3, _), (4, _), (5, _)]) dL_refuses_643 (ltb rfl) rfl rfl ?_
            refine aw_iconst 646 (v := 0) dL_refuses_645 kI_0 rfl ?_
            refine aw_istore 648 (lv' := [(8, _), (7, _), (6, _), (0, _), (1, _), (2, _), (3, _), (4, _), (5, _)]) dL_refuses_646 (ltb rfl) rfl rfl ?_
            exact aw_pick [3, 4, 5, 7, 2, 1, 0] rfl (aw_L_refuses_648 hG  h)
          · replace h := h.2 c25
            refine aw_aload_n 137 dL_refuses_136 rfl 1 rfl rfl ?_
            refine aw_iload_n 138 dL_refuses_137 rfl 4 rfl rfl ?_
            refine aw_iconst 139 (v := 0) dL_refuses_138 kI_0 rfl ?_
            obtain ⟨g26, h⟩ := h
            obtain ⟨g27, h⟩ := h
            refine aw_callSX (M' := M_L_moveClause) 142 204 [.ref _, .int _, .int _] [] dL_refuses_139 lk_RL_204 ms_L_moveClause mp_L_moveClause (0, 6, 7, 15) [(0, 6, 11, 19)] rfl ⟨leb rfl, leb rfl⟩ rfl (leb rfl) g26 g27 rfl (am_L_moveClause hG h) (kkI fun v29 X28 h => ?_) (kxN KrI.no)
            refine aw_widen (cc' := cc + 21) (ss' := ss + 126) (Nat.le_refl _) (Nat.le_refl _) ?_
            refine aw_bipush 144 (v := -2) dL_refuses_142 kB_m2 rfl ?_
            refine aw_icmp_ne 642 147 dL_refuses_144 rfl rfl (fun c30 => ?_) (fun c30 => ?_)
            · replace h := h.1 c30
              refine aw_iconst 643 (v := 0) dL_refuses_642 kI_0 rfl ?_
              refine aw_istore 645 (lv' := [(7, _), (6, _), (0, _), (1, _), (2, _), (3, _), (4, _), (5, _)]) dL_refuses_643 (ltb rfl) rfl rfl ?_
              refine aw_iconst 646 (v := 0) dL_refuses_645 kI_0 rfl ?_
              refine aw_istore 648 (lv' := [(8, _), (7, _), (6, _), (0, _), (1, _), (2, _), (3, _), (4, _), (5, _)]) dL_refuses_646 (ltb rfl) rfl rfl ?_
              exact aw_pick [3, 4, 5, 7, 2, 1, 0] rfl (aw_L_refuses_648 hG  h)
            · replace h := h.2 c30
              refine aw_aload_n 148 dL_refuses_147 rfl 1 rfl rfl ?_
              refine aw_iload_n 149 dL_refuses_148 rfl 4 rfl rfl ?_
              refine aw_iconst 150 (v := 0) dL_refuses_149 kI_0 rfl ?_
              refine aw_iconst 151 (v := 0) dL_refuses_150 kI_0 rfl ?_
              obtain ⟨g31, h⟩ := h
              obtain ⟨g32, h⟩ := h
              refine aw_callSX (M' := M_L_translate) 154 206 [.ref _, .int _, .int _, .int _] [] dL_refuses_151 lk_RL_206 ms_L_translate mp_L_translate (0, 7, 8, 15) [(0, 7, 14, 17), (0, 7, 20, 19)] rfl ⟨leb rfl, leb rfl⟩ rfl (leb rfl) g31 g32 rfl (am_L_translate hG h) (kkI fun v34 X33 h => ?_) (kxN KrI.no)
              refine aw_widen (cc' := cc + 25) (ss' := ss + 150) (Nat.le_refl _) (Nat.le_refl _) ?_
              refine aw_sipush 157 (v := -902) dL_refuses_154 kS_m902 rfl ?_
              refine aw_icmp_ne 642 160 dL_refuses_157 rfl rfl (fun c35 => ?_) (fun c35 => ?_)
              · replace h := h.1 c35
                refine aw_iconst 643 (v := 0) dL_refuses_642 kI_0 rfl ?_
                refine aw_istore 645 (lv' := [(7, _), (6, _), (0, _), (1, _), (2, _), (3, _), (4, _), (5, _)]) dL_refuses_643 (ltb rfl) rfl rfl ?_
                refine aw_iconst 646 (v := 0) dL_refuses_645 kI_0 rfl ?_
                refine aw_istore 648 (lv' := [(8, _), (7, _), (6, _), (0, _), (1, _), (2, _), (3, _), (4, _), (5, _)]) dL_refuses_646 (ltb rfl) rfl rfl ?_
                exact aw_pick [3, 4, 5, 7, 2, 1, 0] rfl (aw_L_refuses_648 hG  h)
              · replace h := h.2 c35
                refine aw_aload_n 161 dL_refuses_160 rfl 1 rfl rfl ?_
                refine aw_iload_n 162 dL_refuses_161 rfl 4 rfl rfl ?_
                refine aw_iconst 163 (v := 0) dL_refuses_162 kI_0 rfl ?_
                refine aw_iconst 164 (v := 0) dL_refuses_163 kI_0 rfl ?_
                obtain ⟨g36, h⟩ := h
                obtain ⟨g37, h⟩ := h
                refine aw_callSX (M' := M_L_annex) 167 208 [.ref _, .int _, .int _, .int _] [] dL_refuses_164 lk_RL_208 ms_L_annex mp_L_annex (0, 7, 8, 15) [(0, 7, 13, 17), (0, 7, 18, 19)] rfl ⟨leb rfl, leb rfl⟩ rfl (leb rfl) g36 g37 rfl (am_L_annex hG h) (kkI fun v39 X38 h => ?_) (kxN KrI.no)
                refine aw_widen (cc' := cc + 29) (ss' := ss + 174) (Nat.le_refl _) (Nat.le_refl _) ?_
                refine aw_bipush 169 (v := -2) dL_refuses_167 kB_m2 rfl ?_
                refine aw_icmp_ne 642 172 dL_refuses_169 rfl rfl (fun c40 => ?_) (fun c40 => ?_)
                · replace h := h.1 c40
                  refine aw_iconst 643 (v := 0) dL_refuses_642 kI_0 rfl ?_
                  refine aw_istore 645 (lv' := [(7, _), (6, _), (0, _), (1, _), (2, _), (3, _), (4, _), (5, _)]) dL_refuses_643 (ltb rfl) rfl rfl ?_
                  refine aw_iconst 646 (v := 0) dL_refuses_645 kI_0 rfl ?_
                  refine aw_istore 648 (lv' := [(8, _), (7, _), (6, _), (0, _), (1, _), (2, _), (3, _), (4, _), (5, _)]) dL_refuses_646 (ltb rfl) rfl rfl ?_
                  exact aw_pick [3, 4, 5, 7, 2, 1, 0] rfl (aw_L_refuses_648 hG  h)
                · replace h := h.2 c40
                  refine aw_aload_n 173 dL_refuses_172 rfl 1 rfl rfl ?_
                  refine aw_iload_n 174 dL_refuses_173 rfl 4 rfl rfl ?_
                  refine aw_iconst 175 (v := 0) dL_refuses_174 kI_0 rfl ?_
                  obtain ⟨g41, h⟩ := h
                  obtain ⟨g42, h⟩ := h
                  refine aw_callSX (M' := M_L_bringBack) 178 210 [.ref _, .int _, .int _] [] dL_refuses_175 lk_RL_210 ms_L_bringBack mp_L_bringBack (0, 6, 7, 15) [(0, 6, 11, 19)] rfl ⟨leb rfl, leb rfl⟩ rfl (leb rfl) g41 g42 rfl (am_L_bringBack hG h) (kkI fun v44 X43 h => ?_) (kxN KrI.no)
                  refine aw_widen (cc' := cc + 32) (ss' := ss + 192) (Nat.le_refl _) (Nat.le_refl _) ?_
                  refine aw_bipush 180 (v := -2) dL_refuses_178 kB_m2 rfl ?_
                  refine aw_icmp_ne 642 183 dL_refuses_180 rfl rfl (fun c45 => ?_) (fun c45 => ?_)
                  · replace h := h.1 c45
                    refine aw_iconst 643 (v := 0) dL_refuses_642 kI_0 rfl ?_
                    refine aw_istore 645 (lv' := [(7, _), (6, _), (0, _), (1, _), (2, _), (3, _), (4, _), (5, _)]) dL_refuses_643 (ltb rfl) rfl rfl ?_
                    refine aw_iconst 646 (v := 0) dL_refuses_645 kI_0 rfl ?_
                    refine aw_istore 648 (lv' := [(8, _), (7, _), (6, _), (0, _), (1, _), (2, _), (3, _), (4, _), (5, _)]) dL_refuses_646 (ltb rfl) rfl rfl ?_
                    exact aw_pick [3, 4, 5, 7, 2, 1, 0] rfl (aw_L_refuses_648 hG  h)
                  · replace h := h.2 c45
                    refine aw_aload_n 184 dL_refuses_183 rfl 1 rfl rfl ?_
                    refine aw_iload 186 dL_refuses_184 6 rfl rfl ?_
                    refine aw_iconst 187 (v := 0) dL_refuses_186 kI_0 rfl ?_
                    refine aw_iconst 188 (v := 0) dL_refuses_187 kI_0 rfl ?_
                    obtain ⟨g46, h⟩ := h
                    obtain ⟨g47, h⟩ := h
                    refine aw_callSX (M' := M_L_cast) 191 212 [.ref _, .int _, .int _, .int _] [] dL_refuses_188 lk_RL_212 ms_L_cast mp_L_cast (0, 7, 8, 15) [(0, 7, 13, 17), (0, 7, 18, 19)] rfl ⟨leb rfl, leb rfl⟩ rfl (leb rfl) g46 g47 rfl (am_L_cast hG h) (kkI fun v49 X48 h => ?_) (kxN KrI.no)
                    refine aw_widen (cc' := cc + 36) (ss' := ss + 216) (Nat.le_refl _) (Nat.le_refl _) ?_
                    refine aw_bipush 193 (v := -2) dL_refuses_191 kB_m2 rfl ?_
                    refine aw_icmp_ne 642 196 dL_refuses_193 rfl rfl (fun c50 => ?_) (fun c50 => ?_)
                    · replace h := h.1 c50
                      refine aw_iconst 643 (v := 0) dL_refuses_642 kI_0 rfl ?_
                      refine aw_istore 645 (lv' := [(7, _), (6, _), (0, _), (1, _), (2, _), (3, _), (4, _), (5, _)]) dL_refuses_643 (ltb rfl) rfl rfl ?_
                      refine aw_iconst 646 (v := 0) dL_refuses_645 kI_0 rfl ?_
                      refine aw_istore 648 (lv' := [(8, _), (7, _), (6, _), (0, _), (1, _), (2, _), (3, _), (4, _), (5, _)]) dL_refuses_646 (ltb rfl) rfl rfl ?_
                      exact aw_pick [3, 4, 5, 7, 2, 1, 0] rfl (aw_L_refuses_648 hG  h)
                    · replace h := h.2 c50
                      refine aw_aload_n 197 dL_refuses_196 rfl 1 rfl rfl ?_
                      refine aw_iconst 198 (v := 0) dL_refuses_197 kI_0 rfl ?_
                      refine aw_iload 200 dL_refuses_198 0 rfl rfl ?_
                      refine aw_bipush 202 (v := 50) dL_refuses_200 kB_50 rfl ?_
                      obtain ⟨g51, h⟩ := h
                      obtain ⟨g52, h⟩ := h
                      refine aw_callSX (M' := M_L_cast) 205 212 [.ref _, .int _, .int _, .int _] [] dL_refuses_202 lk_RL_212 ms_L_cast mp_L_cast (0, 7, 8, 15) [(0, 7, 13, 17), (0, 7, 18, 19)] rfl ⟨leb rfl, leb rfl⟩ rfl (leb rfl) g51 g52 rfl (am_L_cast hG h) (kkI fun v54 X53 h => ?_) (kxN KrI.no)
                      refine aw_widen (cc' := cc + 40) (ss' := ss + 240) (Nat.le_refl _) (Nat.le_refl _) ?_
                      refine aw_bipush 207 (v := -2) dL_refuses_205 kB_m2 rfl ?_
                      refine aw_icmp_ne 642 210 dL_refuses_207 rfl rfl (fun c55 => ?_) (fun c55 => ?_)
                      · replace h := h.1 c55
                        refine aw_iconst 643 (v := 0) dL_refuses_642 kI_0 rfl ?_
                        refine aw_istore 645 (lv' := [(7, _), (6, _), (0, _), (1, _), (2, _), (3, _), (4, _), (5, _)]) dL_refuses_643 (ltb rfl) rfl rfl ?_
                        refine aw_iconst 646 (v := 0) dL_refuses_645 kI_0 rfl ?_
                        refine aw_istore 648 (lv' := [(8, _), (7, _), (6, _), (0, _), (1, _), (2, _), (3, _), (4, _), (5, _)]) dL_refuses_646 (ltb rfl) rfl rfl ?_
                        exact aw_pick [3, 4, 5, 7, 2, 1, 0] rfl (aw_L_refuses_648 hG  h)
                      · replace h := h.2 c55
                        refine aw_aload_n 211 dL_refuses_210 rfl 1 rfl rfl ?_
                        refine aw_iconst 212 (v := 0) dL_refuses_211 kI_0 rfl ?_
                        refine aw_iconst 213 (v := 0) dL_refuses_212 kI_0 rfl ?_
                        refine aw_bipush 215 (v := 121) dL_refuses_213 kB_121 rfl ?_
                        refine aw_iload_n 216 dL_refuses_215 rfl 2 rfl rfl ?_
                        refine aw_iadd 217 dL_refuses_216 rfl ?_
                        obtain ⟨g56, h⟩ := h
                        obtain ⟨g57, h⟩ := h
                        refine aw_callSX (M' := M_L_cast) 220 212 [.ref _, .int _, .int _, .int _] [] dL_refuses_217 lk_RL_212 ms_L_cast mp_L_cast (0, 7, 8, 15) [(0, 7, 13, 17), (0, 7, 18, 19)] rfl ⟨leb rfl, leb rfl⟩ rfl (leb rfl) g56 g57 rfl (am_L_cast hG h) (kkI fun v59 X58 h => ?_) (kxN KrI.no)
                        refine aw_widen (cc' := cc + 44) (ss' := ss + 264) (Nat.le_refl _) (Nat.le_refl _) ?_
                        refine aw_bipush 222 (v := -3) dL_refuses_220 kB_m3 rfl ?_
                        refine aw_icmp_ne 642 225 dL_refuses_222 rfl rfl (fun c60 => ?_) (fun c60 => ?_)
                        · replace h := h.1 c60
                          refine aw_iconst 643 (v := 0) dL_refuses_642 kI_0 rfl ?_
                          refine aw_istore 645 (lv' := [(7, _), (6, _), (0, _), (1, _), (2, _), (3, _), (4, _), (5, _)]) dL_refuses_643 (ltb rfl) rfl rfl ?_
                          refine aw_iconst 646 (v := 0) dL_refuses_645 kI_0 rfl ?_
                          refine aw_istore 648 (lv' := [(8, _), (7, _), (6, _), (0, _), (1, _), (2, _), (3, _), (4, _), (5, _)]) dL_refuses_646 (ltb rfl) rfl rfl ?_
                          exact aw_pick [3, 4, 5, 7, 2, 1, 0] rfl (aw_L_refuses_648 hG  h)
                        · replace h := h.2 c60
                          refine aw_aload_n 226 dL_refuses_225 rfl 1 rfl rfl ?_
                          refine aw_iconst 227 (v := 4) dL_refuses_226 kI_4 rfl ?_
                          refine aw_iconst 228 (v := 2) dL_refuses_227 kI_2 rfl ?_
                          refine aw_bipush 230 (v := 19) dL_refuses_228 kB_19 rfl ?_
                          refine aw_iload_n 231 dL_refuses_230 rfl 2 rfl rfl ?_
                          refine aw_isub 232 dL_refuses_231 rfl ?_
                          obtain ⟨g61, h⟩ := h
                          obtain ⟨g62, h⟩ := h
                          refine aw_callSX (M' := M_L_cast) 235 212 [.ref _, .int _, .int _, .int _] [] dL_refuses_232 lk_RL_212 ms_L_cast mp_L_cast (0, 7, 8, 15) [(0, 7, 13, 17), (0, 7, 18, 19)] rfl ⟨leb rfl, leb rfl⟩ rfl (leb rfl) g61 g62 rfl (am_L_cast hG h) (kkI fun v64 X63 h => ?_) (kxN KrI.no)
                          refine aw_widen (cc' := cc + 48) (ss' := ss + 288) (Nat.le_refl _) (Nat.le_refl _) ?_
                          refine aw_bipush 237 (v := -3) dL_refuses_235 kB_m3 rfl ?_
                          refine aw_icmp_ne 642 240 dL_refuses_237 rfl rfl (fun c65 => ?_) (fun c65 => ?_)
                          · replace h := h.1 c65
                            refine aw_iconst 643 (v := 0) dL_refuses_642 kI_0 rfl ?_
                            refine aw_istore 645 (lv' := [(7, _), (6, _), (0, _), (1, _), (2, _), (3, _), (4, _), (5, _)]) dL_refuses_643 (ltb rfl) rfl rfl ?_
                            refine aw_iconst 646 (v := 0) dL_refuses_645 kI_0 rfl ?_
                            refine aw_istore 648 (lv' := [(8, _), (7, _), (6, _), (0, _), (1, _), (2, _), (3, _), (4, _), (5, _)]) dL_refuses_646 (ltb rfl) rfl rfl ?_
                            exact aw_pick [3, 4, 5, 7, 2, 1, 0] rfl (aw_L_refuses_648 hG  h)
                          · replace h := h.2 c65
                            refine aw_aload_n 241 dL_refuses_240 rfl 1 rfl rfl ?_
                            refine aw_iload_n 242 dL_refuses_241 rfl 4 rfl rfl ?_
                            refine aw_iconst 243 (v := 0) dL_refuses_242 kI_0 rfl ?_
                            obtain ⟨g66, h⟩ := h
                            obtain ⟨g67, h⟩ := h
                            refine aw_callSX (M' := M_L_recordIt) 246 240 [.ref _, .int _, .int _] [] dL_refuses_243 lk_RL_240 ms_L_recordIt mp_L_recordIt (0, 6, 7, 15) [(0, 6, 11, 19)] rfl ⟨leb rfl, leb rfl⟩ rfl (leb rfl) g66 g67 rfl (am_L_recordIt hG h) (kkI fun v69 X68 h => ?_) (kxN KrI.no)
                            refine aw_widen (cc' := cc + 51) (ss' := ss + 306) (Nat.le_refl _) (Nat.le_refl _) ?_
                            refine aw_bipush 248 (v := -2) dL_refuses_246 kB_m2 rfl ?_
                            refine aw_icmp_ne 642 251 dL_refuses_248 rfl rfl (fun c70 => ?_) (fun c70 => ?_)
                            · replace h := h.1 c70
                              refine aw_iconst 643 (v := 0) dL_refuses_642 kI_0 rfl ?_
                              refine aw_istore 645 (lv' := [(7, _), (6, _), (0, _), (1, _), (2, _), (3, _), (4, _), (5, _)]) dL_refuses_643 (ltb rfl) rfl rfl ?_
                              refine aw_iconst 646 (v := 0) dL_refuses_645 kI_0 rfl ?_
                              refine aw_istore 648 (lv' := [(8, _), (7, _), (6, _), (0, _), (1, _), (2, _), (3, _), (4, _), (5, _)]) dL_refuses_646 (ltb rfl) rfl rfl ?_
                              exact aw_pick [3, 4, 5, 7, 2, 1, 0] rfl (aw_L_refuses_648 hG  h)
                            · replace h := h.2 c70
                              refine aw_aload_n 252 dL_refuses_251 rfl 1 rfl rfl ?_
                              refine aw_iload_n 253 dL_refuses_252 rfl 4 rfl rfl ?_
                              refine aw_iconst 254 (v := 0) dL_refuses_253 kI_0 rfl ?_
                              obtain ⟨g71, h⟩ := h
                              obtain ⟨g72, h⟩ := h
                              refine aw_callSX (M' := M_L_wipe) 257 217 [.ref _, .int _, .int _] [] dL_refuses_254 lk_RL_217 ms_L_wipe mp_L_wipe (0, 6, 7, 15) [(0, 6, 11, 19)] rfl ⟨leb rfl, leb rfl⟩ rfl (leb rfl) g71 g72 rfl (am_L_wipe hG h) (kkI fun v74 X73 h => ?_) (kxN KrI.no)
                              refine aw_widen (cc' := cc + 54) (ss' := ss + 324) (Nat.le_refl _) (Nat.le_refl _) ?_
                              refine aw_bipush 259 (v := -2) dL_refuses_257 kB_m2 rfl ?_
                              refine aw_icmp_ne 642 262 dL_refuses_259 rfl rfl (fun c75 => ?_) (fun c75 => ?_)
                              · replace h := h.1 c75
                                refine aw_iconst 643 (v := 0) dL_refuses_642 kI_0 rfl ?_
                                refine aw_istore 645 (lv' := [(7, _), (6, _), (0, _), (1, _), (2, _), (3, _), (4, _), (5, _)]) dL_refuses_643 (ltb rfl) rfl rfl ?_
                                refine aw_iconst 646 (v := 0) dL_refuses_645 kI_0 rfl ?_
                                refine aw_istore 648 (lv' := [(8, _), (7, _), (6, _), (0, _), (1, _), (2, _), (3, _), (4, _), (5, _)]) dL_refuses_646 (ltb rfl) rfl rfl ?_
                                exact aw_pick [3, 4, 5, 7, 2, 1, 0] rfl (aw_L_refuses_648 hG  h)
                              · replace h := h.2 c75
                                refine aw_aload_n 263 dL_refuses_262 rfl 1 rfl rfl ?_
                                refine aw_iload 265 dL_refuses_263 5 rfl rfl ?_
                                refine aw_iconst 266 (v := 0) dL_refuses_265 kI_0 rfl ?_
                                obtain ⟨g76, h⟩ := h
                                obtain ⟨g77, h⟩ := h
                                refine aw_callSX (M' := M_L_mix) 269 219 [.ref _, .int _, .int _] [] dL_refuses_266 lk_RL_219 ms_L_mix mp_L_mix (0, 6, 7, 15) [(0, 6, 11, 19)] rfl ⟨leb rfl, leb rfl⟩ rfl (leb rfl) g76 g77 rfl (am_L_mix hG h) (kkI fun v79 X78 h => ?_) (kxN KrI.no)
                                refine aw_widen (cc' := cc + 57) (ss' := ss + 342) (Nat.le_refl _) (Nat.le_refl _) ?_
                                refine aw_bipush 271 (v := -2) dL_refuses_269 kB_m2 rfl ?_
                                refine aw_icmp_ne 642 274 dL_refuses_271 rfl rfl (fun c80 => ?_) (fun c80 => ?_)
                                · replace h := h.1 c80
                                  refine aw_iconst 643 (v := 0) dL_refuses_642 kI_0 rfl ?_
                                  refine aw_istore 645 (lv' := [(7, _), (6, _), (0, _), (1, _), (2, _), (3, _), (4, _), (5, _)]) dL_refuses_643 (ltb rfl) rfl rfl ?_
                                  refine aw_iconst 646 (v := 0) dL_refuses_645 kI_0 rfl ?_
                                  refine aw_istore 648 (lv' := [(8, _), (7, _), (6, _), (0, _), (1, _), (2, _), (3, _), (4, _), (5, _)]) dL_refuses_646 (ltb rfl) rfl rfl ?_
                                  exact aw_pick [3, 4, 5, 7, 2, 1, 0] rfl (aw_L_refuses_648 hG  h)
                                · replace h := h.2 c80
                                  refine aw_aload_n 275 dL_refuses_274 rfl 1 rfl rfl ?_
                                  refine aw_iconst 276 (v := 0) dL_refuses_275 kI_0 rfl ?_
                                  refine aw_iload 278 dL_refuses_276 0 rfl rfl ?_
                                  obtain ⟨g81, h⟩ := h
                                  obtain ⟨g82, h⟩ := h
                                  refine aw_callSX (M' := M_L_mix) 281 219 [.ref _, .int _, .int _] [] dL_refuses_278 lk_RL_219 ms_L_mix mp_L_mix (0, 6, 7, 15) [(0, 6, 11, 19)] rfl ⟨leb rfl, leb rfl⟩ rfl (leb rfl) g81 g82 rfl (am_L_mix hG h) (kkI fun v84 X83 h => ?_) (kxN KrI.no)
                                  refine aw_widen (cc' := cc + 60) (ss' := ss + 360) (Nat.le_refl _) (Nat.le_refl _) ?_
                                  refine aw_bipush 283 (v := -2) dL_refuses_281 kB_m2 rfl ?_
                                  refine aw_icmp_ne 642 286 dL_refuses_283 rfl rfl (fun c85 => ?_) (fun c85 => ?_)
                                  · replace h := h.1 c85
                                    refine aw_iconst 643 (v := 0) dL_refuses_642 kI_0 rfl ?_
                                    refine aw_istore 645 (lv' := [(7, _), (6, _), (0, _), (1, _), (2, _), (3, _), (4, _), (5, _)]) dL_refuses_643 (ltb rfl) rfl rfl ?_
                                    refine aw_iconst 646 (v := 0) dL_refuses_645 kI_0 rfl ?_
                                    refine aw_istore 648 (lv' := [(8, _), (7, _), (6, _), (0, _), (1, _), (2, _), (3, _), (4, _), (5, _)]) dL_refuses_646 (ltb rfl) rfl rfl ?_
                                    exact aw_pick [3, 4, 5, 7, 2, 1, 0] rfl (aw_L_refuses_648 hG  h)
                                  · replace h := h.2 c85
                                    refine aw_aload_n 287 dL_refuses_286 rfl 1 rfl rfl ?_
                                    refine aw_iload 289 dL_refuses_287 6 rfl rfl ?_
                                    refine aw_iconst 290 (v := 0) dL_refuses_289 kI_0 rfl ?_
                                    refine aw_iconst 291 (v := 0) dL_refuses_290 kI_0 rfl ?_
                                    obtain ⟨g86, h⟩ := h
                                    obtain ⟨g87, h⟩ := h
                                    refine aw_callSX (M' := M_L_sign) 294 221 [.ref _, .int _, .int _, .int _] [] dL_refuses_291 lk_RL_221 ms_L_sign mp_L_sign (0, 7, 8, 15) [(0, 7, 13, 19)] rfl ⟨leb rfl, leb rfl⟩ rfl (leb rfl) g86 g87 rfl (am_L_sign hG h) (kkI fun v89 X88 h => ?_) (kxN KrI.no)
                                    refine aw_widen (cc' := cc + 64) (ss' := ss + 384) (Nat.le_refl _) (Nat.le_refl _) ?_
                                    refine aw_bipush 296 (v := -2) dL_refuses_294 kB_m2 rfl ?_
                                    refine aw_icmp_ne 642 299 dL_refuses_296 rfl rfl (fun c90 => ?_) (fun c90 => ?_)
                                    · replace h := h.1 c90
                                      refine aw_iconst 643 (v := 0) dL_refuses_642 kI_0 rfl ?_
                                      refine aw_istore 645 (lv' := [(7, _), (6, _), (0, _), (1, _), (2, _), (3, _), (4, _), (5, _)]) dL_refuses_643 (ltb rfl) rfl rfl ?_
                                      refine aw_iconst 646 (v := 0) dL_refuses_645 kI_0 rfl ?_
                                      refine aw_istore 648 (lv' := [(8, _), (7, _), (6, _), (0, _), (1, _), (2, _), (3, _), (4, _), (5, _)]) dL_refuses_646 (ltb rfl) rfl rfl ?_
                                      exact aw_pick [3, 4, 5, 7, 2, 1, 0] rfl (aw_L_refuses_648 hG  h)
                                    · replace h := h.2 c90
                                      refine aw_aload_n 300 dL_refuses_299 rfl 1 rfl rfl ?_
                                      refine aw_iconst 301 (v := 0) dL_refuses_300 kI_0 rfl ?_
                                      refine aw_iload 303 dL_refuses_301 5 rfl rfl ?_
                                      refine aw_iconst 304 (v := 0) dL_refuses_303 kI_0 rfl ?_
                                      obtain ⟨g91, h⟩ := h
                                      obtain ⟨g92, h⟩ := h
                                      refine aw_callSX (M' := M_L_sign) 307 221 [.ref _, .int _, .int _, .int _] [] dL_refuses_304 lk_RL_221 ms_L_sign mp_L_sign (0, 7, 8, 15) [(0, 7, 13, 19)] rfl ⟨leb rfl, leb rfl⟩ rfl (leb rfl) g91 g92 rfl (am_L_sign hG h) (kkI fun v94 X93 h => ?_) (kxN KrI.no)
                                      refine aw_widen (cc' := cc + 68) (ss' := ss + 408) (Nat.le_refl _) (Nat.le_refl _) ?_
                                      refine aw_bipush 309 (v := -2) dL_refuses_307 kB_m2 rfl ?_
                                      refine aw_icmp_ne 642 312 dL_refuses_309 rfl rfl (fun c95 => ?_) (fun c95 => ?_)
                                      · replace h := h.1 c95
                                        refine aw_iconst 643 (v := 0) dL_refuses_642 kI_0 rfl ?_
                                        refine aw_istore 645 (lv' := [(7, _), (6, _), (0, _), (1, _), (2, _), (3, _), (4, _), (5, _)]) dL_refuses_643 (ltb rfl) rfl rfl ?_
                                        refine aw_iconst 646 (v := 0) dL_refuses_645 kI_0 rfl ?_
                                        refine aw_istore 648 (lv' := [(8, _), (7, _), (6, _), (0, _), (1, _), (2, _), (3, _), (4, _), (5, _)]) dL_refuses_646 (ltb rfl) rfl rfl ?_
                                        exact aw_pick [3, 4, 5, 7, 2, 1, 0] rfl (aw_L_refuses_648 hG  h)
                                      · replace h := h.2 c95
                                        refine aw_aload_n 313 dL_refuses_312 rfl 1 rfl rfl ?_
                                        refine aw_iconst 314 (v := 0) dL_refuses_313 kI_0 rfl ?_
                                        refine aw_iconst 315 (v := 0) dL_refuses_314 kI_0 rfl ?_
                                        refine aw_iload 317 dL_refuses_315 0 rfl rfl ?_
                                        obtain ⟨g96, h⟩ := h
                                        obtain ⟨g97, h⟩ := h
                                        refine aw_callSX (M' := M_L_sign) 320 221 [.ref _, .int _, .int _, .int _] [] dL_refuses_317 lk_RL_221 ms_L_sign mp_L_sign (0, 7, 8, 15) [(0, 7, 13, 19)] rfl ⟨leb rfl, leb rfl⟩ rfl (leb rfl) g96 g97 rfl (am_L_sign hG h) (kkI fun v99 X98 h => ?_) (kxN KrI.no)
                                        refine aw_widen (cc' := cc + 72) (ss' := ss + 432) (Nat.le_refl _) (Nat.le_refl _) ?_
                                        refine aw_bipush 322 (v := -2) dL_refuses_320 kB_m2 rfl ?_
                                        refine aw_icmp_ne 642 325 dL_refuses_322 rfl rfl (fun c100 => ?_) (fun c100 => ?_)
                                        · replace h := h.1 c100
                                          refine aw_iconst 643 (v := 0) dL_refuses_642 kI_0 rfl ?_
                                          refine aw_istore 645 (lv' := [(7, _), (6, _), (0, _), (1, _), (2, _), (3, _), (4, _), (5, _)]) dL_refuses_643 (ltb rfl) rfl rfl ?_
                                          refine aw_iconst 646 (v := 0) dL_refuses_645 kI_0 rfl ?_
                                          refine aw_istore 648 (lv' := [(8, _), (7, _), (6, _), (0, _), (1, _), (2, _), (3, _), (4, _), (5, _)]) dL_refuses_646 (ltb rfl) rfl rfl ?_
                                          exact aw_pick [3, 4, 5, 7, 2, 1, 0] rfl (aw_L_refuses_648 hG  h)
                                        · replace h := h.2 c100
                                          refine aw_aload_n 326 dL_refuses_325 rfl 1 rfl rfl ?_
                                          refine aw_bipush 328 (v := 32) dL_refuses_326 kB_32 rfl ?_
                                          refine aw_iload_n 329 dL_refuses_328 rfl 2 rfl rfl ?_
                                          refine aw_isub 330 dL_refuses_329 rfl ?_
                                          obtain ⟨g101, h⟩ := h
                                          obtain ⟨g102, h⟩ := h
                                          refine aw_callSX (M' := M_L_append) 333 233 [.ref _, .int _] [] dL_refuses_330 lk_RL_233 ms_L_append mp_L_append (0, 5, 6, 17) [(0, 5, 10, 19)] rfl ⟨leb rfl, leb rfl⟩ rfl (leb rfl) g101 g102 rfl (am_L_append hG h) (kkI fun v104 X103 h => ?_) (kxN KrI.no)
                                          refine aw_widen (cc' := cc + 74) (ss' := ss + 444) (Nat.le_refl _) (Nat.le_refl _) ?_
                                          refine aw_bipush 335 (v := -3) dL_refuses_333 kB_m3 rfl ?_
                                          refine aw_icmp_ne 642 338 dL_refuses_335 rfl rfl (fun c105 => ?_) (fun c105 => ?_)
                                          · replace h := h.1 c105
                                            refine aw_iconst 643 (v := 0) dL_refuses_642 kI_0 rfl ?_
                                            refine aw_istore 645 (lv' := [(7, _), (6, _), (0, _), (1, _), (2, _), (3, _), (4, _), (5, _)]) dL_refuses_643 (ltb rfl) rfl rfl ?_
                                            refine aw_iconst 646 (v := 0) dL_refuses_645 kI_0 rfl ?_
                                            refine aw_istore 648 (lv' := [(8, _), (7, _), (6, _), (0, _), (1, _), (2, _), (3, _), (4, _), (5, _)]) dL_refuses_646 (ltb rfl) rfl rfl ?_
                                            exact aw_pick [3, 4, 5, 7, 2, 1, 0] rfl (aw_L_refuses_648 hG  h)
                                          · replace h := h.2 c105
                                            refine aw_aload_n 339 dL_refuses_338 rfl 1 rfl rfl ?_
                                            refine aw_bipush 341 (v := 127) dL_refuses_339 kB_127 rfl ?_
                                            refine aw_iload_n 342 dL_refuses_341 rfl 2 rfl rfl ?_
                                            refine aw_iadd 343 dL_refuses_342 rfl ?_
                                            obtain ⟨g106, h⟩ := h
                                            obtain ⟨g107, h⟩ := h
                                            refine aw_callSX (M' := M_L_append) 346 233 [.ref _, .int _] [] dL_refuses_343 lk_RL_233 ms_L_append mp_L_append (0, 5, 6, 17) [(0, 5, 10, 19)] rfl ⟨leb rfl, leb rfl⟩ rfl (leb rfl) g106 g107 rfl (am_L_append hG h) (kkI fun v109 X108 h => ?_) (kxN KrI.no)
                                            refine aw_widen (cc' := cc + 76) (ss' := ss + 456) (Nat.le_refl _) (Nat.le_refl _) ?_
                                            refine aw_bipush 348 (v := -3) dL_refuses_346 kB_m3 rfl ?_
                                            refine aw_icmp_ne 642 351 dL_refuses_348 rfl rfl (fun c110 => ?_) (fun c110 => ?_)
                                            · replace h := h.1 c110
                                              refine aw_iconst 643 (v := 0) dL_refuses_642 kI_0 rfl ?_
                                              refine aw_istore 645 (lv' := [(7, _), (6, _), (0, _), (1, _), (2, _), (3, _), (4, _), (5, _)]) dL_refuses_643 (ltb rfl) rfl rfl ?_
                                              refine aw_iconst 646 (v := 0) dL_refuses_645 kI_0 rfl ?_
                                              refine aw_istore 648 (lv' := [(8, _), (7, _), (6, _), (0, _), (1, _), (2, _), (3, _), (4, _), (5, _)]) dL_refuses_646 (ltb rfl) rfl rfl ?_
                                              exact aw_pick [3, 4, 5, 7, 2, 1, 0] rfl (aw_L_refuses_648 hG  h)
                                            · replace h := h.2 c110
                                              refine aw_aload_n 352 dL_refuses_351 rfl 1 rfl rfl ?_
                                              refine aw_iconst 353 (v := 2) dL_refuses_352 kI_2 rfl ?_
                                              refine aw_iload_n 354 dL_refuses_353 rfl 2 rfl rfl ?_
                                              refine aw_iadd 355 dL_refuses_354 rfl ?_
                                              obtain ⟨g111, h⟩ := h
                                              obtain ⟨g112, h⟩ := h
                                              refine aw_callSX (M' := M_L_keep) 358 225 [.ref _, .int _] [] dL_refuses_355 lk_RL_225 ms_L_keep mp_L_keep (0, 6, 7, 17) [] rfl ⟨leb rfl, leb rfl⟩ rfl (leb rfl) g111 g112 rfl (am_L_keep hG h) (kkI fun v114 X113 h => ?_) (kxN KrI.no)
                                              refine aw_widen (cc' := cc + 77) (ss' := ss + 462) (Nat.le_refl _) (Nat.le_refl _) ?_
                                              refine aw_bipush 360 (v := -3) dL_refuses_358 kB_m3 rfl ?_
                                              refine aw_icmp_ne 642 363 dL_refuses_360 rfl rfl (fun c115 => ?_) (fun c115 => ?_)
                                              · replace h := h.1 c115
                                                refine aw_iconst 643 (v := 0) dL_refuses_642 kI_0 rfl ?_
                                                refine aw_istore 645 (lv' := [(7, _), (6, _), (0, _), (1, _), (2, _), (3, _), (4, _), (5, _)]) dL_refuses_643 (ltb rfl) rfl rfl ?_
                                                refine aw_iconst 646 (v := 0) dL_refuses_645 kI_0 rfl ?_
                                                refine aw_istore 648 (lv' := [(8, _), (7, _), (6, _), (0, _), (1, _), (2, _), (3, _), (4, _), (5, _)]) dL_refuses_646 (ltb rfl) rfl rfl ?_
                                                exact aw_pick [3, 4, 5, 7, 2, 1, 0] rfl (aw_L_refuses_648 hG  h)
                                              · replace h := h.2 c115
                                                refine aw_aload_n 364 dL_refuses_363 rfl 1 rfl rfl ?_
                                                refine aw_iconst 365 (v := -1) dL_refuses_364 kI_m1 rfl ?_
                                                refine aw_iload_n 366 dL_refuses_365 rfl 2 rfl rfl ?_
                                                refine aw_isub 367 dL_refuses_366 rfl ?_
                                                obtain ⟨g116, h⟩ := h
                                                obtain ⟨g117, h⟩ := h
                                                refine aw_callSX (M' := M_L_goBack) 370 228 [.ref _, .int _] [] dL_refuses_367 lk_RL_228 ms_L_goBack mp_L_goBack (0, 6, 7, 17) [(0, 6, 11, 19)] rfl ⟨leb rfl, leb rfl⟩ rfl (leb rfl) g116 g117 rfl (am_L_goBack hG h) (kkI fun v119 X118 h => ?_) (kxN KrI.no)
                                                refine aw_widen (cc' := cc + 79) (ss' := ss + 474) (Nat.le_refl _) (Nat.le_refl _) ?_
                                                refine aw_bipush 372 (v := -3) dL_refuses_370 kB_m3 rfl ?_
                                                refine aw_icmp_ne 642 375 dL_refuses_372 rfl rfl (fun c120 => ?_) (fun c120 => ?_)
                                                · replace h := h.1 c120
                                                  refine aw_iconst 643 (v := 0) dL_refuses_642 kI_0 rfl ?_
                                                  refine aw_istore 645 (lv' := [(7, _), (6, _), (0, _), (1, _), (2, _), (3, _), (4, _), (5, _)]) dL_refuses_643 (ltb rfl) rfl rfl ?_
                                                  refine aw_iconst 646 (v := 0) dL_refuses_645 kI_0 rfl ?_
                                                  refine aw_istore 648 (lv' := [(8, _), (7, _), (6, _), (0, _), (1, _), (2, _), (3, _), (4, _), (5, _)]) dL_refuses_646 (ltb rfl) rfl rfl ?_
                                                  exact aw_pick [3, 4, 5, 7, 2, 1, 0] rfl (aw_L_refuses_648 hG  h)
                                                · replace h := h.2 c120
                                                  refine aw_aload_n 376 dL_refuses_375 rfl 1 rfl rfl ?_
                                                  refine aw_iload_n 377 dL_refuses_376 rfl 4 rfl rfl ?_
                                                  obtain ⟨g121, h⟩ := h
                                                  obtain ⟨g122, h⟩ := h
                                                  refine aw_callSX (M' := M_L_clauseOf) 380 255 [.ref _, .int _] [] dL_refuses_377 lk_RL_255 ms_L_clauseOf mp_L_clauseOf (0, 32, 33, 15) [] rfl ⟨leb rfl, leb rfl⟩ rfl (leb rfl) g121 g122 rfl (am_L_clauseOf hG h) (kkI fun v124 X123 h => ?_) (kxN KrI.no)
                                                  refine aw_widen (cc' := cc + 83) (ss' := ss + 498) (Nat.le_refl _) (Nat.le_refl _) ?_
                                                  refine aw_bipush 382 (v := -2) dL_refuses_380 kB_m2 rfl ?_
                                                  refine aw_icmp_ne 642 385 dL_refuses_382 rfl rfl (fun c125 => ?_) (fun c125 => ?_)
                                                  · replace h := h.1 c125
                                                    refine aw_iconst 643 (v := 0) dL_refuses_642 kI_0 rfl ?_
                                                    refine aw_istore 645 (lv' := [(7, _), (6, _), (0, _), (1, _), (2, _), (3, _), (4, _), (5, _)]) dL_refuses_643 (ltb rfl) rfl rfl ?_
                                                    refine aw_iconst 646 (v := 0) dL_refuses_645 kI_0 rfl ?_
                                                    refine aw_istore 648 (lv' := [(8, _), (7, _), (6, _), (0, _), (1, _), (2, _), (3, _), (4, _), (5, _)]) dL_refuses_646 (ltb rfl) rfl rfl ?_
                                                    exact aw_pick [3, 4, 5, 7, 2, 1, 0] rfl (aw_L_refuses_648 hG  h)
                                                  · replace h := h.2 c125
                                                    refine aw_aload_n 386 dL_refuses_385 rfl 1 rfl rfl ?_
                                                    refine aw_iload_n 387 dL_refuses_386 rfl 4 rfl rfl ?_
                                                    refine aw_iconst 388 (v := 0) dL_refuses_387 kI_0 rfl ?_
                                                    obtain ⟨g126, h⟩ := h
                                                    obtain ⟨g127, h⟩ := h
                                                    refine aw_callSX (M' := M_L_framesOf) 391 258 [.ref _, .int _, .int _] [] dL_refuses_388 lk_RL_258 ms_L_framesOf mp_L_framesOf (0, 6, 7, 15) [(0, 6, 11, 19)] rfl ⟨leb rfl, leb rfl⟩ rfl (leb rfl) g126 g127 rfl (am_L_framesOf hG h) (kkI fun v129 X128 h => ?_) (kxN KrI.no)
                                                    refine aw_widen (cc' := cc + 86) (ss' := ss + 516) (Nat.le_refl _) (Nat.le_refl _) ?_
                                                    refine aw_bipush 393 (v := -2) dL_refuses_391 kB_m2 rfl ?_
                                                    refine aw_icmp_ne 642 396 dL_refuses_393 rfl rfl (fun c130 => ?_) (fun c130 => ?_)
                                                    · replace h := h.1 c130
                                                      refine aw_iconst 643 (v := 0) dL_refuses_642 kI_0 rfl ?_
                                                      refine aw_istore 645 (lv' := [(7, _), (6, _), (0, _), (1, _), (2, _), (3, _), (4, _), (5, _)]) dL_refuses_643 (ltb rfl) rfl rfl ?_
                                                      refine aw_iconst 646 (v := 0) dL_refuses_645 kI_0 rfl ?_
                                                      refine aw_istore 648 (lv' := [(8, _), (7, _), (6, _), (0, _), (1, _), (2, _), (3, _), (4, _), (5, _)]) dL_refuses_646 (ltb rfl) rfl rfl ?_
                                                      exact aw_pick [3, 4, 5, 7, 2, 1, 0] rfl (aw_L_refuses_648 hG  h)
                                                    · replace h := h.2 c130
                                                      refine aw_aload_n 397 dL_refuses_396 rfl 1 rfl rfl ?_
                                                      refine aw_iload_n 398 dL_refuses_397 rfl 4 rfl rfl ?_
                                                      refine aw_iconst 399 (v := 0) dL_refuses_398 kI_0 rfl ?_
                                                      obtain ⟨g131, h⟩ := h
                                                      obtain ⟨g132, h⟩ := h
                                                      refine aw_callSX (M' := M_L_annexedOf) 402 276 [.ref _, .int _, .int _] [] dL_refuses_399 lk_RL_276 ms_L_annexedOf mp_L_annexedOf (0, 6, 7, 15) [] rfl ⟨leb rfl, leb rfl⟩ rfl (leb rfl) g131 g132 rfl (am_L_annexedOf hG h) (kkI fun v134 X133 h => ?_) (kxN KrI.no)
                                                      refine aw_widen (cc' := cc + 88) (ss' := ss + 528) (Nat.le_refl _) (Nat.le_refl _) ?_
                                                      refine aw_bipush 404 (v := -2) dL_refuses_402 kB_m2 rfl ?_
                                                      refine aw_icmp_ne 642 407 dL_refuses_404 rfl rfl (fun c135 => ?_) (fun c135 => ?_)
                                                      · replace h := h.1 c135
                                                        refine aw_iconst 643 (v := 0) dL_refuses_642 kI_0 rfl ?_
                                                        refine aw_istore 645 (lv' := [(7, _), (6, _), (0, _), (1, _), (2, _), (3, _), (4, _), (5, _)]) dL_refuses_643 (ltb rfl) rfl rfl ?_
                                                        refine aw_iconst 646 (v := 0) dL_refuses_645 kI_0 rfl ?_
                                                        refine aw_istore 648 (lv' := [(8, _), (7, _), (6, _), (0, _), (1, _), (2, _), (3, _), (4, _), (5, _)]) dL_refuses_646 (ltb rfl) rfl rfl ?_
                                                        exact aw_pick [3, 4, 5, 7, 2, 1, 0] rfl (aw_L_refuses_648 hG  h)
                                                      · replace h := h.2 c135
                                                        refine aw_aload_n 408 dL_refuses_407 rfl 1 rfl rfl ?_
                                                        refine aw_iload_n 409 dL_refuses_408 rfl 4 rfl rfl ?_
                                                        refine aw_iconst 410 (v := 0) dL_refuses_409 kI_0 rfl ?_
                                                        obtain ⟨g136, h⟩ := h
                                                        obtain ⟨g137, h⟩ := h
                                                        refine aw_callSX (M' := M_L_sessionOf) 413 264 [.ref _, .int _, .int _] [] dL_refuses_410 lk_RL_264 ms_L_sessionOf mp_L_sessionOf (0, 6, 7, 15) [(0, 6, 11, 19)] rfl ⟨leb rfl, leb rfl⟩ rfl (leb rfl) g136 g137 rfl (am_L_sessionOf hG h) (kkI fun v139 X138 h => ?_) (kxN KrI.no)
                                                        refine aw_widen (cc' := cc + 91) (ss' := ss + 546) (Nat.le_refl _) (Nat.le_refl _) ?_
                                                        refine aw_bipush 415 (v := -2) dL_refuses_413 kB_m2 rfl ?_
                                                        refine aw_icmp_ne 642 418 dL_refuses_415 rfl rfl (fun c140 => ?_) (fun c140 => ?_)
                                                        · replace h := h.1 c140
                                                          refine aw_iconst 643 (v := 0) dL_refuses_642 kI_0 rfl ?_
                                                          refine aw_istore 645 (lv' := [(7, _), (6, _), (0, _), (1, _), (2, _), (3, _), (4, _), (5, _)]) dL_refuses_643 (ltb rfl) rfl rfl ?_
                                                          refine aw_iconst 646 (v := 0) dL_refuses_645 kI_0 rfl ?_
                                                          refine aw_istore 648 (lv' := [(8, _), (7, _), (6, _), (0, _), (1, _), (2, _), (3, _), (4, _), (5, _)]) dL_refuses_646 (ltb rfl) rfl rfl ?_
                                                          exact aw_pick [3, 4, 5, 7, 2, 1, 0] rfl (aw_L_refuses_648 hG  h)
                                                        · replace h := h.2 c140
                                                          refine aw_aload_n 419 dL_refuses_418 rfl 1 rfl rfl ?_
                                                          refine aw_iload_n 420 dL_refuses_419 rfl 4 rfl rfl ?_
                                                          refine aw_iconst 421 (v := 0) dL_refuses_420 kI_0 rfl ?_
                                                          obtain ⟨g141, h⟩ := h
                                                          obtain ⟨g142, h⟩ := h
                                                          refine aw_callSX (M' := M_L_roomFor) 424 260 [.ref _, .int _, .int _] [] dL_refuses_421 lk_RL_260 ms_L_roomFor mp_L_roomFor (0, 6, 7, 15) [(0, 6, 12, 19)] rfl ⟨leb rfl, leb rfl⟩ rfl (leb rfl) g141 g142 rfl (am_L_roomFor hG h) (kkI fun v144 X143 h => ?_) (kxN KrI.no)
                                                          refine aw_widen (cc' := cc + 94) (ss' := ss + 564) (Nat.le_refl _) (Nat.le_refl _) ?_
                                                          refine aw_sipush 427 (v := -902) dL_refuses_424 kS_m902 rfl ?_
                                                          refine aw_icmp_ne 642 430 dL_refuses_427 rfl rfl (fun c145 => ?_) (fun c145 => ?_)
                                                          · replace h := h.1 c145
                                                            refine aw_iconst 643 (v := 0) dL_refuses_642 kI_0 rfl ?_
                                                            refine aw_istore 645 (lv' := [(7, _), (6, _), (0, _), (1, _), (2, _), (3, _), (4, _), (5, _)]) dL_refuses_643 (ltb rfl) rfl rfl ?_
                                                            refine aw_iconst 646 (v := 0) dL_refuses_645 kI_0 rfl ?_
                                                            refine aw_istore 648 (lv' := [(8, _), (7, _), (6, _), (0, _), (1, _), (2, _), (3, _), (4, _), (5, _)]) dL_refuses_646 (ltb rfl) rfl rfl ?_
                                                            exact aw_pick [3, 4, 5, 7, 2, 1, 0] rfl (aw_L_refuses_648 hG  h)
                                                          · replace h := h.2 c145
                                                            refine aw_aload_n 431 dL_refuses_430 rfl 1 rfl rfl ?_
                                                            refine aw_iload_n 432 dL_refuses_431 rfl 4 rfl rfl ?_
                                                            refine aw_iconst 433 (v := 0) dL_refuses_432 kI_0 rfl ?_
                                                            obtain ⟨g146, h⟩ := h
                                                            obtain ⟨g147, h⟩ := h
                                                            refine aw_callSX (M' := M_L_fits) 436 270 [.ref _, .int _, .int _] [] dL_refuses_433 lk_RL_270 ms_L_fits mp_L_fits (0, 14, 15, 15) [] rfl ⟨leb rfl, leb rfl⟩ rfl (leb rfl) g146 g147 rfl (am_L_fits hG h) (kkI fun v149 X148 h => ?_) (kxN KrI.no)
                                                            refine aw_widen (cc' := cc + 96) (ss' := ss + 576) (Nat.le_refl _) (Nat.le_refl _) ?_
                                                            refine aw_bipush 438 (v := -2) dL_refuses_436 kB_m2 rfl ?_
                                                            refine aw_icmp_ne 642 441 dL_refuses_438 rfl rfl (fun c150 => ?_) (fun c150 => ?_)
                                                            · replace h := h.1 c150
                                                              refine aw_iconst 643 (v := 0) dL_refuses_642 kI_0 rfl ?_
                                                              refine aw_istore 645 (lv' := [(7, _), (6, _), (0, _), (1, _), (2, _), (3, _), (4, _), (5, _)]) dL_refuses_643 (ltb rfl) rfl rfl ?_
                                                              refine aw_iconst 646 (v := 0) dL_refuses_645 kI_0 rfl ?_
                                                              refine aw_istore 648 (lv' := [(8, _), (7, _), (6, _), (0, _), (1, _), (2, _), (3, _), (4, _), (5, _)]) dL_refuses_646 (ltb rfl) rfl rfl ?_
                                                              exact aw_pick [3, 4, 5, 7, 2, 1, 0] rfl (aw_L_refuses_648 hG  h)
                                                            · replace h := h.2 c150
                                                              refine aw_aload_n 442 dL_refuses_441 rfl 1 rfl rfl ?_
                                                              refine aw_iload_n 443 dL_refuses_442 rfl 4 rfl rfl ?_
                                                              refine aw_iconst 444 (v := 0) dL_refuses_443 kI_0 rfl ?_
                                                              obtain ⟨g151, h⟩ := h
                                                              obtain ⟨g152, h⟩ := h
                                                              refine aw_callSX (M' := M_L_hundredthsOf) 447 268 [.ref _, .int _, .int _] [] dL_refuses_444 lk_RL_268 ms_L_hundredthsOf mp_L_hundredthsOf (0, 6, 7, 15) [(0, 6, 11, 19)] rfl ⟨leb rfl, leb rfl⟩ rfl (leb rfl) g151 g152 rfl (am_L_hundredthsOf hG h) (kkI fun v154 X153 h => ?_) (kxN KrI.no)
                                                              refine aw_widen (cc' := cc + 99) (ss' := ss + 594) (Nat.le_refl _) (Nat.le_refl _) ?_
                                                              refine aw_bipush 449 (v := -2) dL_refuses_447 kB_m2 rfl ?_
                                                              refine aw_icmp_ne 642 452 dL_refuses_449 rfl rfl (fun c155 => ?_) (fun c155 => ?_)
                                                              · replace h := h.1 c155
                                                                refine aw_iconst 643 (v := 0) dL_refuses_642 kI_0 rfl ?_
                                                                refine aw_istore 645 (lv' := [(7, _), (6, _), (0, _), (1, _), (2, _), (3, _), (4, _), (5, _)]) dL_refuses_643 (ltb rfl) rfl rfl ?_
                                                                refine aw_iconst 646 (v := 0) dL_refuses_645 kI_0 rfl ?_
                                                                refine aw_istore 648 (lv' := [(8, _), (7, _), (6, _), (0, _), (1, _), (2, _), (3, _), (4, _), (5, _)]) dL_refuses_646 (ltb rfl) rfl rfl ?_
                                                                exact aw_pick [3, 4, 5, 7, 2, 1, 0] rfl (aw_L_refuses_648 hG  h)
                                                              · replace h := h.2 c155
                                                                refine aw_aload_n 453 dL_refuses_452 rfl 1 rfl rfl ?_
                                                                refine aw_iload_n 454 dL_refuses_453 rfl 4 rfl rfl ?_
                                                                refine aw_iconst 455 (v := 0) dL_refuses_454 kI_0 rfl ?_
                                                                obtain ⟨g156, h⟩ := h
                                                                obtain ⟨g157, h⟩ := h
                                                                refine aw_callSX (M' := M_L_reasonAgainst) 458 262 [.ref _, .int _, .int _] [] dL_refuses_455 lk_RL_262 ms_L_reasonAgainst mp_L_reasonAgainst (0, 6, 7, 15) [] rfl ⟨leb rfl, leb rfl⟩ rfl (leb rfl) g156 g157 rfl (am_L_reasonAgainst hG h) (kkI fun v159 X158 h => ?_) (kxN KrI.no)
                                                                refine aw_widen (cc' := cc + 101) (ss' := ss + 606) (Nat.le_refl _) (Nat.le_refl _) ?_
                                                                refine aw_bipush 460 (v := -2) dL_refuses_458 kB_m2 rfl ?_
                                                                refine aw_icmp_ne 642 463 dL_refuses_460 rfl rfl (fun c160 => ?_) (fun c160 => ?_)
                                                                · replace h := h.1 c160
                                                                  refine aw_iconst 643 (v := 0) dL_refuses_642 kI_0 rfl ?_
                                                                  refine aw_istore 645 (lv' := [(7, _), (6, _), (0, _), (1, _), (2, _), (3, _), (4, _), (5, _)]) dL_refuses_643 (ltb rfl) rfl rfl ?_
                                                                  refine aw_iconst 646 (v := 0) dL_refuses_645 kI_0 rfl ?_
                                                                  refine aw_istore 648 (lv' := [(8, _), (7, _), (6, _), (0, _), (1, _), (2, _), (3, _), (4, _), (5, _)]) dL_refuses_646 (ltb rfl) rfl rfl ?_
                                                                  exact aw_pick [3, 4, 5, 7, 2, 1, 0] rfl (aw_L_refuses_648 hG  h)
                                                                · replace h := h.2 c160
                                                                  refine aw_aload_n 464 dL_refuses_463 rfl 1 rfl rfl ?_
                                                                  refine aw_iload 466 dL_refuses_464 6 rfl rfl ?_
                                                                  refine aw_iconst 467 (v := 0) dL_refuses_466 kI_0 rfl ?_
                                                                  obtain ⟨g161, h⟩ := h
                                                                  obtain ⟨g162, h⟩ := h
                                                                  refine aw_callSX (M' := M_L_staminaOf) 470 280 [.ref _, .int _, .int _] [] dL_refuses_467 lk_RL_280 ms_L_staminaOf mp_L_staminaOf (0, 6, 7, 15) [] rfl ⟨leb rfl, leb rfl⟩ rfl (leb rfl) g161 g162 rfl (am_L_staminaOf hG h) (kkI fun v164 X163 h => ?_) (kxN KrI.no)
                                                                  refine aw_widen (cc' := cc + 103) (ss' := ss + 618) (Nat.le_refl _) (Nat.le_refl _) ?_
                                                                  refine aw_bipush 472 (v := -2) dL_refuses_470 kB_m2 rfl ?_
                                                                  refine aw_icmp_ne 642 475 dL_refuses_472 rfl rfl (fun c165 => ?_) (fun c165 => ?_)
                                                                  · replace h := h.1 c165
                                                                    refine aw_iconst 643 (v := 0) dL_refuses_642 kI_0 rfl ?_
                                                                    refine aw_istore 645 (lv' := [(7, _), (6, _), (0, _), (1, _), (2, _), (3, _), (4, _), (5, _)]) dL_refuses_643 (ltb rfl) rfl rfl ?_
                                                                    refine aw_iconst 646 (v := 0) dL_refuses_645 kI_0 rfl ?_
                                                                    refine aw_istore 648 (lv' := [(8, _), (7, _), (6, _), (0, _), (1, _), (2, _), (3, _), (4, _), (5, _)]) dL_refuses_646 (ltb rfl) rfl rfl ?_
                                                                    exact aw_pick [3, 4, 5, 7, 2, 1, 0] rfl (aw_L_refuses_648 hG  h)
                                                                  · replace h := h.2 c165
                                                                    refine aw_aload_n 476 dL_refuses_475 rfl 1 rfl rfl ?_
                                                                    refine aw_iconst 477 (v := 0) dL_refuses_476 kI_0 rfl ?_
                                                                    refine aw_iload 479 dL_refuses_477 0 rfl rfl ?_
                                                                    obtain ⟨g166, h⟩ := h
                                                                    obtain ⟨g167, h⟩ := h
                                                                    refine aw_callSX (M' := M_L_strengthLeft) 482 282 [.ref _, .int _, .int _] [] dL_refuses_479 lk_RL_282 ms_L_strengthLeft mp_L_strengthLeft (0, 6, 7, 15) [] rfl ⟨leb rfl, leb rfl⟩ rfl (leb rfl) g166 g167 rfl (am_L_strengthLeft hG h) (kkI fun v169 X168 h => ?_) (kxN KrI.no)
                                                                    refine aw_widen (cc' := cc + 105) (ss' := ss + 630) (Nat.le_refl _) (Nat.le_refl _) ?_
                                                                    refine aw_bipush 484 (v := -2) dL_refuses_482 kB_m2 rfl ?_
                                                                    refine aw_icmp_ne 642 487 dL_refuses_484 rfl rfl (fun c170 => ?_) (fun c170 => ?_)
                                                                    · replace h := h.1 c170
                                                                      refine aw_iconst 643 (v := 0) dL_refuses_642 kI_0 rfl ?_
                                                                      refine aw_istore 645 (lv' := [(7, _), (6, _), (0, _), (1, _), (2, _), (3, _), (4, _), (5, _)]) dL_refuses_643 (ltb rfl) rfl rfl ?_
                                                                      refine aw_iconst 646 (v := 0) dL_refuses_645 kI_0 rfl ?_
                                                                      refine aw_istore 648 (lv' := [(8, _), (7, _), (6, _), (0, _), (1, _), (2, _), (3, _), (4, _), (5, _)]) dL_refuses_646 (ltb rfl) rfl rfl ?_
                                                                      exact aw_pick [3, 4, 5, 7, 2, 1, 0] rfl (aw_L_refuses_648 hG  h)
                                                                    · replace h := h.2 c170
                                                                      refine aw_aload_n 488 dL_refuses_487 rfl 1 rfl rfl ?_
                                                                      refine aw_iload 490 dL_refuses_488 6 rfl rfl ?_
                                                                      refine aw_iconst 491 (v := 0) dL_refuses_490 kI_0 rfl ?_
                                                                      obtain ⟨g171, h⟩ := h
                                                                      obtain ⟨g172, h⟩ := h
                                                                      refine aw_callSX (M' := M_L_framesOfVoice) 494 286 [.ref _, .int _, .int _] [] dL_refuses_491 lk_RL_286 ms_L_framesOfVoice mp_L_framesOfVoice (0, 6, 7, 15) [] rfl ⟨leb rfl, leb rfl⟩ rfl (leb rfl) g171 g172 rfl (am_L_framesOfVoice hG h) (kkI fun v174 X173 h => ?_) (kxN KrI.no)
                                                                      refine aw_widen (cc' := cc + 107) (ss' := ss + 642) (Nat.le_refl _) (Nat.le_refl _) ?_
                                                                      refine aw_bipush 496 (v := -2) dL_refuses_494 kB_m2 rfl ?_
                                                                      refine aw_icmp_ne 642 499 dL_refuses_496 rfl rfl (fun c175 => ?_) (fun c175 => ?_)
                                                                      · replace h := h.1 c175
                                                                        refine aw_iconst 643 (v := 0) dL_refuses_642 kI_0 rfl ?_
                                                                        refine aw_istore 645 (lv' := [(7, _), (6, _), (0, _), (1, _), (2, _), (3, _), (4, _), (5, _)]) dL_refuses_643 (ltb rfl) rfl rfl ?_
                                                                        refine aw_iconst 646 (v := 0) dL_refuses_645 kI_0 rfl ?_
                                                                        refine aw_istore 648 (lv' := [(8, _), (7, _), (6, _), (0, _), (1, _), (2, _), (3, _), (4, _), (5, _)]) dL_refuses_646 (ltb rfl) rfl rfl ?_
                                                                        exact aw_pick [3, 4, 5, 7, 2, 1, 0] rfl (aw_L_refuses_648 hG  h)
                                                                      · replace h := h.2 c175
                                                                        refine aw_aload_n 500 dL_refuses_499 rfl 1 rfl rfl ?_
                                                                        refine aw_iconst 501 (v := 0) dL_refuses_500 kI_0 rfl ?_
                                                                        refine aw_iload 503 dL_refuses_501 0 rfl rfl ?_
                                                                        obtain ⟨g176, h⟩ := h
                                                                        obtain ⟨g177, h⟩ := h
                                                                        refine aw_callSX (M' := M_L_sessionsByGoing) 506 278 [.ref _, .int _, .int _] [] dL_refuses_503 lk_RL_278 ms_L_sessionsByGoing mp_L_sessionsByGoing (0, 6, 7, 15) [(0, 6, 11, 19)] rfl ⟨leb rfl, leb rfl⟩ rfl (leb rfl) g176 g177 rfl (am_L_sessionsByGoing hG h) (kkI fun v179 X178 h => ?_) (kxN KrI.no)
                                                                        refine aw_widen (cc' := cc + 110) (ss' := ss + 660) (Nat.le_refl _) (Nat.le_refl _) ?_
                                                                        refine aw_bipush 508 (v := -2) dL_refuses_506 kB_m2 rfl ?_
                                                                        refine aw_icmp_ne 642 511 dL_refuses_508 rfl rfl (fun c180 => ?_) (fun c180 => ?_)
                                                                        · replace h := h.1 c180
                                                                          refine aw_iconst 643 (v := 0) dL_refuses_642 kI_0 rfl ?_
                                                                          refine aw_istore 645 (lv' := [(7, _), (6, _), (0, _), (1, _), (2, _), (3, _), (4, _), (5, _)]) dL_refuses_643 (ltb rfl) rfl rfl ?_
                                                                          refine aw_iconst 646 (v := 0) dL_refuses_645 kI_0 rfl ?_
                                                                          refine aw_istore 648 (lv' := [(8, _), (7, _), (6, _), (0, _), (1, _), (2, _), (3, _), (4, _), (5, _)]) dL_refuses_646 (ltb rfl) rfl rfl ?_
                                                                          exact aw_pick [3, 4, 5, 7, 2, 1, 0] rfl (aw_L_refuses_648 hG  h)
                                                                        · replace h := h.2 c180
                                                                          refine aw_aload_n 512 dL_refuses_511 rfl 1 rfl rfl ?_
                                                                          refine aw_iload 514 dL_refuses_512 6 rfl rfl ?_
                                                                          refine aw_iconst 515 (v := 0) dL_refuses_514 kI_0 rfl ?_
                                                                          obtain ⟨g181, h⟩ := h
                                                                          obtain ⟨g182, h⟩ := h
                                                                          refine aw_callSX (M' := M_L_sessionsByTable) 518 284 [.ref _, .int _, .int _] [] dL_refuses_515 lk_RL_284 ms_L_sessionsByTable mp_L_sessionsByTable (0, 6, 7, 15) [(0, 6, 11, 19)] rfl ⟨leb rfl, leb rfl⟩ rfl (leb rfl) g181 g182 rfl (am_L_sessionsByTable hG h) (kkI fun v184 X183 h => ?_) (kxN KrI.no)
                                                                          refine aw_widen (cc' := cc + 113) (ss' := ss + 678) (Nat.le_refl _) (Nat.le_refl _) ?_
                                                                          refine aw_bipush 520 (v := -2) dL_refuses_518 kB_m2 rfl ?_
                                                                          refine aw_icmp_ne 642 523 dL_refuses_520 rfl rfl (fun c185 => ?_) (fun c185 => ?_)
                                                                          · replace h := h.1 c185
                                                                            refine aw_iconst 643 (v := 0) dL_refuses_642 kI_0 rfl ?_
                                                                            refine aw_istore 645 (lv' := [(7, _), (6, _), (0, _), (1, _), (2, _), (3, _), (4, _), (5, _)]) dL_refuses_643 (ltb rfl) rfl rfl ?_
                                                                            refine aw_iconst 646 (v := 0) dL_refuses_645 kI_0 rfl ?_
                                                                            refine aw_istore 648 (lv' := [(8, _), (7, _), (6, _), (0, _), (1, _), (2, _), (3, _), (4, _), (5, _)]) dL_refuses_646 (ltb rfl) rfl rfl ?_
                                                                            exact aw_pick [3, 4, 5, 7, 2, 1, 0] rfl (aw_L_refuses_648 hG  h)
                                                                          · replace h := h.2 c185
                                                                            refine aw_aload_n 524 dL_refuses_523 rfl 1 rfl rfl ?_
                                                                            refine aw_iload 526 dL_refuses_524 5 rfl rfl ?_
                                                                            obtain ⟨g186, h⟩ := h
                                                                            obtain ⟨g187, h⟩ := h
                                                                            refine aw_callSX (M' := M_L_reelAt) 529 295 [.ref _, .int _] [] dL_refuses_526 lk_RL_295 ms_L_reelAt mp_L_reelAt (0, 14, 15, 15) [] rfl ⟨leb rfl, leb rfl⟩ rfl (leb rfl) g186 g187 rfl (am_L_reelAt hG h) (kkI fun v189 X188 h => ?_) (kxN KrI.no)
                                                                            refine aw_widen (cc' := cc + 115) (ss' := ss + 690) (Nat.le_refl _) (Nat.le_refl _) ?_
                                                                            refine aw_bipush 531 (v := -2) dL_refuses_529 kB_m2 rfl ?_
                                                                            refine aw_icmp_ne 642 534 dL_refuses_531 rfl rfl (fun c190 => ?_) (fun c190 => ?_)
                                                                            · replace h := h.1 c190
                                                                              refine aw_iconst 643 (v := 0) dL_refuses_642 kI_0 rfl ?_
                                                                              refine aw_istore 645 (lv' := [(7, _), (6, _), (0, _), (1, _), (2, _), (3, _), (4, _), (5, _)]) dL_refuses_643 (ltb rfl) rfl rfl ?_
                                                                              refine aw_iconst 646 (v := 0) dL_refuses_645 kI_0 rfl ?_
                                                                              refine aw_istore 648 (lv' := [(8, _), (7, _), (6, _), (0, _), (1, _), (2, _), (3, _), (4, _), (5, _)]) dL_refuses_646 (ltb rfl) rfl rfl ?_
                                                                              exact aw_pick [3, 4, 5, 7, 2, 1, 0] rfl (aw_L_refuses_648 hG  h)
                                                                            · replace h := h.2 c190
                                                                              refine aw_aload_n 535 dL_refuses_534 rfl 1 rfl rfl ?_
                                                                              refine aw_iconst 536 (v := 0) dL_refuses_535 kI_0 rfl ?_
                                                                              refine aw_iload 538 dL_refuses_536 5 rfl rfl ?_
                                                                              obtain ⟨g191, h⟩ := h
                                                                              obtain ⟨g192, h⟩ := h
                                                                              refine aw_callSX (M' := M_L_speaksIn) 541 293 [.ref _, .int _, .int _] [] dL_refuses_538 lk_RL_293 ms_L_speaksIn mp_L_speaksIn (0, 14, 15, 15) [] rfl ⟨leb rfl, leb rfl⟩ rfl (leb rfl) g191 g192 rfl (am_L_speaksIn hG h) (kkI fun v194 X193 h => ?_) (kxN KrI.no)
                                                                              refine aw_widen (cc' := cc + 117) (ss' := ss + 702) (Nat.le_refl _) (Nat.le_refl _) ?_
                                                                              refine aw_bipush 543 (v := -2) dL_refuses_541 kB_m2 rfl ?_
                                                                              refine aw_icmp_ne 642 546 dL_refuses_543 rfl rfl (fun c195 => ?_) (fun c195 => ?_)
                                                                              · replace h := h.1 c195
                                                                                refine aw_iconst 643 (v := 0) dL_refuses_642 kI_0 rfl ?_
                                                                                refine aw_istore 645 (lv' := [(7, _), (6, _), (0, _), (1, _), (2, _), (3, _), (4, _), (5, _)]) dL_refuses_643 (ltb rfl) rfl rfl ?_
                                                                                refine aw_iconst 646 (v := 0) dL_refuses_645 kI_0 rfl ?_
                                                                                refine aw_istore 648 (lv' := [(8, _), (7, _), (6, _), (0, _), (1, _), (2, _), (3, _), (4, _), (5, _)]) dL_refuses_646 (ltb rfl) rfl rfl ?_
                                                                                exact aw_pick [3, 4, 5, 7, 2, 1, 0] rfl (aw_L_refuses_648 hG  h)
                                                                              · replace h := h.2 c195
                                                                                refine aw_aload_n 547 dL_refuses_546 rfl 1 rfl rfl ?_
                                                                                refine aw_iload 549 dL_refuses_547 5 rfl rfl ?_
                                                                                refine aw_iconst 550 (v := 0) dL_refuses_549 kI_0 rfl ?_
                                                                                obtain ⟨g196, h⟩ := h
                                                                                obtain ⟨g197, h⟩ := h
                                                                                refine aw_callSX (M' := M_L_mixOf) 553 288 [.ref _, .int _, .int _] [] dL_refuses_550 lk_RL_288 ms_L_mixOf mp_L_mixOf (0, 49, 50, 15) [] rfl ⟨leb rfl, leb rfl⟩ rfl (leb rfl) g196 g197 rfl (am_L_mixOf hG h) (kkI fun v199 X198 h => ?_) (kxN KrI.no)
                                                                                refine aw_widen (cc' := cc + 125) (ss' := ss + 750) (Nat.le_refl _) (Nat.le_refl _) ?_
                                                                                refine aw_bipush 555 (v := -2) dL_refuses_553 kB_m2 rfl ?_
                                                                                refine aw_icmp_ne 642 558 dL_refuses_555 rfl rfl (fun c200 => ?_) (fun c200 => ?_)
                                                                                · replace h := h.1 c200
                                                                                  refine aw_iconst 643 (v := 0) dL_refuses_642 kI_0 rfl ?_
                                                                                  refine aw_istore 645 (lv' := [(7, _), (6, _), (0, _), (1, _), (2, _), (3, _), (4, _), (5, _)]) dL_refuses_643 (ltb rfl) rfl rfl ?_
                                                                                  refine aw_iconst 646 (v := 0) dL_refuses_645 kI_0 rfl ?_
                                                                                  refine aw_istore 648 (lv' := [(8, _), (7, _), (6, _), (0, _), (1, _), (2, _), (3, _), (4, _), (5, _)]) dL_refuses_646 (ltb rfl) rfl rfl ?_
                                                                                  exact aw_pick [3, 4, 5, 7, 2, 1, 0] rfl (aw_L_refuses_648 hG  h)
                                                                                · replace h := h.2 c200
                                                                                  refine aw_aload_n 559 dL_refuses_558 rfl 1 rfl rfl ?_
                                                                                  refine aw_iconst 560 (v := 0) dL_refuses_559 kI_0 rfl ?_
                                                                                  refine aw_iconst 561 (v := 0) dL_refuses_560 kI_0 rfl ?_
                                                                                  refine aw_iload 563 dL_refuses_561 0 rfl rfl ?_
                                                                                  obtain ⟨g201, h⟩ := h
                                                                                  obtain ⟨g202, h⟩ := h
                                                                                  refine aw_callSX (M' := M_L_hasSigned) 566 291 [.ref _, .int _, .int _, .int _] [] dL_refuses_563 lk_RL_291 ms_L_hasSigned mp_L_hasSigned (0, 15, 16, 15) [] rfl ⟨leb rfl, leb rfl⟩ rfl (leb rfl) g201 g202 rfl (am_L_hasSigned hG h) (kkI fun v204 X203 h => ?_) (kxN KrI.no)
                                                                                  refine aw_widen (cc' := cc + 128) (ss' := ss + 768) (Nat.le_refl _) (Nat.le_refl _) ?_
                                                                                  refine aw_bipush 568 (v := -2) dL_refuses_566 kB_m2 rfl ?_
                                                                                  refine aw_icmp_ne 642 571 dL_refuses_568 rfl rfl (fun c205 => ?_) (fun c205 => ?_)
                                                                                  · replace h := h.1 c205
                                                                                    refine aw_iconst 643 (v := 0) dL_refuses_642 kI_0 rfl ?_
                                                                                    refine aw_istore 645 (lv' := [(7, _), (6, _), (0, _), (1, _), (2, _), (3, _), (4, _), (5, _)]) dL_refuses_643 (ltb rfl) rfl rfl ?_
                                                                                    refine aw_iconst 646 (v := 0) dL_refuses_645 kI_0 rfl ?_
                                                                                    refine aw_istore 648 (lv' := [(8, _), (7, _), (6, _), (0, _), (1, _), (2, _), (3, _), (4, _), (5, _)]) dL_refuses_646 (ltb rfl) rfl rfl ?_
                                                                                    exact aw_pick [3, 4, 5, 7, 2, 1, 0] rfl (aw_L_refuses_648 hG  h)
                                                                                  · replace h := h.2 c205
                                                                                    refine aw_aload_n 572 dL_refuses_571 rfl 1 rfl rfl ?_
                                                                                    refine aw_iload 574 dL_refuses_572 0 rfl rfl ?_
                                                                                    obtain ⟨g206, h⟩ := h
                                                                                    obtain ⟨g207, h⟩ := h
                                                                                    refine aw_callSX (M' := M_L_ready) 577 303 [.ref _, .int _] [] dL_refuses_574 lk_RL_303 ms_L_ready mp_L_ready (0, 23, 24, 15) [] rfl ⟨leb rfl, leb rfl⟩ rfl (leb rfl) g206 g207 rfl (am_L_ready hG h) (kkI fun v209 X208 h => ?_) (kxN KrI.no)
                                                                                    refine aw_widen (cc' := cc + 131) (ss' := ss + 786) (Nat.le_refl _) (Nat.le_refl _) ?_
                                                                                    refine aw_bipush 579 (v := -2) dL_refuses_577 kB_m2 rfl ?_
                                                                                    refine aw_icmp_ne 642 582 dL_refuses_579 rfl rfl (fun c210 => ?_) (fun c210 => ?_)
                                                                                    · replace h := h.1 c210
                                                                                      refine aw_iconst 643 (v := 0) dL_refuses_642 kI_0 rfl ?_
                                                                                      refine aw_istore 645 (lv' := [(7, _), (6, _), (0, _), (1, _), (2, _), (3, _), (4, _), (5, _)]) dL_refuses_643 (ltb rfl) rfl rfl ?_
                                                                                      refine aw_iconst 646 (v := 0) dL_refuses_645 kI_0 rfl ?_
                                                                                      refine aw_istore 648 (lv' := [(8, _), (7, _), (6, _), (0, _), (1, _), (2, _), (3, _), (4, _), (5, _)]) dL_refuses_646 (ltb rfl) rfl rfl ?_
                                                                                      exact aw_pick [3, 4, 5, 7, 2, 1, 0] rfl (aw_L_refuses_648 hG  h)
                                                                                    · replace h := h.2 c210
                                                                                      refine aw_aload_n 583 dL_refuses_582 rfl 1 rfl rfl ?_
                                                                                      refine aw_iload 585 dL_refuses_583 0 rfl rfl ?_
                                                                                      obtain ⟨g211, h⟩ := h
                                                                                      obtain ⟨g212, h⟩ := h
                                                                                      refine aw_callSX (M' := M_L_tongueAt) 588 300 [.ref _, .int _] [] dL_refuses_585 lk_RL_300 ms_L_tongueAt mp_L_tongueAt (0, 39, 40, 15) [] rfl ⟨leb rfl, leb rfl⟩ rfl (leb rfl) g211 g212 rfl (am_L_tongueAt hG h) (kkI fun v214 X213 h => ?_) (kxN KrI.no)
                                                                                      refine aw_widen (cc' := cc + 135) (ss' := ss + 810) (Nat.le_refl _) (Nat.le_refl _) ?_
                                                                                      refine aw_bipush 590 (v := -2) dL_refuses_588 kB_m2 rfl ?_
                                                                                      refine aw_icmp_ne 642 593 dL_refuses_590 rfl rfl (fun c215 => ?_) (fun c215 => ?_)
                                                                                      · replace h := h.1 c215
                                                                                        refine aw_iconst 643 (v := 0) dL_refuses_642 kI_0 rfl ?_
                                                                                        refine aw_istore 645 (lv' := [(7, _), (6, _), (0, _), (1, _), (2, _), (3, _), (4, _), (5, _)]) dL_refuses_643 (ltb rfl) rfl rfl ?_
                                                                                        refine aw_iconst 646 (v := 0) dL_refuses_645 kI_0 rfl ?_
                                                                                        refine aw_istore 648 (lv' := [(8, _), (7, _), (6, _), (0, _), (1, _), (2, _), (3, _), (4, _), (5, _)]) dL_refuses_646 (ltb rfl) rfl rfl ?_
                                                                                        exact aw_pick [3, 4, 5, 7, 2, 1, 0] rfl (aw_L_refuses_648 hG  h)
                                                                                      · replace h := h.2 c215
                                                                                        refine aw_aload_n 594 dL_refuses_593 rfl 1 rfl rfl ?_
                                                                                        refine aw_iload_n 595 dL_refuses_594 rfl 4 rfl rfl ?_
                                                                                        refine aw_iconst 596 (v := 0) dL_refuses_595 kI_0 rfl ?_
                                                                                        obtain ⟨g216, h⟩ := h
                                                                                        obtain ⟨g217, h⟩ := h
                                                                                        refine aw_callSX (M' := M_L_leastAnnex) 599 266 [.ref _, .int _, .int _] [] dL_refuses_596 lk_RL_266 ms_L_leastAnnex mp_L_leastAnnex (0, 6, 7, 15) [(0, 6, 11, 19)] rfl ⟨leb rfl, leb rfl⟩ rfl (leb rfl) g216 g217 rfl (am_L_leastAnnex hG h) (kkI fun v219 X218 h => ?_) (kxN KrI.no)
                                                                                        refine aw_widen (cc' := cc + 139) (ss' := ss + 834) (Nat.le_refl _) (Nat.le_refl _) ?_
                                                                                        refine aw_bipush 601 (v := -2) dL_refuses_599 kB_m2 rfl ?_
                                                                                        refine aw_icmp_ne 642 604 dL_refuses_601 rfl rfl (fun c220 => ?_) (fun c220 => ?_)
                                                                                        · replace h := h.1 c220
                                                                                          refine aw_iconst 643 (v := 0) dL_refuses_642 kI_0 rfl ?_
                                                                                          refine aw_istore 645 (lv' := [(7, _), (6, _), (0, _), (1, _), (2, _), (3, _), (4, _), (5, _)]) dL_refuses_643 (ltb rfl) rfl rfl ?_
                                                                                          refine aw_iconst 646 (v := 0) dL_refuses_645 kI_0 rfl ?_
                                                                                          refine aw_istore 648 (lv' := [(8, _), (7, _), (6, _), (0, _), (1, _), (2, _), (3, _), (4, _), (5, _)]) dL_refuses_646 (ltb rfl) rfl rfl ?_
                                                                                          exact aw_pick [3, 4, 5, 7, 2, 1, 0] rfl (aw_L_refuses_648 hG  h)
                                                                                        · replace h := h.2 c220
                                                                                          refine aw_aload_n 605 dL_refuses_604 rfl 1 rfl rfl ?_
                                                                                          refine aw_iload_n 606 dL_refuses_605 rfl 4 rfl rfl ?_
                                                                                          obtain ⟨g221, h⟩ := h
                                                                                          obtain ⟨g222, h⟩ := h
                                                                                          refine aw_callSX (M' := M_L_longestSigh) 609 318 [.ref _, .int _] [] dL_refuses_606 lk_RL_318 ms_L_longestSigh mp_L_longestSigh (0, 5, 6, 15) [(0, 5, 10, 19)] rfl ⟨leb rfl, leb rfl⟩ rfl (leb rfl) g221 g222 rfl (am_L_longestSigh hG h) (kkI fun v224 X223 h => ?_) (kxN KrI.no)
                                                                                          refine aw_widen (cc' := cc + 141) (ss' := ss + 846) (Nat.le_refl _) (Nat.le_refl _) ?_
                                                                                          refine aw_bipush 611 (v := -2) dL_refuses_609 kB_m2 rfl ?_
                                                                                          refine aw_icmp_ne 642 614 dL_refuses_611 rfl rfl (fun c225 => ?_) (fun c225 => ?_)
                                                                                          · replace h := h.1 c225
                                                                                            refine aw_iconst 643 (v := 0) dL_refuses_642 kI_0 rfl ?_
                                                                                            refine aw_istore 645 (lv' := [(7, _), (6, _), (0, _), (1, _), (2, _), (3, _), (4, _), (5, _)]) dL_refuses_643 (ltb rfl) rfl rfl ?_
                                                                                            refine aw_iconst 646 (v := 0) dL_refuses_645 kI_0 rfl ?_
                                                                                            refine aw_istore 648 (lv' := [(8, _), (7, _), (6, _), (0, _), (1, _), (2, _), (3, _), (4, _), (5, _)]) dL_refuses_646 (ltb rfl) rfl rfl ?_
                                                                                            exact aw_pick [3, 4, 5, 7, 2, 1, 0] rfl (aw_L_refuses_648 hG  h)
                                                                                          · replace h := h.2 c225
                                                                                            refine aw_aload_n 615 dL_refuses_614 rfl 1 rfl rfl ?_
                                                                                            refine aw_iload 617 dL_refuses_615 0 rfl rfl ?_
                                                                                            obtain ⟨g226, h⟩ := h
                                                                                            obtain ⟨g227, h⟩ := h
                                                                                            refine aw_callSX (M' := M_L_nextClause) 620 298 [.ref _, .int _] [] dL_refuses_617 lk_RL_298 ms_L_nextClause mp_L_nextClause (0, 5, 6, 15) [(0, 5, 10, 19)] rfl ⟨leb rfl, leb rfl⟩ rfl (leb rfl) g226 g227 rfl (am_L_nextClause hG h) (kkI fun v229 X228 h => ?_) (kxN KrI.no)
                                                                                            refine aw_widen (cc' := cc + 143) (ss' := ss + 858) (Nat.le_refl _) (Nat.le_refl _) ?_
                                                                                            refine aw_bipush 622 (v := -2) dL_refuses_620 kB_m2 rfl ?_
                                                                                            refine aw_icmp_ne 642 625 dL_refuses_622 rfl rfl (fun c230 => ?_) (fun c230 => ?_)
                                                                                            · replace h := h.1 c230
                                                                                              refine aw_iconst 643 (v := 0) dL_refuses_642 kI_0 rfl ?_
                                                                                              refine aw_istore 645 (lv' := [(7, _), (6, _), (0, _), (1, _), (2, _), (3, _), (4, _), (5, _)]) dL_refuses_643 (ltb rfl) rfl rfl ?_
                                                                                              refine aw_iconst 646 (v := 0) dL_refuses_645 kI_0 rfl ?_
                                                                                              refine aw_istore 648 (lv' := [(8, _), (7, _), (6, _), (0, _), (1, _), (2, _), (3, _), (4, _), (5, _)]) dL_refuses_646 (ltb rfl) rfl rfl ?_
                                                                                              exact aw_pick [3, 4, 5, 7, 2, 1, 0] rfl (aw_L_refuses_648 hG  h)
                                                                                            · replace h := h.2 c230
                                                                                              refine aw_aload_n 626 dL_refuses_625 rfl 1 rfl rfl ?_
                                                                                              refine aw_iload 628 dL_refuses_626 0 rfl rfl ?_
                                                                                              obtain ⟨g231, h⟩ := h
                                                                                              obtain ⟨g232, h⟩ := h
                                                                                              refine aw_callSX (M' := M_L_meanFit) 631 306 [.ref _, .int _] [] dL_refuses_628 lk_RL_306 ms_L_meanFit mp_L_meanFit (0, 5, 6, 15) [] rfl ⟨leb rfl, leb rfl⟩ rfl (leb rfl) g231 g232 rfl (am_L_meanFit hG h) (kkD fun v234 X233 h => ?_) (kxN KrD.no)
                                                                                              refine aw_widen (cc' := cc + 144) (ss' := ss + 864) (Nat.le_refl _) (Nat.le_refl _) ?_
                                                                                              refine aw_ldc2d 634 (v := 13835058055282163712) dL_refuses_631 (tk5 (i := 189) (by decide +kernel) rfl) rfl ?_
                                                                                              refine aw_dcmp 635 dL_refuses_634 rfl ?_
                                                                                              refine aw_if_ne 642 638 dL_refuses_635 rfl rfl (fun c235 => ?_) (fun c235 => ?_)
                                                                                              · replace h := h.1 c235
                                                                                                refine aw_iconst 643 (v := 0) dL_refuses_642 kI_0 rfl ?_
                                                                                                refine aw_istore 645 (lv' := [(7, _), (6, _), (0, _), (1, _), (2, _), (3, _), (4, _), (5, _)]) dL_refuses_643 (ltb rfl) rfl rfl ?_
                                                                                                refine aw_iconst 646 (v := 0) dL_refuses_645 kI_0 rfl ?_
                                                                                                refine aw_istore 648 (lv' := [(8, _), (7, _), (6, _), (0, _), (1, _), (2, _), (3, _), (4, _), (5, _)]) dL_refuses_646 (ltb rfl) rfl rfl ?_
                                                                                                exact aw_pick [3, 4, 5, 7, 2, 1, 0] rfl (aw_L_refuses_648 hG  h)
                                                                                              · replace h := h.2 c235
                                                                                                refine aw_iconst 639 (v := 1) dL_refuses_638 kI_1 rfl ?_
                                                                                                refine aw_goto 643 dL_refuses_639 rfl ?_
                                                                                                refine aw_istore 645 (lv' := [(7, _), (6, _), (0, _), (1, _), (2, _), (3, _), (4, _), (5, _)]) dL_refuses_643 (ltb rfl) rfl rfl ?_
                                                                                                refine aw_iconst 646 (v := 0) dL_refuses_645 kI_0 rfl ?_
                                                                                                refine aw_istore 648 (lv' := [(8, _), (7, _), (6, _), (0, _), (1, _), (2, _), (3, _), (4, _), (5, _)]) dL_refuses_646 (ltb rfl) rfl rfl ?_
                                                                                                exact aw_pick [3, 4, 5, 7, 2, 1, 0] rfl (aw_L_refuses_648 hG  h)
set_option maxRecDepth 20000 in
theorem aw_L_refuses_53 {G : GG} (hG : G.1.stackTraces = false)  {l0 : Nat} {l1 : Int32} {l2 : Int32} {l3 : Int32} {l4 : Int32} {s0 : Int32} {cc : Nat} {ss : Nat} {X : XH} {K : Int32 → XH → Prop}  (h : w_L_refuses_53  l0 l1 l2 l3 l4 s0 cc ss X K) : AW G M_L_refuses 53 [(0, .ref l0), (1, .int l1), (2, .int l2), (3, .int l3), (4, .int l4)] [.int s0] X cc ss (KrI K) := by
  unfold w_L_refuses_53 at h
  refine aw_istore 55 (lv' := [(5, _), (0, _), (1, _), (2, _), (3, _), (4, _)]) dL_refuses_53 (ltb rfl) rfl rfl ?_
  refine aw_iload_n 56 dL_refuses_55 rfl 2 rfl rfl ?_
  refine aw_iconst 57 (v := 2) dL_refuses_56 kI_2 rfl ?_
  refine aw_irem 58 dL_refuses_57 (by decide) rfl ?_
  refine aw_if_ne 67 61 dL_refuses_58 rfl rfl (fun c1 => ?_) (fun c1 => ?_)
  · replace h := h.1 c1
    refine aw_iconst 68 (v := -1) dL_refuses_67 kI_m1 rfl ?_
    refine aw_iload_n 69 dL_refuses_68 rfl 2 rfl rfl ?_
    refine aw_isub 70 dL_refuses_69 rfl ?_
    exact aw_pick [1, 2, 3, 4, 5, 0] rfl (aw_L_refuses_70 hG  h)
  · replace h := h.2 c1
    refine aw_iconst 62 (v := 3) dL_refuses_61 kI_3 rfl ?_
    refine aw_iload_n 63 dL_refuses_62 rfl 2 rfl rfl ?_
    refine aw_iadd 64 dL_refuses_63 rfl ?_
    refine aw_goto 70 dL_refuses_64 rfl ?_
    exact aw_pick [1, 2, 3, 4, 5, 0] rfl (aw_L_refuses_70 hG  h)
set_option maxRecDepth 20000 in
theorem aw_L_refuses_36 {G : GG} (hG : G.1.stackTraces = false)  {l0 : Nat} {l1 : Int32} {l2 : Int32} {l3 : Int32} {s0 : Int32} {cc : Nat} {ss : Nat} {X : XH} {K : Int32 → XH → Prop}  (h : w_L_refuses_36  l0 l1 l2 l3 s0 cc ss X K) : AW G M_L_refuses 36 [(0, .ref l0), (1, .int l1), (2, .int l2), (3, .int l3)] [.int s0] X cc ss (KrI K) := by
  unfold w_L_refuses_36 at h
  refine aw_istore 38 (lv' := [(4, _), (0, _), (1, _), (2, _), (3, _)]) dL_refuses_36 (ltb rfl) rfl rfl ?_
  refine aw_iload_n 39 dL_refuses_38 rfl 2 rfl rfl ?_
  refine aw_iconst 40 (v := 2) dL_refuses_39 kI_2 rfl ?_
  refine aw_irem 41 dL_refuses_40 (by decide) rfl ?_
  refine aw_if_ne 50 44 dL_refuses_41 rfl rfl (fun c1 => ?_) (fun c1 => ?_)
  · replace h := h.1 c1
    refine aw_iconst 51 (v := -1) dL_refuses_50 kI_m1 rfl ?_
    refine aw_iload_n 52 dL_refuses_51 rfl 2 rfl rfl ?_
    refine aw_isub 53 dL_refuses_52 rfl ?_
    exact aw_pick [1, 2, 3, 4, 0] rfl (aw_L_refuses_53 hG  h)
  · replace h := h.2 c1
    refine aw_iconst 45 (v := 5) dL_refuses_44 kI_5 rfl ?_
    refine aw_iload_n 46 dL_refuses_45 rfl 2 rfl rfl ?_
    refine aw_iadd 47 dL_refuses_46 rfl ?_
    refine aw_goto 53 dL_refuses_47 rfl ?_
    exact aw_pick [1, 2, 3, 4, 0] rfl (aw_L_refuses_53 hG  h)
set_option maxRecDepth 20000 in
theorem aw_L_refuses_20 {G : GG} (hG : G.1.stackTraces = false)  {l0 : Nat} {l1 : Int32} {l2 : Int32} {s0 : Int32} {cc : Nat} {ss : Nat} {X : XH} {K : Int32 → XH → Prop}  (h : w_L_refuses_20  l0 l1 l2 s0 cc ss X K) : AW G M_L_refuses 20 [(0, .ref l0), (1, .int l1), (2, .int l2)] [.int s0] X cc ss (KrI K) := by
  unfold w_L_refuses_20 at h
  refine aw_istore_n 21 (lv' := [(3, _), (0, _), (1, _), (2, _)]) dL_refuses_20 rfl (ltb rfl) rfl rfl ?_
  refine aw_iload_n 22 dL_refuses_21 rfl 2 rfl rfl ?_
  refine aw_iconst 23 (v := 2) dL_refuses_22 kI_2 rfl ?_
  refine aw_irem 24 dL_refuses_23 (by decide) rfl ?_
  refine aw_if_ne 33 27 dL_refuses_24 rfl rfl (fun c1 => ?_) (fun c1 => ?_)
  · replace h := h.1 c1
    refine aw_iconst 34 (v := -1) dL_refuses_33 kI_m1 rfl ?_
    refine aw_iload_n 35 dL_refuses_34 rfl 2 rfl rfl ?_
    refine aw_isub 36 dL_refuses_35 rfl ?_
    exact aw_pick [1, 2, 3, 0] rfl (aw_L_refuses_36 hG  h)
  · replace h := h.2 c1
    refine aw_iconst 28 (v := 4) dL_refuses_27 kI_4 rfl ?_
    refine aw_iload_n 29 dL_refuses_28 rfl 2 rfl rfl ?_
    refine aw_iadd 30 dL_refuses_29 rfl ?_
    refine aw_goto 36 dL_refuses_30 rfl ?_
    exact aw_pick [1, 2, 3, 0] rfl (aw_L_refuses_36 hG  h)
set_option maxRecDepth 20000 in
theorem am_L_refuses {G : GG} (hG : G.1.stackTraces = false) {l0 : Nat} {l1 : Int32} {X : XH} {K : Int32 → XH → Prop} (h : w_L_refuses l0 l1 X K) : AM G M_L_refuses X [.ref l0, .int l1] (KrI K) := AM_of (by decide +kernel) rfl (leb rfl) hG (by
  show AW G M_L_refuses 0 [(0, .ref l0), (1, .int l1)] [] X 0 0 _
  unfold w_L_refuses at h
  refine aw_aload_n 1 dL_refuses_0 rfl 0 rfl rfl ?_
  obtain ⟨g3, h⟩ := h
  refine aw_callV (M' := M_X4_clauses) 4 191 4 l0 [] [] dL_refuses_1 lk_RL_191 mv_X4_clauses mp_X4_clauses rfl ⟨leb rfl, leb rfl⟩ rfl (ltb rfl) g3 rfl (leb rfl) (leb rfl) (leb rfl) rfl (am_X4_clauses hG h) (kkI fun v2 X1 h => ?_) (kxN KrI.no)
  refine aw_widen (cc' := 0) (ss' := 0) (leb rfl) (leb rfl) ?_
  refine aw_istore_n 5 (lv' := [(2, _), (0, _), (1, _)]) dL_refuses_4 rfl (ltb rfl) rfl rfl ?_
  refine aw_iload_n 6 dL_refuses_5 rfl 2 rfl rfl ?_
  refine aw_iconst 7 (v := 2) dL_refuses_6 kI_2 rfl ?_
  refine aw_irem 8 dL_refuses_7 (by decide) rfl ?_
  refine aw_if_ne 17 11 dL_refuses_8 rfl rfl (fun c4 => ?_) (fun c4 => ?_)
  · replace h := h.1 c4
    refine aw_iconst 18 (v := -1) dL_refuses_17 kI_m1 rfl ?_
    refine aw_iload_n 19 dL_refuses_18 rfl 2 rfl rfl ?_
    refine aw_isub 20 dL_refuses_19 rfl ?_
    exact aw_pick [1, 2, 0] rfl (aw_L_refuses_20 hG  h)
  · replace h := h.2 c4
    refine aw_iload_n 12 dL_refuses_11 rfl 0 rfl rfl ?_
    refine aw_iload_n 13 dL_refuses_12 rfl 2 rfl rfl ?_
    refine aw_iadd 14 dL_refuses_13 rfl ?_
    refine aw_goto 20 dL_refuses_14 rfl ?_
    exact aw_pick [1, 2, 0] rfl (aw_L_refuses_20 hG  h))
set_option maxRecDepth 20000 in
theorem am_X4_chain {G : GG} (hG : G.1.stackTraces = false) {l0 : Int64} {l2 : Int64} {X : XH} {K : Int64 → XH → Prop} (h : w_X4_chain l0 l2 X K) : AM G M_X4_chain X [.long l0, .long l2] (KrL K) := AM_of (by decide +kernel) rfl (leb rfl) hG (by
  show AW G M_X4_chain 0 [(0, .long l0), (2, .long l2)] [] X 0 0 _
  unfold w_X4_chain at h
  refine aw_ldc2 3 (v := 31) dX4_chain_0 (tk2 (i := 6) (by decide +kernel) rfl) rfl ?_
  refine aw_lload_n 4 dX4_chain_3 rfl 0 rfl rfl ?_
  refine aw_lmul 5 dX4_chain_4 rfl ?_
  refine aw_lload_n 6 dX4_chain_5 rfl 1 rfl rfl ?_
  refine aw_ladd 7 dX4_chain_6 rfl ?_
  exact aw_lreturn dX4_chain_7 rfl (leb rfl) (leb rfl) ⟨_, rfl, h⟩)
set_option maxRecDepth 20000 in
theorem am_X4_chainFlag {G : GG} (hG : G.1.stackTraces = false) {l0 : Int64} {l2 : Int32} {X : XH} {K : Int64 → XH → Prop} (h : w_X4_chainFlag l0 l2 X K) : AM G M_X4_chainFlag X [.long l0, .int l2] (KrL K) := AM_of (by decide +kernel) rfl (leb rfl) hG (by
  show AW G M_X4_chainFlag 0 [(0, .long l0), (2, .int l2)] [] X 0 0 _
  unfold w_X4_chainFlag at h
  refine aw_lload_n 1 dX4_chainFlag_0 rfl 0 rfl rfl ?_
  refine aw_iload_n 2 dX4_chainFlag_1 rfl 1 rfl rfl ?_
  refine aw_if_eq 9 5 dX4_chainFlag_2 rfl rfl (fun c1 => ?_) (fun c1 => ?_)
  · replace h := h.1 c1
    refine aw_lconst 10 (v := 0) dX4_chainFlag_9 kL_0 rfl ?_
    refine aw_callS (M' := M_X4_chain) 13 367 [.long _, .long _] [] dX4_chainFlag_10 lk_RX4_367 ms_X4_chain mp_X4_chain rfl ⟨leb rfl, leb rfl⟩ rfl (leb rfl) (leb rfl) (leb rfl) rfl (am_X4_chain hG h) (kkL fun v3 X2 h => ?_) (kxN KrL.no)
    refine aw_widen (cc' := 0) (ss' := 0) (leb rfl) (leb rfl) ?_
    exact aw_lreturn dX4_chainFlag_13 rfl (leb rfl) (leb rfl) ⟨_, rfl, h⟩
  · replace h := h.2 c1
    refine aw_lconst 6 (v := 1) dX4_chainFlag_5 kL_1 rfl ?_
    refine aw_goto 10 dX4_chainFlag_6 rfl ?_
    refine aw_callS (M' := M_X4_chain) 13 367 [.long _, .long _] [] dX4_chainFlag_10 lk_RX4_367 ms_X4_chain mp_X4_chain rfl ⟨leb rfl, leb rfl⟩ rfl (leb rfl) (leb rfl) (leb rfl) rfl (am_X4_chain hG h) (kkL fun v5 X4 h => ?_) (kxN KrL.no)
    refine aw_widen (cc' := 0) (ss' := 0) (leb rfl) (leb rfl) ?_
    exact aw_lreturn dX4_chainFlag_13 rfl (leb rfl) (leb rfl) ⟨_, rfl, h⟩)
set_option maxRecDepth 20000 in
theorem am_X4_chainTranslation {G : GG} (hG : G.1.stackTraces = false) {l0 : Nat} {l1 : Int64} {l3 : Int32} {l4 : Int32} {X : XH} {K : Int64 → XH → Prop} (h : w_X4_chainTranslation l0 l1 l3 l4 X K) : AM G M_X4_chainTranslation X [.ref l0, .long l1, .int l3, .int l4] (KrL K) := AM_of (by decide +kernel) rfl (leb rfl) hG (by
  show AW G M_X4_chainTranslation 0 [(0, .ref l0), (1, .long l1), (3, .int l3), (4, .int l4)] [] X 0 0 _
  unfold w_X4_chainTranslation at h
  refine aw_lload_n 1 dX4_chainTranslation_0 rfl 1 rfl rfl ?_
  refine aw_aload_n 2 dX4_chainTranslation_1 rfl 0 rfl rfl ?_
  obtain ⟨g1, h⟩ := h
  obtain ⟨g2, h⟩ := h
  refine aw_getR 5 dX4_chainTranslation_2 fl_RX4_10 rfl g1 g2 rfl ?_
  refine aw_iload_n 6 dX4_chainTranslation_5 rfl 2 rfl rfl ?_
  refine aw_iload 8 dX4_chainTranslation_6 3 rfl rfl ?_
  obtain ⟨g5, h⟩ := h
  refine aw_callV (M' := M_X3_framesAt) 11 139 3 (hR X l0 0) [.int _, .int _] [.long _] dX4_chainTranslation_8 lk_RX4_139 mv_X3_framesAt mp_X3_framesAt rfl ⟨leb rfl, leb rfl⟩ rfl (ltb rfl) g5 rfl (leb rfl) (leb rfl) (leb rfl) rfl (am_X3_framesAt hG h) (kkI fun v4 X3 h => ?_) (kxN KrI.no)
  refine aw_widen (cc' := 0) (ss' := 0) (leb rfl) (leb rfl) ?_
  refine aw_i2l 12 dX4_chainTranslation_11 rfl ?_
  refine aw_callS (M' := M_X4_chain) 15 367 [.long _, .long _] [] dX4_chainTranslation_12 lk_RX4_367 ms_X4_chain mp_X4_chain rfl ⟨leb rfl, leb rfl⟩ rfl (leb rfl) (leb rfl) (leb rfl) rfl (am_X4_chain hG h) (kkL fun v7 X6 h => ?_) (kxN KrL.no)
  refine aw_widen (cc' := 0) (ss' := 0) (leb rfl) (leb rfl) ?_
  refine aw_lstore 17 (lv' := [(5, _), (0, _), (1, _), (3, _), (4, _)]) dX4_chainTranslation_15 (ltb rfl) rfl rfl ?_
  refine aw_lload 19 dX4_chainTranslation_17 0 rfl rfl ?_
  refine aw_aload_n 20 dX4_chainTranslation_19 rfl 1 rfl rfl ?_
  obtain ⟨g8, h⟩ := h
  obtain ⟨g9, h⟩ := h
  refine aw_getR 23 dX4_chainTranslation_20 fl_RX4_10 rfl g8 g9 rfl ?_
  refine aw_iload_n 24 dX4_chainTranslation_23 rfl 3 rfl rfl ?_
  refine aw_iload 26 dX4_chainTranslation_24 4 rfl rfl ?_
  obtain ⟨g12, h⟩ := h
  refine aw_callV (M' := M_X3_annexedAt) 29 142 3 (hR X6 l0 0) [.int _, .int _] [.long _] dX4_chainTranslation_26 lk_RX4_142 mv_X3_annexedAt mp_X3_annexedAt rfl ⟨leb rfl, leb rfl⟩ rfl (ltb rfl) g12 rfl (leb rfl) (leb rfl) (leb rfl) rfl (am_X3_annexedAt hG h) (kkI fun v11 X10 h => ?_) (kxN KrI.no)
  refine aw_widen (cc' := 0) (ss' := 0) (leb rfl) (leb rfl) ?_
  refine aw_i2l 30 dX4_chainTranslation_29 rfl ?_
  refine aw_callS (M' := M_X4_chain) 33 367 [.long _, .long _] [] dX4_chainTranslation_30 lk_RX4_367 ms_X4_chain mp_X4_chain rfl ⟨leb rfl, leb rfl⟩ rfl (leb rfl) (leb rfl) (leb rfl) rfl (am_X4_chain hG h) (kkL fun v14 X13 h => ?_) (kxN KrL.no)
  refine aw_widen (cc' := 0) (ss' := 0) (leb rfl) (leb rfl) ?_
  refine aw_lstore 35 (lv' := [(5, _), (0, _), (1, _), (3, _), (4, _)]) dX4_chainTranslation_33 (ltb rfl) rfl rfl ?_
  refine aw_lload 37 dX4_chainTranslation_35 0 rfl rfl ?_
  refine aw_aload_n 38 dX4_chainTranslation_37 rfl 1 rfl rfl ?_
  obtain ⟨g15, h⟩ := h
  obtain ⟨g16, h⟩ := h
  refine aw_getR 41 dX4_chainTranslation_38 fl_RX4_10 rfl g15 g16 rfl ?_
  refine aw_iload_n 42 dX4_chainTranslation_41 rfl 3 rfl rfl ?_
  refine aw_iload 44 dX4_chainTranslation_42 4 rfl rfl ?_
  obtain ⟨g19, h⟩ := h
  refine aw_callV (M' := M_X3_isTaken) 47 119 3 (hR X13 l0 0) [.int _, .int _] [.long _] dX4_chainTranslation_44 lk_RX4_119 mv_X3_isTaken mp_X3_isTaken rfl ⟨leb rfl, leb rfl⟩ rfl (ltb rfl) g19 rfl (leb rfl) (leb rfl) (leb rfl) rfl (am_X3_isTaken hG h) (kkI fun v18 X17 h => ?_) (kxN KrI.no)
  refine aw_widen (cc' := 0) (ss' := 0) (leb rfl) (leb rfl) ?_
  refine aw_callS (M' := M_X4_chainFlag) 50 397 [.long _, .int _] [] dX4_chainTranslation_47 lk_RX4_397 ms_X4_chainFlag mp_X4_chainFlag rfl ⟨leb rfl, leb rfl⟩ rfl (leb rfl) (leb rfl) (leb rfl) rfl (am_X4_chainFlag hG h) (kkL fun v21 X20 h => ?_) (kxN KrL.no)
  refine aw_widen (cc' := 0) (ss' := 0) (leb rfl) (leb rfl) ?_
  refine aw_lstore 52 (lv' := [(5, _), (0, _), (1, _), (3, _), (4, _)]) dX4_chainTranslation_50 (ltb rfl) rfl rfl ?_
  refine aw_lload 54 dX4_chainTranslation_52 0 rfl rfl ?_
  refine aw_aload_n 55 dX4_chainTranslation_54 rfl 1 rfl rfl ?_
  obtain ⟨g22, h⟩ := h
  obtain ⟨g23, h⟩ := h
  refine aw_getR 58 dX4_chainTranslation_55 fl_RX4_10 rfl g22 g23 rfl ?_
  refine aw_iload_n 59 dX4_chainTranslation_58 rfl 3 rfl rfl ?_
  refine aw_iload 61 dX4_chainTranslation_59 4 rfl rfl ?_
  obtain ⟨g26, h⟩ := h
  refine aw_callV (M' := M_X3_reasonAt) 64 164 3 (hR X20 l0 0) [.int _, .int _] [.long _] dX4_chainTranslation_61 lk_RX4_164 mv_X3_reasonAt mp_X3_reasonAt rfl ⟨leb rfl, leb rfl⟩ rfl (ltb rfl) g26 rfl (leb rfl) (leb rfl) (leb rfl) rfl (am_X3_reasonAt hG h) (kkI fun v25 X24 h => ?_) (kxN KrI.no)
  refine aw_widen (cc' := 0) (ss' := 0) (leb rfl) (leb rfl) ?_
  refine aw_i2l 65 dX4_chainTranslation_64 rfl ?_
  refine aw_callS (M' := M_X4_chain) 68 367 [.long _, .long _] [] dX4_chainTranslation_65 lk_RX4_367 ms_X4_chain mp_X4_chain rfl ⟨leb rfl, leb rfl⟩ rfl (leb rfl) (leb rfl) (leb rfl) rfl (am_X4_chain hG h) (kkL fun v28 X27 h => ?_) (kxN KrL.no)
  refine aw_widen (cc' := 0) (ss' := 0) (leb rfl) (leb rfl) ?_
  refine aw_lstore 70 (lv' := [(5, _), (0, _), (1, _), (3, _), (4, _)]) dX4_chainTranslation_68 (ltb rfl) rfl rfl ?_
  refine aw_aload_n 71 dX4_chainTranslation_70 rfl 1 rfl rfl ?_
  obtain ⟨g29, h⟩ := h
  obtain ⟨g30, h⟩ := h
  refine aw_getR 74 dX4_chainTranslation_71 fl_RX4_10 rfl g29 g30 rfl ?_
  refine aw_iload_n 75 dX4_chainTranslation_74 rfl 3 rfl rfl ?_
  refine aw_iload 77 dX4_chainTranslation_75 4 rfl rfl ?_
  obtain ⟨g33, h⟩ := h
  refine aw_callV (M' := M_X3_hasTranslation) 80 283 3 (hR X27 l0 0) [.int _, .int _] [] dX4_chainTranslation_77 lk_RX4_283 mv_X3_hasTranslation mp_X3_hasTranslation rfl ⟨leb rfl, leb rfl⟩ rfl (ltb rfl) g33 rfl (leb rfl) (leb rfl) (leb rfl) rfl (am_X3_hasTranslation hG h) (kkI fun v32 X31 h => ?_) (kxN KrI.no)
  refine aw_widen (cc' := 0) (ss' := 0) (leb rfl) (leb rfl) ?_
  refine aw_if_eq 139 83 dX4_chainTranslation_80 rfl rfl (fun c34 => ?_) (fun c34 => ?_)
  · replace h := h.1 c34
    refine aw_lload 141 dX4_chainTranslation_139 0 rfl rfl ?_
    exact aw_lreturn dX4_chainTranslation_141 rfl (leb rfl) (leb rfl) ⟨_, rfl, h⟩
  · replace h := h.2 c34
    refine aw_lload 85 dX4_chainTranslation_83 0 rfl rfl ?_
    refine aw_aload_n 86 dX4_chainTranslation_85 rfl 1 rfl rfl ?_
    obtain ⟨g35, h⟩ := h
    obtain ⟨g36, h⟩ := h
    refine aw_getR 89 dX4_chainTranslation_86 fl_RX4_10 rfl g35 g36 rfl ?_
    refine aw_iload_n 90 dX4_chainTranslation_89 rfl 3 rfl rfl ?_
    refine aw_iload 92 dX4_chainTranslation_90 4 rfl rfl ?_
    obtain ⟨g39, h⟩ := h
    refine aw_callV (M' := M_X3_roomAt) 95 129 3 (hR X31 l0 0) [.int _, .int _] [.long _] dX4_chainTranslation_92 lk_RX4_129 mv_X3_roomAt mp_X3_roomAt rfl ⟨leb rfl, leb rfl⟩ rfl (ltb rfl) g39 rfl (leb rfl) (leb rfl) (leb rfl) rfl (am_X3_roomAt hG h) (kkI fun v38 X37 h => ?_) (kxN KrI.no)
    refine aw_widen (cc' := 0) (ss' := 0) (leb rfl) (leb rfl) ?_
    refine aw_i2l 96 dX4_chainTranslation_95 rfl ?_
    refine aw_callS (M' := M_X4_chain) 99 367 [.long _, .long _] [] dX4_chainTranslation_96 lk_RX4_367 ms_X4_chain mp_X4_chain rfl ⟨leb rfl, leb rfl⟩ rfl (leb rfl) (leb rfl) (leb rfl) rfl (am_X4_chain hG h) (kkL fun v41 X40 h => ?_) (kxN KrL.no)
    refine aw_widen (cc' := 0) (ss' := 0) (leb rfl) (leb rfl) ?_
    refine aw_lstore 101 (lv' := [(5, _), (0, _), (1, _), (3, _), (4, _)]) dX4_chainTranslation_99 (ltb rfl) rfl rfl ?_
    refine aw_lload 103 dX4_chainTranslation_101 0 rfl rfl ?_
    refine aw_aload_n 104 dX4_chainTranslation_103 rfl 1 rfl rfl ?_
    obtain ⟨g42, h⟩ := h
    obtain ⟨g43, h⟩ := h
    refine aw_getR 107 dX4_chainTranslation_104 fl_RX4_10 rfl g42 g43 rfl ?_
    refine aw_iload_n 108 dX4_chainTranslation_107 rfl 3 rfl rfl ?_
    refine aw_iload 110 dX4_chainTranslation_108 4 rfl rfl ?_
    obtain ⟨g46, h⟩ := h
    refine aw_callV (M' := M_X3_hundredthsAt) 113 292 3 (hR X40 l0 0) [.int _, .int _] [.long _] dX4_chainTranslation_110 lk_RX4_292 mv_X3_hundredthsAt mp_X3_hundredthsAt rfl ⟨leb rfl, leb rfl⟩ rfl (ltb rfl) g46 rfl (leb rfl) (leb rfl) (leb rfl) rfl (am_X3_hundredthsAt hG h) (kkI fun v45 X44 h => ?_) (kxN KrI.no)
    refine aw_widen (cc' := 0) (ss' := 0) (leb rfl) (leb rfl) ?_
    refine aw_i2l 114 dX4_chainTranslation_113 rfl ?_
    refine aw_callS (M' := M_X4_chain) 117 367 [.long _, .long _] [] dX4_chainTranslation_114 lk_RX4_367 ms_X4_chain mp_X4_chain rfl ⟨leb rfl, leb rfl⟩ rfl (leb rfl) (leb rfl) (leb rfl) rfl (am_X4_chain hG h) (kkL fun v48 X47 h => ?_) (kxN KrL.no)
    refine aw_widen (cc' := 0) (ss' := 0) (leb rfl) (leb rfl) ?_
    refine aw_lstore 119 (lv' := [(5, _), (0, _), (1, _), (3, _), (4, _)]) dX4_chainTranslation_117 (ltb rfl) rfl rfl ?_
    refine aw_lload 121 dX4_chainTranslation_119 0 rfl rfl ?_
    refine aw_aload_n 122 dX4_chainTranslation_121 rfl 1 rfl rfl ?_
    obtain ⟨g49, h⟩ := h
    obtain ⟨g50, h⟩ := h
    refine aw_getR 125 dX4_chainTranslation_122 fl_RX4_10 rfl g49 g50 rfl ?_
    refine aw_iload_n 126 dX4_chainTranslation_125 rfl 3 rfl rfl ?_
    refine aw_iload 128 dX4_chainTranslation_126 4 rfl rfl ?_
    obtain ⟨g53, h⟩ := h
    refine aw_callV (M' := M_X3_leastAnnexAt) 131 340 3 (hR X47 l0 0) [.int _, .int _] [.long _] dX4_chainTranslation_128 lk_RX4_340 mv_X3_leastAnnexAt mp_X3_leastAnnexAt rfl ⟨leb rfl, leb rfl⟩ rfl (ltb rfl) g53 rfl (leb rfl) (leb rfl) (leb rfl) rfl (am_X3_leastAnnexAt hG h) (kkI fun v52 X51 h => ?_) (kxN KrI.no)
    refine aw_widen (cc' := 0) (ss' := 0) (leb rfl) (leb rfl) ?_
    refine aw_iconst 132 (v := 1) dX4_chainTranslation_131 kI_1 rfl ?_
    refine aw_iadd 133 dX4_chainTranslation_132 rfl ?_
    refine aw_i2l 134 dX4_chainTranslation_133 rfl ?_
    refine aw_callS (M' := M_X4_chain) 137 367 [.long _, .long _] [] dX4_chainTranslation_134 lk_RX4_367 ms_X4_chain mp_X4_chain rfl ⟨leb rfl, leb rfl⟩ rfl (leb rfl) (leb rfl) (leb rfl) rfl (am_X4_chain hG h) (kkL fun v55 X54 h => ?_) (kxN KrL.no)
    refine aw_widen (cc' := 0) (ss' := 0) (leb rfl) (leb rfl) ?_
    refine aw_lstore 139 (lv' := [(5, _), (0, _), (1, _), (3, _), (4, _)]) dX4_chainTranslation_137 (ltb rfl) rfl rfl ?_
    refine aw_lload 141 dX4_chainTranslation_139 0 rfl rfl ?_
    exact aw_lreturn dX4_chainTranslation_141 rfl (leb rfl) (leb rfl) ⟨_, rfl, h⟩)
end XWK8
