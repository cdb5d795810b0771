/-! the walks of methods, as predicates -/
section XWK6
set_option maxRecDepth 20000 in
theorem aw_L_hangs_615 {G : GG} (hG : G.1.stackTraces = false) {P84 : Nat → Int32 → Int32 → Int32 → Nat → Int32 → Nat → Nat → XH → Prop} {P115 : Nat → Int32 → Int32 → Int32 → Nat → Int32 → Int32 → Int32 → Int32 → Int32 → Int32 → Int32 → Int32 → Nat → Nat → XH → Prop} {l0 : Nat} {l1 : Int32} {l2 : Int32} {l3 : Int32} {l4 : Nat} {l5 : Int32} {l6 : Int32} {l7 : Int32} {l8 : Int32} {l9 : Int32} {l10 : Int32} {l12 : Int32} {s0 : Int32} {s1 : Int32} {cc : Nat} {ss : Nat} {X : XH} {K : Int32 → XH → Prop} (hO84 : ∀ (l0 : Nat) (l1 : Int32) (l2 : Int32) (l3 : Int32) (l4 : Nat) (l5 : Int32) (cc : Nat) (ss : Nat) (X : XH), P84 l0 l1 l2 l3 l4 l5 cc ss X → AW G M_L_hangs 84 [(0, .ref l0), (1, .int l1), (2, .int l2), (3, .int l3), (4, .ref l4), (5, .int l5)] [] X cc ss (KrI K)) (hO115 : ∀ (l0 : Nat) (l1 : Int32) (l2 : Int32) (l3 : Int32) (l4 : Nat) (l5 : Int32) (l6 : Int32) (l7 : Int32) (l8 : Int32) (l9 : Int32) (l10 : Int32) (l11 : Int32) (l12 : Int32) (cc : Nat) (ss : Nat) (X : XH), P115 l0 l1 l2 l3 l4 l5 l6 l7 l8 l9 l10 l11 l12 cc ss X → AW G M_L_hangs 115 [(0, .ref l0), (1, .int l1), (2, .int l2), (3, .int l3), (4, .ref l4), (5, .int l5), (6, .int l6), (7, .int l7), (8, .int l8), (9, .int l9), (10, .int l10), (11, .int l11), (12, .int l12)] [] X cc ss (KrI K)) (h : w_L_hangs_615 P84 P115 l0 l1 l2 l3 l4 l5 l6 l7 l8 l9 l10 l12 s0 s1 cc ss X K) : AW G M_L_hangs 615 [(0, .ref l0), (1, .int l1), (2, .int l2), (3, .int l3), (4, .ref l4), (5, .int l5), (6, .int l6), (7, .int l7), (8, .int l8), (9, .int l9), (10, .int l10), (12, .int l12)] [.int s1, .int s0] X cc ss (KrI K) := by
  unfold w_L_hangs_615 at h
  refine aw_iadd 616 dL_hangs_615 rfl ?_
  refine aw_istore 618 (lv' := [(11, _), (0, _), (1, _), (2, _), (3, _), (4, _), (5, _), (6, _), (7, _), (8, _), (9, _), (10, _), (12, _)]) dL_hangs_616 (ltb rfl) rfl rfl ?_
  refine aw_aload 620 dL_hangs_618 5 rfl rfl ?_
  refine aw_aload_n 621 dL_hangs_620 rfl 1 rfl rfl ?_
  refine aw_iload 623 dL_hangs_621 12 rfl rfl ?_
  obtain ⟨g1, h⟩ := h
  obtain ⟨g2, h⟩ := h
  refine aw_callSX (M' := M_L_clauseOf) 626 255 [.ref _, .int _] [.ref _] dL_hangs_623 lk_RL_255 ms_L_clauseOf mp_L_clauseOf (0, 32, 33, 15) [] rfl ⟨leb rfl, leb rfl⟩ rfl (leb rfl) g1 g2 rfl (am_L_clauseOf hG h) (kkI fun v4 X3 h => ?_) (kxN KrI.no)
  refine aw_widen (cc' := cc + 4) (ss' := ss + 24) (Nat.le_refl _) (Nat.le_refl _) ?_
  refine aw_iconst 627 (v := 4) dL_hangs_626 kI_4 rfl ?_
  refine aw_irem 628 dL_hangs_627 (by decide) rfl ?_
  refine aw_dup2 629 dL_hangs_628 rfl rfl rfl ?_
  obtain ⟨g5, h⟩ := h
  obtain ⟨g6, h⟩ := h
  refine aw_iaload 630 dL_hangs_629 g5 g6 rfl ?_
  refine aw_iload 632 dL_hangs_630 6 rfl rfl ?_
  refine aw_if_ne 639 635 dL_hangs_632 rfl rfl (fun c7 => ?_) (fun c7 => ?_)
  · replace h := h.1 c7
    refine aw_iconst 640 (v := 0) dL_hangs_639 kI_0 rfl ?_
    refine aw_iadd 641 dL_hangs_640 rfl ?_
    refine aw_iastore 642 dL_hangs_641 g5 g6 rfl ?_
    refine aw_iinc 645 (v := 1) (lv' := [(12, _), (11, _), (0, _), (1, _), (2, _), (3, _), (4, _), (5, _), (6, _), (7, _), (8, _), (9, _), (10, _)]) dL_hangs_642 12 rfl kI_1 (ltb rfl) rfl rfl ?_
    refine aw_goto 115 dL_hangs_645 rfl ?_
    exact aw_pick [2, 3, 4, 5, 6, 7, 8, 9, 10, 11, 12, 1, 0] rfl (hO115 _ _ _ _ _ _ _ _ _ _ _ _ _ _ _ _ h)
  · replace h := h.2 c7
    refine aw_iconst 636 (v := 1) dL_hangs_635 kI_1 rfl ?_
    refine aw_goto 640 dL_hangs_636 rfl ?_
    refine aw_iadd 641 dL_hangs_640 rfl ?_
    refine aw_iastore 642 dL_hangs_641 g5 g6 rfl ?_
    refine aw_iinc 645 (v := 1) (lv' := [(12, _), (11, _), (0, _), (1, _), (2, _), (3, _), (4, _), (5, _), (6, _), (7, _), (8, _), (9, _), (10, _)]) dL_hangs_642 12 rfl kI_1 (ltb rfl) rfl rfl ?_
    refine aw_goto 115 dL_hangs_645 rfl ?_
    exact aw_pick [2, 3, 4, 5, 6, 7, 8, 9, 10, 11, 12, 1, 0] rfl (hO115 _ _ _ _ _ _ _ _ _ _ _ _ _ _ _ _ h)
set_option maxRecDepth 20000 in
theorem aw_L_hangs_596 {G : GG} (hG : G.1.stackTraces = false) {P84 : Nat → Int32 → Int32 → Int32 → Nat → Int32 → Nat → Nat → XH → Prop} {P115 : Nat → Int32 → Int32 → Int32 → Nat → Int32 → Int32 → Int32 → Int32 → Int32 → Int32 → Int32 → Int32 → Nat → Nat → XH → Prop} {l0 : Nat} {l1 : Int32} {l2 : Int32} {l3 : Int32} {l4 : Nat} {l5 : Int32} {l6 : Int32} {l7 : Int32} {l8 : Int32} {l10 : Int32} {l11 : Int32} {l12 : Int32} {l14 : Int32} {l15 : Int32} {l18 : Int32} {s0 : Int32} {s1 : Int32} {cc : Nat} {ss : Nat} {X : XH} {K : Int32 → XH → Prop} (hO84 : ∀ (l0 : Nat) (l1 : Int32) (l2 : Int32) (l3 : Int32) (l4 : Nat) (l5 : Int32) (cc : Nat) (ss : Nat) (X : XH), P84 l0 l1 l2 l3 l4 l5 cc ss X → AW G M_L_hangs 84 [(0, .ref l0), (1, .int l1), (2, .int l2), (3, .int l3), (4, .ref l4), (5, .int l5)] [] X cc ss (KrI K)) (hO115 : ∀ (l0 : Nat) (l1 : Int32) (l2 : Int32) (l3 : Int32) (l4 : Nat) (l5 : Int32) (l6 : Int32) (l7 : Int32) (l8 : Int32) (l9 : Int32) (l10 : Int32) (l11 : Int32) (l12 : Int32) (cc : Nat) (ss : Nat) (X : XH), P115 l0 l1 l2 l3 l4 l5 l6 l7 l8 l9 l10 l11 l12 cc ss X → AW G M_L_hangs 115 [(0, .ref l0), (1, .int l1), (2, .int l2), (3, .int l3), (4, .ref l4), (5, .int l5), (6, .int l6), (7, .int l7), (8, .int l8), (9, .int l9), (10, .int l10), (11, .int l11), (12, .int l12)] [] X cc ss (KrI K)) (h : w_L_hangs_596 P84 P115 l0 l1 l2 l3 l4 l5 l6 l7 l8 l10 l11 l12 l14 l15 l18 s0 s1 cc ss X K) : AW G M_L_hangs 596 [(0, .ref l0), (1, .int l1), (2, .int l2), (3, .int l3), (4, .ref l4), (5, .int l5), (6, .int l6), (7, .int l7), (8, .int l8), (10, .int l10), (11, .int l11), (12, .int l12), (14, .int l14), (15, .int l15), (18, .int l18)] [.int s1, .int s0] X cc ss (KrI K) := by
  unfold w_L_hangs_596 at h
  refine aw_iadd 597 dL_hangs_596 rfl ?_
  refine aw_istore 599 (lv' := [(9, _), (0, _), (1, _), (2, _), (3, _), (4, _), (5, _), (6, _), (7, _), (8, _), (10, _), (11, _), (12, _), (14, _), (15, _), (18, _)]) dL_hangs_597 (ltb rfl) rfl rfl ?_
  refine aw_iload 601 dL_hangs_599 11 rfl rfl ?_
  refine aw_iload 603 dL_hangs_601 15 rfl rfl ?_
  refine aw_if_lt 614 606 dL_hangs_603 rfl rfl (fun c1 => ?_) (fun c1 => ?_)
  · replace h := h.1 c1
    refine aw_iconst 615 (v := 0) dL_hangs_614 kI_0 rfl ?_
    exact aw_pick [1, 2, 3, 4, 5, 6, 7, 8, 9, 0, 10, 12] rfl (aw_L_hangs_615 hG hO84 hO115 h)
  · replace h := h.2 c1
    refine aw_iload 608 dL_hangs_606 14 rfl rfl ?_
    refine aw_iload 610 dL_hangs_608 13 rfl rfl ?_
    refine aw_iadd 611 dL_hangs_610 rfl ?_
    refine aw_goto 615 dL_hangs_611 rfl ?_
    exact aw_pick [1, 2, 3, 4, 5, 6, 7, 8, 9, 0, 10, 12] rfl (aw_L_hangs_615 hG hO84 hO115 h)
set_option maxRecDepth 20000 in
theorem aw_L_hangs_580 {G : GG} (hG : G.1.stackTraces = false) {P84 : Nat → Int32 → Int32 → Int32 → Nat → Int32 → Nat → Nat → XH → Prop} {P115 : Nat → Int32 → Int32 → Int32 → Nat → Int32 → Int32 → Int32 → Int32 → Int32 → Int32 → Int32 → Int32 → Nat → Nat → XH → Prop} {l0 : Nat} {l1 : Int32} {l2 : Int32} {l3 : Int32} {l4 : Nat} {l5 : Int32} {l6 : Int32} {l7 : Int32} {l9 : Int32} {l10 : Int32} {l11 : Int32} {l12 : Int32} {l14 : Int32} {l15 : Int32} {l18 : Int32} {s0 : Int32} {cc : Nat} {ss : Nat} {X : XH} {K : Int32 → XH → Prop} (hO84 : ∀ (l0 : Nat) (l1 : Int32) (l2 : Int32) (l3 : Int32) (l4 : Nat) (l5 : Int32) (cc : Nat) (ss : Nat) (X : XH), P84 l0 l1 l2 l3 l4 l5 cc ss X → AW G M_L_hangs 84 [(0, .ref l0), (1, .int l1), (2, .int l2), (3, .int l3), (4, .ref l4), (5, .int l5)] [] X cc ss (KrI K)) (hO115 : ∀ (l0 : Nat) (l1 : Int32) (l2 : Int32) (l3 : Int32) (l4 : Nat) (l5 : Int32) (l6 : Int32) (l7 : Int32) (l8 : Int32) (l9 : Int32) (l10 : Int32) (l11 : Int32) (l12 : Int32) (cc : Nat) (ss : Nat) (X : XH), P115 l0 l1 l2 l3 l4 l5 l6 l7 l8 l9 l10 l11 l12 cc ss X → AW G M_L_hangs 115 [(0, .ref l0), (1, .int l1), (2, .int l2), (3, .int l3), (4, .ref l4), (5, .int l5), (6, .int l6), (7, .int l7), (8, .int l8), (9, .int l9), (10, .int l10), (11, .int l11), (12, .int l12)] [] X cc ss (KrI K)) (h : w_L_hangs_580 P84 P115 l0 l1 l2 l3 l4 l5 l6 l7 l9 l10 l11 l12 l14 l15 l18 s0 cc ss X K) : AW G M_L_hangs 580 [(0, .ref l0), (1, .int l1), (2, .int l2), (3, .int l3), (4, .ref l4), (5, .int l5), (6, .int l6), (7, .int l7), (9, .int l9), (10, .int l10), (11, .int l11), (12, .int l12), (14, .int l14), (15, .int l15), (18, .int l18)] [.int s0] X cc ss (KrI K) := by
  unfold w_L_hangs_580 at h
  refine aw_iconst 581 (v := 0) dL_hangs_580 kI_0 rfl ?_
  refine aw_iadd 582 dL_hangs_581 rfl ?_
  refine aw_istore 584 (lv' := [(8, _), (0, _), (1, _), (2, _), (3, _), (4, _), (5, _), (6, _), (7, _), (9, _), (10, _), (11, _), (12, _), (14, _), (15, _), (18, _)]) dL_hangs_582 (ltb rfl) rfl rfl ?_
  refine aw_iload 586 dL_hangs_584 9 rfl rfl ?_
  refine aw_iload 588 dL_hangs_586 15 rfl rfl ?_
  refine aw_if_lt 595 591 dL_hangs_588 rfl rfl (fun c1 => ?_) (fun c1 => ?_)
  · replace h := h.1 c1
    refine aw_iconst 596 (v := 0) dL_hangs_595 kI_0 rfl ?_
    exact aw_pick [1, 2, 3, 4, 5, 6, 7, 8, 0, 10, 11, 12, 13, 14, 15] rfl (aw_L_hangs_596 hG hO84 hO115 h)
  · replace h := h.2 c1
    refine aw_iconst 592 (v := 1) dL_hangs_591 kI_1 rfl ?_
    refine aw_goto 596 dL_hangs_592 rfl ?_
    exact aw_pick [1, 2, 3, 4, 5, 6, 7, 8, 0, 10, 11, 12, 13, 14, 15] rfl (aw_L_hangs_596 hG hO84 hO115 h)
set_option maxRecDepth 20000 in
theorem aw_L_hangs_561 {G : GG} (hG : G.1.stackTraces = false) {P84 : Nat → Int32 → Int32 → Int32 → Nat → Int32 → Nat → Nat → XH → Prop} {P115 : Nat → Int32 → Int32 → Int32 → Nat → Int32 → Int32 → Int32 → Int32 → Int32 → Int32 → Int32 → Int32 → Nat → Nat → XH → Prop} {l0 : Nat} {l1 : Int32} {l2 : Int32} {l3 : Int32} {l4 : Nat} {l5 : Int32} {l6 : Int32} {l8 : Int32} {l9 : Int32} {l10 : Int32} {l11 : Int32} {l12 : Int32} {l14 : Int32} {l15 : Int32} {l16 : Int32} {l18 : Int32} {s0 : Int32} {s1 : Int32} {cc : Nat} {ss : Nat} {X : XH} {K : Int32 → XH → Prop} (hO84 : ∀ (l0 : Nat) (l1 : Int32) (l2 : Int32) (l3 : Int32) (l4 : Nat) (l5 : Int32) (cc : Nat) (ss : Nat) (X : XH), P84 l0 l1 l2 l3 l4 l5 cc ss X → AW G M_L_hangs 84 [(0, .ref l0), (1, .int l1), (2, .int l2), (3, .int l3), (4, .ref l4), (5, .int l5)] [] X cc ss (KrI K)) (hO115 : ∀ (l0 : Nat) (l1 : Int32) (l2 : Int32) (l3 : Int32) (l4 : Nat) (l5 : Int32) (l6 : Int32) (l7 : Int32) (l8 : Int32) (l9 : Int32) (l10 : Int32) (l11 : Int32) (l12 : Int32) (cc : Nat) (ss : Nat) (X : XH), P115 l0 l1 l2 l3 l4 l5 l6 l7 l8 l9 l10 l11 l12 cc ss X → AW G M_L_hangs 115 [(0, .ref l0), (1, .int l1), (2, .int l2), (3, .int l3), (4, .ref l4), (5, .int l5), (6, .int l6), (7, .int l7), (8, .int l8), (9, .int l9), (10, .int l10), (11, .int l11), (12, .int l12)] [] X cc ss (KrI K)) (h : w_L_hangs_561 P84 P115 l0 l1 l2 l3 l4 l5 l6 l8 l9 l10 l11 l12 l14 l15 l16 l18 s0 s1 cc ss X K) : AW G M_L_hangs 561 [(0, .ref l0), (1, .int l1), (2, .int l2), (3, .int l3), (4, .ref l4), (5, .int l5), (6, .int l6), (8, .int l8), (9, .int l9), (10, .int l10), (11, .int l11), (12, .int l12), (14, .int l14), (15, .int l15), (16, .int l16), (18, .int l18)] [.int s1, .int s0] X cc ss (KrI K) := by
  unfold w_L_hangs_561 at h
  refine aw_iadd 562 dL_hangs_561 rfl ?_
  refine aw_istore 564 (lv' := [(7, _), (0, _), (1, _), (2, _), (3, _), (4, _), (5, _), (6, _), (8, _), (9, _), (10, _), (11, _), (12, _), (14, _), (15, _), (16, _), (18, _)]) dL_hangs_562 (ltb rfl) rfl rfl ?_
  refine aw_iload 566 dL_hangs_564 8 rfl rfl ?_
  refine aw_iload 568 dL_hangs_566 14 rfl rfl ?_
  refine aw_if_le 580 571 dL_hangs_568 rfl rfl (fun c1 => ?_) (fun c1 => ?_)
  · replace h := h.1 c1
    exact aw_pick [1, 2, 3, 4, 5, 6, 7, 0, 9, 10, 11, 12, 13, 14, 16] rfl (aw_L_hangs_580 hG hO84 hO115 h)
  · replace h := h.2 c1
    refine aw_iload 573 dL_hangs_571 15 rfl rfl ?_
    refine aw_if_ge 580 576 dL_hangs_573 rfl rfl (fun c2 => ?_) (fun c2 => ?_)
    · replace h := h.1 c2
      exact aw_pick [1, 2, 3, 4, 5, 6, 7, 0, 9, 10, 11, 12, 13, 14, 16] rfl (aw_L_hangs_580 hG hO84 hO115 h)
    · replace h := h.2 c2
      refine aw_iconst 577 (v := 1) dL_hangs_576 kI_1 rfl ?_
      refine aw_goto 581 dL_hangs_577 rfl ?_
      refine aw_iadd 582 dL_hangs_581 rfl ?_
      refine aw_istore 584 (lv' := [(8, _), (7, _), (0, _), (1, _), (2, _), (3, _), (4, _), (5, _), (6, _), (9, _), (10, _), (11, _), (12, _), (14, _), (15, _), (16, _), (18, _)]) dL_hangs_582 (ltb rfl) rfl rfl ?_
      refine aw_iload 586 dL_hangs_584 9 rfl rfl ?_
      refine aw_iload 588 dL_hangs_586 16 rfl rfl ?_
      refine aw_if_lt 595 591 dL_hangs_588 rfl rfl (fun c3 => ?_) (fun c3 => ?_)
      · replace h := h.1 c3
        refine aw_iconst 596 (v := 0) dL_hangs_595 kI_0 rfl ?_
        exact aw_pick [2, 3, 4, 5, 6, 7, 8, 1, 0, 10, 11, 12, 13, 14, 16] rfl (aw_L_hangs_596 hG hO84 hO115 h)
      · replace h := h.2 c3
        refine aw_iconst 592 (v := 1) dL_hangs_591 kI_1 rfl ?_
        refine aw_goto 596 dL_hangs_592 rfl ?_
        exact aw_pick [2, 3, 4, 5, 6, 7, 8, 1, 0, 10, 11, 12, 13, 14, 16] rfl (aw_L_hangs_596 hG hO84 hO115 h)
set_option maxRecDepth 20000 in
theorem aw_L_hangs_525 {G : GG} (hG : G.1.stackTraces = false) {P84 : Nat → Int32 → Int32 → Int32 → Nat → Int32 → Nat → Nat → XH → Prop} {P115 : Nat → Int32 → Int32 → Int32 → Nat → Int32 → Int32 → Int32 → Int32 → Int32 → Int32 → Int32 → Int32 → Nat → Nat → XH → Prop} {l0 : Nat} {l1 : Int32} {l2 : Int32} {l4 : Nat} {l5 : Int32} {l6 : Int32} {l7 : Int32} {l8 : Int32} {l9 : Int32} {l10 : Int32} {l11 : Int32} {l12 : Int32} {l14 : Int32} {l15 : Int32} {l16 : Int32} {l17 : Int32} {l18 : Int32} {s0 : Int32} {cc : Nat} {ss : Nat} {X : XH} {K : Int32 → XH → Prop} (hO84 : ∀ (l0 : Nat) (l1 : Int32) (l2 : Int32) (l3 : Int32) (l4 : Nat) (l5 : Int32) (cc : Nat) (ss : Nat) (X : XH), P84 l0 l1 l2 l3 l4 l5 cc ss X → AW G M_L_hangs 84 [(0, .ref l0), (1, .int l1), (2, .int l2), (3, .int l3), (4, .ref l4), (5, .int l5)] [] X cc ss (KrI K)) (hO115 : ∀ (l0 : Nat) (l1 : Int32) (l2 : Int32) (l3 : Int32) (l4 : Nat) (l5 : Int32) (l6 : Int32) (l7 : Int32) (l8 : Int32) (l9 : Int32) (l10 : Int32) (l11 : Int32) (l12 : Int32) (cc : Nat) (ss : Nat) (X : XH), P115 l0 l1 l2 l3 l4 l5 l6 l7 l8 l9 l10 l11 l12 cc ss X → AW G M_L_hangs 115 [(0, .ref l0), (1, .int l1), (2, .int l2), (3, .int l3), (4, .ref l4), (5, .int l5), (6, .int l6), (7, .int l7), (8, .int l8), (9, .int l9), (10, .int l10), (11, .int l11), (12, .int l12)] [] X cc ss (KrI K)) (h : w_L_hangs_525 P84 P115 l0 l1 l2 l4 l5 l6 l7 l8 l9 l10 l11 l12 l14 l15 l16 l17 l18 s0 cc ss X K) : AW G M_L_hangs 525 [(0, .ref l0), (1, .int l1), (2, .int l2), (4, .ref l4), (5, .int l5), (6, .int l6), (7, .int l7), (8, .int l8), (9, .int l9), (10, .int l10), (11, .int l11), (12, .int l12), (14, .int l14), (15, .int l15), (16, .int l16), (17, .int l17), (18, .int l18)] [.int s0] X cc ss (KrI K) := by
  unfold w_L_hangs_525 at h
  refine aw_istore_n 526 (lv' := [(3, _), (0, _), (1, _), (2, _), (4, _), (5, _), (6, _), (7, _), (8, _), (9, _), (10, _), (11, _), (12, _), (14, _), (15, _), (16, _), (17, _), (18, _)]) dL_hangs_525 rfl (ltb rfl) rfl rfl ?_
  refine aw_iload 528 dL_hangs_526 6 rfl rfl ?_
  refine aw_aload_n 529 dL_hangs_528 rfl 1 rfl rfl ?_
  refine aw_iload 531 dL_hangs_529 12 rfl rfl ?_
  refine aw_iload 533 dL_hangs_531 5 rfl rfl ?_
  obtain ⟨g1, h⟩ := h
  obtain ⟨g2, h⟩ := h
  refine aw_callSX (M' := M_L_annexedOf) 536 276 [.ref _, .int _, .int _] [.int _] dL_hangs_533 lk_RL_276 ms_L_annexedOf mp_L_annexedOf (0, 6, 7, 15) [] rfl ⟨leb rfl, leb rfl⟩ rfl (leb rfl) g1 g2 rfl (am_L_annexedOf hG h) (kkI fun v4 X3 h => ?_) (kxN KrI.no)
  refine aw_widen (cc' := cc + 2) (ss' := ss + 12) (Nat.le_refl _) (Nat.le_refl _) ?_
  refine aw_iadd 537 dL_hangs_536 rfl ?_
  refine aw_istore 539 (lv' := [(6, _), (3, _), (0, _), (1, _), (2, _), (4, _), (5, _), (7, _), (8, _), (9, _), (10, _), (11, _), (12, _), (14, _), (15, _), (16, _), (17, _), (18, _)]) dL_hangs_537 (ltb rfl) rfl rfl ?_
  refine aw_iload 541 dL_hangs_539 7 rfl rfl ?_
  refine aw_iload 543 dL_hangs_541 16 rfl rfl ?_
  refine aw_if_eq 552 546 dL_hangs_543 rfl rfl (fun c5 => ?_) (fun c5 => ?_)
  · replace h := h.1 c5
    refine aw_iload 554 dL_hangs_552 14 rfl rfl ?_
    refine aw_iload 556 dL_hangs_554 13 rfl rfl ?_
    refine aw_iadd 557 dL_hangs_556 rfl ?_
    refine aw_goto 561 dL_hangs_557 rfl ?_
    exact aw_pick [2, 3, 4, 1, 5, 6, 0, 8, 9, 10, 11, 12, 13, 14, 15, 17] rfl (aw_L_hangs_561 hG hO84 hO115 h)
  · replace h := h.2 c5
    refine aw_iload 548 dL_hangs_546 16 rfl rfl ?_
    refine aw_iconst 549 (v := 4) dL_hangs_548 kI_4 rfl ?_
    refine aw_icmp_ne 560 552 dL_hangs_549 rfl rfl (fun c6 => ?_) (fun c6 => ?_)
    · replace h := h.1 c6
      refine aw_iconst 561 (v := 0) dL_hangs_560 kI_0 rfl ?_
      exact aw_pick [2, 3, 4, 1, 5, 6, 0, 8, 9, 10, 11, 12, 13, 14, 15, 17] rfl (aw_L_hangs_561 hG hO84 hO115 h)
    · replace h := h.2 c6
      refine aw_iload 554 dL_hangs_552 14 rfl rfl ?_
      refine aw_iload 556 dL_hangs_554 13 rfl rfl ?_
      refine aw_iadd 557 dL_hangs_556 rfl ?_
      refine aw_goto 561 dL_hangs_557 rfl ?_
      exact aw_pick [2, 3, 4, 1, 5, 6, 0, 8, 9, 10, 11, 12, 13, 14, 15, 17] rfl (aw_L_hangs_561 hG hO84 hO115 h)
set_option maxRecDepth 20000 in
theorem aw_L_hangs_490 {G : GG} (hG : G.1.stackTraces = false) {P84 : Nat → Int32 → Int32 → Int32 → Nat → Int32 → Nat → Nat → XH → Prop} {P115 : Nat → Int32 → Int32 → Int32 → Nat → Int32 → Int32 → Int32 → Int32 → Int32 → Int32 → Int32 → Int32 → Nat → Nat → XH → Prop} {l0 : Nat} {l1 : Int32} {l2 : Int32} {l4 : Nat} {l5 : Int32} {l6 : Int32} {l7 : Int32} {l8 : Int32} {l9 : Int32} {l10 : Int32} {l11 : Int32} {l12 : Int32} {l14 : Int32} {l15 : Int32} {l16 : Int32} {l17 : Int32} {l18 : Int32} {s0 : Int32} {s1 : Int32} {cc : Nat} {ss : Nat} {X : XH} {K : Int32 → XH → Prop} (hO84 : ∀ (l0 : Nat) (l1 : Int32) (l2 : Int32) (l3 : Int32) (l4 : Nat) (l5 : Int32) (cc : Nat) (ss : Nat) (X : XH), P84 l0 l1 l2 l3 l4 l5 cc ss X → AW G M_L_hangs 84 [(0, .ref l0), (1, .int l1), (2, .int l2), (3, .int l3), (4, .ref l4), (5, .int l5)] [] X cc ss (KrI K)) (hO115 : ∀ (l0 : Nat) (l1 : Int32) (l2 : Int32) (l3 : Int32) (l4 : Nat) (l5 : Int32) (l6 : Int32) (l7 : Int32) (l8 : Int32) (l9 : Int32) (l10 : Int32) (l11 : Int32) (l12 : Int32) (cc : Nat) (ss : Nat) (X : XH), P115 l0 l1 l2 l3 l4 l5 l6 l7 l8 l9 l10 l11 l12 cc ss X → AW G M_L_hangs 115 [(0, .ref l0), (1, .int l1), (2, .int l2), (3, .int l3), (4, .ref l4), (5, .int l5), (6, .int l6), (7, .int l7), (8, .int l8), (9, .int l9), (10, .int l10), (11, .int l11), (12, .int l12)] [] X cc ss (KrI K)) (h : w_L_hangs_490 P84 P115 l0 l1 l2 l4 l5 l6 l7 l8 l9 l10 l11 l12 l14 l15 l16 l17 l18 s0 s1 cc ss X K) : AW G M_L_hangs 490 [(0, .ref l0), (1, .int l1), (2, .int l2), (4, .ref l4), (5, .int l5), (6, .int l6), (7, .int l7), (8, .int l8), (9, .int l9), (10, .int l10), (11, .int l11), (12, .int l12), (14, .int l14), (15, .int l15), (16, .int l16), (17, .int l17), (18, .int l18)] [.int s1, .int s0] X cc ss (KrI K) := by
  unfold w_L_hangs_490 at h
  refine aw_icmp_ne 524 493 dL_hangs_490 rfl rfl (fun c1 => ?_) (fun c1 => ?_)
  · replace h := h.1 c1
    refine aw_iconst 525 (v := 0) dL_hangs_524 kI_0 rfl ?_
    exact aw_pick [0, 1, 2, 3, 4, 5, 6, 7, 8, 9, 10, 11, 12, 13, 14, 15, 16] rfl (aw_L_hangs_525 hG hO84 hO115 h)
  · replace h := h.2 c1
    refine aw_aload_n 494 dL_hangs_493 rfl 0 rfl rfl ?_
    refine aw_iload 496 dL_hangs_494 11 rfl rfl ?_
    refine aw_iload 498 dL_hangs_496 4 rfl rfl ?_
    obtain ⟨g2, h⟩ := h
    obtain ⟨g3, h⟩ := h
    refine aw_callSX (M' := M_L_annexedOf) 501 276 [.ref _, .int _, .int _] [] dL_hangs_498 lk_RL_276 ms_L_annexedOf mp_L_annexedOf (0, 6, 7, 15) [] rfl ⟨leb rfl, leb rfl⟩ rfl (leb rfl) g2 g3 rfl (am_L_annexedOf hG h) (kkI fun v5 X4 h => ?_) (kxN KrI.no)
    refine aw_widen (cc' := cc + 2) (ss' := ss + 12) (Nat.le_refl _) (Nat.le_refl _) ?_
    refine aw_if_lt 524 504 dL_hangs_501 rfl rfl (fun c6 => ?_) (fun c6 => ?_)
    · replace h := h.1 c6
      refine aw_iconst 525 (v := 0) dL_hangs_524 kI_0 rfl ?_
      exact aw_pick [0, 1, 2, 3, 4, 5, 6, 7, 8, 9, 10, 11, 12, 13, 14, 15, 16] rfl (aw_L_hangs_525 hG hO84 hO115 h)
    · replace h := h.2 c6
      refine aw_iload 506 dL_hangs_504 13 rfl rfl ?_
      refine aw_if_gt 520 509 dL_hangs_506 rfl rfl (fun c7 => ?_) (fun c7 => ?_)
      · replace h := h.1 c7
        refine aw_iconst 521 (v := 1) dL_hangs_520 kI_1 rfl ?_
        refine aw_goto 525 dL_hangs_521 rfl ?_
        exact aw_pick [0, 1, 2, 3, 4, 5, 6, 7, 8, 9, 10, 11, 12, 13, 14, 15, 16] rfl (aw_L_hangs_525 hG hO84 hO115 h)
      · replace h := h.2 c7
        refine aw_aload_n 510 dL_hangs_509 rfl 0 rfl rfl ?_
        refine aw_iload 512 dL_hangs_510 11 rfl rfl ?_
        refine aw_iload 514 dL_hangs_512 4 rfl rfl ?_
        obtain ⟨g8, h⟩ := h
        obtain ⟨g9, h⟩ := h
        refine aw_callSX (M' := M_L_annexedOf) 517 276 [.ref _, .int _, .int _] [] dL_hangs_514 lk_RL_276 ms_L_annexedOf mp_L_annexedOf (0, 6, 7, 15) [] rfl ⟨leb rfl, leb rfl⟩ rfl (leb rfl) g8 g9 rfl (am_L_annexedOf hG h) (kkI fun v11 X10 h => ?_) (kxN KrI.no)
        refine aw_widen (cc' := cc + 4) (ss' := ss + 24) (Nat.le_refl _) (Nat.le_refl _) ?_
        refine aw_if_ne 524 520 dL_hangs_517 rfl rfl (fun c12 => ?_) (fun c12 => ?_)
        · replace h := h.1 c12
          refine aw_iconst 525 (v := 0) dL_hangs_524 kI_0 rfl ?_
          exact aw_pick [0, 1, 2, 3, 4, 5, 6, 7, 8, 9, 10, 11, 12, 13, 14, 15, 16] rfl (aw_L_hangs_525 hG hO84 hO115 h)
        · replace h := h.2 c12
          refine aw_iconst 521 (v := 1) dL_hangs_520 kI_1 rfl ?_
          refine aw_goto 525 dL_hangs_521 rfl ?_
          exact aw_pick [0, 1, 2, 3, 4, 5, 6, 7, 8, 9, 10, 11, 12, 13, 14, 15, 16] rfl (aw_L_hangs_525 hG hO84 hO115 h)
set_option maxRecDepth 20000 in
theorem aw_L_hangs_469 {G : GG} (hG : G.1.stackTraces = false) {P84 : Nat → Int32 → Int32 → Int32 → Nat → Int32 → Nat → Nat → XH → Prop} {P115 : Nat → Int32 → Int32 → Int32 → Nat → Int32 → Int32 → Int32 → Int32 → Int32 → Int32 → Int32 → Int32 → Nat → Nat → XH → Prop} {l0 : Nat} {l1 : Int32} {l2 : Int32} {l4 : Nat} {l5 : Int32} {l6 : Int32} {l7 : Int32} {l8 : Int32} {l9 : Int32} {l10 : Int32} {l11 : Int32} {l12 : Int32} {l14 : Int32} {l15 : Int32} {l16 : Int32} {l17 : Int32} {l18 : Int32} {s0 : Int32} {s1 : Int32} {cc : Nat} {ss : Nat} {X : XH} {K : Int32 → XH → Prop} (hO84 : ∀ (l0 : Nat) (l1 : Int32) (l2 : Int32) (l3 : Int32) (l4 : Nat) (l5 : Int32) (cc : Nat) (ss : Nat) (X : XH), P84 l0 l1 l2 l3 l4 l5 cc ss X → AW G M_L_hangs 84 [(0, .ref l0), (1, .int l1), (2, .int l2), (3, .int l3), (4, .ref l4), (5, .int l5)] [] X cc ss (KrI K)) (hO115 : ∀ (l0 : Nat) (l1 : Int32) (l2 : Int32) (l3 : Int32) (l4 : Nat) (l5 : Int32) (l6 : Int32) (l7 : Int32) (l8 : Int32) (l9 : Int32) (l10 : Int32) (l11 : Int32) (l12 : Int32) (cc : Nat) (ss : Nat) (X : XH), P115 l0 l1 l2 l3 l4 l5 l6 l7 l8 l9 l10 l11 l12 cc ss X → AW G M_L_hangs 115 [(0, .ref l0), (1, .int l1), (2, .int l2), (3, .int l3), (4, .ref l4), (5, .int l5), (6, .int l6), (7, .int l7), (8, .int l8), (9, .int l9), (10, .int l10), (11, .int l11), (12, .int l12)] [] X cc ss (KrI K)) (h : w_L_hangs_469 P84 P115 l0 l1 l2 l4 l5 l6 l7 l8 l9 l10 l11 l12 l14 l15 l16 l17 l18 s0 s1 cc ss X K) : AW G M_L_hangs 469 [(0, .ref l0), (1, .int l1), (2, .int l2), (4, .ref l4), (5, .int l5), (6, .int l6), (7, .int l7), (8, .int l8), (9, .int l9), (10, .int l10), (11, .int l11), (12, .int l12), (14, .int l14), (15, .int l15), (16, .int l16), (17, .int l17), (18, .int l18)] [.int s1, .int s0] X cc ss (KrI K) := by
  unfold w_L_hangs_469 at h
  refine aw_icmp_ne 524 472 dL_hangs_469 rfl rfl (fun c1 => ?_) (fun c1 => ?_)
  · replace h := h.1 c1
    refine aw_iconst 525 (v := 0) dL_hangs_524 kI_0 rfl ?_
    exact aw_pick [0, 1, 2, 3, 4, 5, 6, 7, 8, 9, 10, 11, 12, 13, 14, 15, 16] rfl (aw_L_hangs_525 hG hO84 hO115 h)
  · replace h := h.2 c1
    refine aw_aload_n 473 dL_hangs_472 rfl 0 rfl rfl ?_
    refine aw_iload 475 dL_hangs_473 11 rfl rfl ?_
    refine aw_iload 477 dL_hangs_475 4 rfl rfl ?_
    obtain ⟨g2, h⟩ := h
    obtain ⟨g3, h⟩ := h
    refine aw_callSX (M' := M_L_isRecorded) 480 274 [.ref _, .int _, .int _] [] dL_hangs_477 lk_RL_274 ms_L_isRecorded mp_L_isRecorded (0, 14, 15, 15) [] rfl ⟨leb rfl, leb rfl⟩ rfl (leb rfl) g2 g3 rfl (am_L_isRecorded hG h) (kkI fun v5 X4 h => ?_) (kxN KrI.no)
    refine aw_widen (cc' := cc + 2) (ss' := ss + 12) (Nat.le_refl _) (Nat.le_refl _) ?_
    refine aw_iload 482 dL_hangs_480 16 rfl rfl ?_
    refine aw_if_lt 489 485 dL_hangs_482 rfl rfl (fun c6 => ?_) (fun c6 => ?_)
    · replace h := h.1 c6
      refine aw_iconst 490 (v := 0) dL_hangs_489 kI_0 rfl ?_
      exact aw_pick [0, 1, 2, 3, 4, 5, 6, 7, 8, 9, 10, 11, 12, 13, 14, 15, 16] rfl (aw_L_hangs_490 hG hO84 hO115 h)
    · replace h := h.2 c6
      refine aw_iconst 486 (v := 1) dL_hangs_485 kI_1 rfl ?_
      refine aw_goto 490 dL_hangs_486 rfl ?_
      exact aw_pick [0, 1, 2, 3, 4, 5, 6, 7, 8, 9, 10, 11, 12, 13, 14, 15, 16] rfl (aw_L_hangs_490 hG hO84 hO115 h)
set_option maxRecDepth 20000 in
theorem aw_L_hangs_440 {G : GG} (hG : G.1.stackTraces = false) {P84 : Nat → Int32 → Int32 → Int32 → Nat → Int32 → Nat → Nat → XH → Prop} {P115 : Nat → Int32 → Int32 → Int32 → Nat → Int32 → Int32 → Int32 → Int32 → Int32 → Int32 → Int32 → Int32 → Nat → Nat → XH → Prop} {l0 : Nat} {l1 : Int32} {l2 : Int32} {l4 : Nat} {l5 : Int32} {l6 : Int32} {l7 : Int32} {l8 : Int32} {l9 : Int32} {l10 : Int32} {l11 : Int32} {l12 : Int32} {l14 : Int32} {l15 : Int32} {l16 : Int32} {l17 : Int32} {l18 : Int32} {cc : Nat} {ss : Nat} {X : XH} {K : Int32 → XH → Prop} (hO84 : ∀ (l0 : Nat) (l1 : Int32) (l2 : Int32) (l3 : Int32) (l4 : Nat) (l5 : Int32) (cc : Nat) (ss : Nat) (X : XH), P84 l0 l1 l2 l3 l4 l5 cc ss X → AW G M_L_hangs 84 [(0, .ref l0), (1, .int l1), (2, .int l2), (3, .int l3), (4, .ref l4), (5, .int l5)] [] X cc ss (KrI K)) (hO115 : ∀ (l0 : Nat) (l1 : Int32) (l2 : Int32) (l3 : Int32) (l4 : Nat) (l5 : Int32) (l6 : Int32) (l7 : Int32) (l8 : Int32) (l9 : Int32) (l10 : Int32) (l11 : Int32) (l12 : Int32) (cc : Nat) (ss : Nat) (X : XH), P115 l0 l1 l2 l3 l4 l5 l6 l7 l8 l9 l10 l11 l12 cc ss X → AW G M_L_hangs 115 [(0, .ref l0), (1, .int l1), (2, .int l2), (3, .int l3), (4, .ref l4), (5, .int l5), (6, .int l6), (7, .int l7), (8, .int l8), (9, .int l9), (10, .int l10), (11, .int l11), (12, .int l12)] [] X cc ss (KrI K)) (h : w_L_hangs_440 P84 P115 l0 l1 l2 l4 l5 l6 l7 l8 l9 l10 l11 l12 l14 l15 l16 l17 l18 cc ss X K) : AW G M_L_hangs 440 [(0, .ref l0), (1, .int l1), (2, .int l2), (4, .ref l4), (5, .int l5), (6, .int l6), (7, .int l7), (8, .int l8), (9, .int l9), (10, .int l10), (11, .int l11), (12, .int l12), (14, .int l14), (15, .int l15), (16, .int l16), (17, .int l17), (18, .int l18)] [] X cc ss (KrI K) := by
  unfold w_L_hangs_440 at h
  refine aw_iload 442 dL_hangs_440 15 rfl rfl ?_
  refine aw_if_lt 524 445 dL_hangs_442 rfl rfl (fun c1 => ?_) (fun c1 => ?_)
  · replace h := h.1 c1
    refine aw_iconst 525 (v := 0) dL_hangs_524 kI_0 rfl ?_
    exact aw_pick [0, 1, 2, 3, 4, 5, 6, 7, 8, 9, 10, 11, 12, 13, 14, 15, 16] rfl (aw_L_hangs_525 hG hO84 hO115 h)
  · replace h := h.2 c1
    refine aw_iload 447 dL_hangs_445 15 rfl rfl ?_
    refine aw_iconst 448 (v := 5) dL_hangs_447 kI_5 rfl ?_
    refine aw_icmp_ge 524 451 dL_hangs_448 rfl rfl (fun c2 => ?_) (fun c2 => ?_)
    · replace h := h.1 c2
      refine aw_iconst 525 (v := 0) dL_hangs_524 kI_0 rfl ?_
      exact aw_pick [0, 1, 2, 3, 4, 5, 6, 7, 8, 9, 10, 11, 12, 13, 14, 15, 16] rfl (aw_L_hangs_525 hG hO84 hO115 h)
    · replace h := h.2 c2
      refine aw_aload_n 452 dL_hangs_451 rfl 0 rfl rfl ?_
      refine aw_iload 454 dL_hangs_452 11 rfl rfl ?_
      refine aw_iload 456 dL_hangs_454 4 rfl rfl ?_
      obtain ⟨g3, h⟩ := h
      obtain ⟨g4, h⟩ := h
      refine aw_callSX (M' := M_L_isTranslated) 459 272 [.ref _, .int _, .int _] [] dL_hangs_456 lk_RL_272 ms_L_isTranslated mp_L_isTranslated (0, 14, 15, 15) [] rfl ⟨leb rfl, leb rfl⟩ rfl (leb rfl) g3 g4 rfl (am_L_isTranslated hG h) (kkI fun v6 X5 h => ?_) (kxN KrI.no)
      refine aw_widen (cc' := cc + 2) (ss' := ss + 12) (Nat.le_refl _) (Nat.le_refl _) ?_
      refine aw_iload 461 dL_hangs_459 13 rfl rfl ?_
      refine aw_if_le 468 464 dL_hangs_461 rfl rfl (fun c7 => ?_) (fun c7 => ?_)
      · replace h := h.1 c7
        refine aw_iconst 469 (v := 0) dL_hangs_468 kI_0 rfl ?_
        exact aw_pick [0, 1, 2, 3, 4, 5, 6, 7, 8, 9, 10, 11, 12, 13, 14, 15, 16] rfl (aw_L_hangs_469 hG hO84 hO115 h)
      · replace h := h.2 c7
        refine aw_iconst 465 (v := 1) dL_hangs_464 kI_1 rfl ?_
        refine aw_goto 469 dL_hangs_465 rfl ?_
        exact aw_pick [0, 1, 2, 3, 4, 5, 6, 7, 8, 9, 10, 11, 12, 13, 14, 15, 16] rfl (aw_L_hangs_469 hG hO84 hO115 h)
set_option maxRecDepth 20000 in
theorem aw_L_hangs_427 {G : GG} (hG : G.1.stackTraces = false) {P84 : Nat → Int32 → Int32 → Int32 → Nat → Int32 → Nat → Nat → XH → Prop} {P115 : Nat → Int32 → Int32 → Int32 → Nat → Int32 → Int32 → Int32 → Int32 → Int32 → Int32 → Int32 → Int32 → Nat → Nat → XH → Prop} {l0 : Nat} {l1 : Int32} {l2 : Int32} {l4 : Nat} {l5 : Int32} {l6 : Int32} {l7 : Int32} {l8 : Int32} {l9 : Int32} {l10 : Int32} {l11 : Int32} {l12 : Int32} {l14 : Int32} {l15 : Int32} {l16 : Int32} {l17 : Int32} {l18 : Int32} {s0 : Int32} {cc : Nat} {ss : Nat} {X : XH} {K : Int32 → XH → Prop} (hO84 : ∀ (l0 : Nat) (l1 : Int32) (l2 : Int32) (l3 : Int32) (l4 : Nat) (l5 : Int32) (cc : Nat) (ss : Nat) (X : XH), P84 l0 l1 l2 l3 l4 l5 cc ss X → AW G M_L_hangs 84 [(0, .ref l0), (1, .int l1), (2, .int l2), (3, .int l3), (4, .ref l4), (5, .int l5)] [] X cc ss (KrI K)) (hO115 : ∀ (l0 : Nat) (l1 : Int32) (l2 : Int32) (l3 : Int32) (l4 : Nat) (l5 : Int32) (l6 : Int32) (l7 : Int32) (l8 : Int32) (l9 : Int32) (l10 : Int32) (l11 : Int32) (l12 : Int32) (cc : Nat) (ss : Nat) (X : XH), P115 l0 l1 l2 l3 l4 l5 l6 l7 l8 l9 l10 l11 l12 cc ss X → AW G M_L_hangs 115 [(0, .ref l0), (1, .int l1), (2, .int l2), (3, .int l3), (4, .ref l4), (5, .int l5), (6, .int l6), (7, .int l7), (8, .int l8), (9, .int l9), (10, .int l10), (11, .int l11), (12, .int l12)] [] X cc ss (KrI K)) (h : w_L_hangs_427 P84 P115 l0 l1 l2 l4 l5 l6 l7 l8 l9 l10 l11 l12 l14 l15 l16 l17 l18 s0 cc ss X K) : AW G M_L_hangs 427 [(0, .ref l0), (1, .int l1), (2, .int l2), (4, .ref l4), (5, .int l5), (6, .int l6), (7, .int l7), (8, .int l8), (9, .int l9), (10, .int l10), (11, .int l11), (12, .int l12), (14, .int l14), (15, .int l15), (16, .int l16), (17, .int l17), (18, .int l18)] [.int s0] X cc ss (KrI K) := by
  unfold w_L_hangs_427 at h
  refine aw_iload 429 dL_hangs_427 14 rfl rfl ?_
  refine aw_if_lt 436 432 dL_hangs_429 rfl rfl (fun c1 => ?_) (fun c1 => ?_)
  · replace h := h.1 c1
    refine aw_iconst 437 (v := 0) dL_hangs_436 kI_0 rfl ?_
    refine aw_icmp_ne 524 440 dL_hangs_437 rfl rfl (fun c2 => ?_) (fun c2 => ?_)
    · replace h := h.1 c2
      refine aw_iconst 525 (v := 0) dL_hangs_524 kI_0 rfl ?_
      exact aw_pick [0, 1, 2, 3, 4, 5, 6, 7, 8, 9, 10, 11, 12, 13, 14, 15, 16] rfl (aw_L_hangs_525 hG hO84 hO115 h)
    · replace h := h.2 c2
      exact aw_pick [0, 1, 2, 3, 4, 5, 6, 7, 8, 9, 10, 11, 12, 13, 14, 15, 16] rfl (aw_L_hangs_440 hG hO84 hO115 h)
  · replace h := h.2 c1
    refine aw_iconst 433 (v := 1) dL_hangs_432 kI_1 rfl ?_
    refine aw_goto 437 dL_hangs_433 rfl ?_
    refine aw_icmp_ne 524 440 dL_hangs_437 rfl rfl (fun c3 => ?_) (fun c3 => ?_)
    · replace h := h.1 c3
      refine aw_iconst 525 (v := 0) dL_hangs_524 kI_0 rfl ?_
      exact aw_pick [0, 1, 2, 3, 4, 5, 6, 7, 8, 9, 10, 11, 12, 13, 14, 15, 16] rfl (aw_L_hangs_525 hG hO84 hO115 h)
    · replace h := h.2 c3
      exact aw_pick [0, 1, 2, 3, 4, 5, 6, 7, 8, 9, 10, 11, 12, 13, 14, 15, 16] rfl (aw_L_hangs_440 hG hO84 hO115 h)
set_option maxRecDepth 20000 in
theorem aw_L_hangs_407 {G : GG} (hG : G.1.stackTraces = false) {P84 : Nat → Int32 → Int32 → Int32 → Nat → Int32 → Nat → Nat → XH → Prop} {P115 : Nat → Int32 → Int32 → Int32 → Nat → Int32 → Int32 → Int32 → Int32 → Int32 → Int32 → Int32 → Int32 → Nat → Nat → XH → Prop} {l0 : Nat} {l1 : Int32} {l2 : Int32} {l4 : Nat} {l5 : Int32} {l6 : Int32} {l7 : Int32} {l8 : Int32} {l9 : Int32} {l10 : Int32} {l11 : Int32} {l12 : Int32} {l14 : Int32} {l15 : Int32} {l16 : Int32} {l17 : Int32} {l18 : Int32} {s0 : Int32} {s1 : Int32} {cc : Nat} {ss : Nat} {X : XH} {K : Int32 → XH → Prop} (hO84 : ∀ (l0 : Nat) (l1 : Int32) (l2 : Int32) (l3 : Int32) (l4 : Nat) (l5 : Int32) (cc : Nat) (ss : Nat) (X : XH), P84 l0 l1 l2 l3 l4 l5 cc ss X → AW G M_L_hangs 84 [(0, .ref l0), (1, .int l1), (2, .int l2), (3, .int l3), (4, .ref l4), (5, .int l5)] [] X cc ss (KrI K)) (hO115 : ∀ (l0 : Nat) (l1 : Int32) (l2 : Int32) (l3 : Int32) (l4 : Nat) (l5 : Int32) (l6 : Int32) (l7 : Int32) (l8 : Int32) (l9 : Int32) (l10 : Int32) (l11 : Int32) (l12 : Int32) (cc : Nat) (ss : Nat) (X : XH), P115 l0 l1 l2 l3 l4 l5 l6 l7 l8 l9 l10 l11 l12 cc ss X → AW G M_L_hangs 115 [(0, .ref l0), (1, .int l1), (2, .int l2), (3, .int l3), (4, .ref l4), (5, .int l5), (6, .int l6), (7, .int l7), (8, .int l8), (9, .int l9), (10, .int l10), (11, .int l11), (12, .int l12)] [] X cc ss (KrI K)) (h : w_L_hangs_407 P84 P115 l0 l1 l2 l4 l5 l6 l7 l8 l9 l10 l11 l12 l14 l15 l16 l17 l18 s0 s1 cc ss X K) : AW G M_L_hangs 407 [(0, .ref l0), (1, .int l1), (2, .int l2), (4, .ref l4), (5, .int l5), (6, .int l6), (7, .int l7), (8, .int l8), (9, .int l9), (10, .int l10), (11, .int l11), (12, .int l12), (14, .int l14), (15, .int l15), (16, .int l16), (17, .int l17), (18, .int l18)] [.int s1, .int s0] X cc ss (KrI K) := by
  unfold w_L_hangs_407 at h
  refine aw_icmp_ne 524 410 dL_hangs_407 rfl rfl (fun c1 => ?_) (fun c1 => ?_)
  · replace h := h.1 c1
    refine aw_iconst 525 (v := 0) dL_hangs_524 kI_0 rfl ?_
    exact aw_pick [0, 1, 2, 3, 4, 5, 6, 7, 8, 9, 10, 11, 12, 13, 14, 15, 16] rfl (aw_L_hangs_525 hG hO84 hO115 h)
  · replace h := h.2 c1
    refine aw_aload_n 411 dL_hangs_410 rfl 0 rfl rfl ?_
    refine aw_iload 413 dL_hangs_411 11 rfl rfl ?_
    refine aw_iload 415 dL_hangs_413 4 rfl rfl ?_
    obtain ⟨g2, h⟩ := h
    obtain ⟨g3, h⟩ := h
    refine aw_callSX (M' := M_L_fits) 418 270 [.ref _, .int _, .int _] [] dL_hangs_415 lk_RL_270 ms_L_fits mp_L_fits (0, 14, 15, 15) [] rfl ⟨leb rfl, leb rfl⟩ rfl (leb rfl) g2 g3 rfl (am_L_fits hG h) (kkI fun v5 X4 h => ?_) (kxN KrI.no)
    refine aw_widen (cc' := cc + 2) (ss' := ss + 12) (Nat.le_refl _) (Nat.le_refl _) ?_
    refine aw_iconst 419 (v := 1) dL_hangs_418 kI_1 rfl ?_
    refine aw_icmp_ne 426 422 dL_hangs_419 rfl rfl (fun c6 => ?_) (fun c6 => ?_)
    · replace h := h.1 c6
      refine aw_iconst 427 (v := 0) dL_hangs_426 kI_0 rfl ?_
      exact aw_pick [0, 1, 2, 3, 4, 5, 6, 7, 8, 9, 10, 11, 12, 13, 14, 15, 16] rfl (aw_L_hangs_427 hG hO84 hO115 h)
    · replace h := h.2 c6
      refine aw_iconst 423 (v := 1) dL_hangs_422 kI_1 rfl ?_
      refine aw_goto 427 dL_hangs_423 rfl ?_
      exact aw_pick [0, 1, 2, 3, 4, 5, 6, 7, 8, 9, 10, 11, 12, 13, 14, 15, 16] rfl (aw_L_hangs_427 hG hO84 hO115 h)
set_option maxRecDepth 20000 in
theorem aw_L_hangs_387 {G : GG} (hG : G.1.stackTraces = false) {P84 : Nat → Int32 → Int32 → Int32 → Nat → Int32 → Nat → Nat → XH → Prop} {P115 : Nat → Int32 → Int32 → Int32 → Nat → Int32 → Int32 → Int32 → Int32 → Int32 → Int32 → Int32 → Int32 → Nat → Nat → XH → Prop} {l0 : Nat} {l1 : Int32} {l2 : Int32} {l4 : Nat} {l5 : Int32} {l6 : Int32} {l7 : Int32} {l8 : Int32} {l9 : Int32} {l10 : Int32} {l11 : Int32} {l12 : Int32} {l14 : Int32} {l15 : Int32} {l16 : Int32} {l17 : Int32} {l18 : Int32} {l19 : Int32} {cc : Nat} {ss : Nat} {X : XH} {K : Int32 → XH → Prop} (hO84 : ∀ (l0 : Nat) (l1 : Int32) (l2 : Int32) (l3 : Int32) (l4 : Nat) (l5 : Int32) (cc : Nat) (ss : Nat) (X : XH), P84 l0 l1 l2 l3 l4 l5 cc ss X → AW G M_L_hangs 84 [(0, .ref l0), (1, .int l1), (2, .int l2), (3, .int l3), (4, .ref l4), (5, .int l5)] [] X cc ss (KrI K)) (hO115 : ∀ (l0 : Nat) (l1 : Int32) (l2 : Int32) (l3 : Int32) (l4 : Nat) (l5 : Int32) (l6 : Int32) (l7 : Int32) (l8 : Int32) (l9 : Int32) (l10 : Int32) (l11 : Int32) (l12 : Int32) (cc : Nat) (ss : Nat) (X : XH), P115 l0 l1 l2 l3 l4 l5 l6 l7 l8 l9 l10 l11 l12 cc ss X → AW G M_L_hangs 115 [(0, .ref l0), (1, .int l1), (2, .int l2), (3, .int l3), (4, .ref l4), (5, .int l5), (6, .int l6), (7, .int l7), (8, .int l8), (9, .int l9), (10, .int l10), (11, .int l11), (12, .int l12)] [] X cc ss (KrI K)) (h : w_L_hangs_387 P84 P115 l0 l1 l2 l4 l5 l6 l7 l8 l9 l10 l11 l12 l14 l15 l16 l17 l18 l19 cc ss X K) : AW G M_L_hangs 387 [(0, .ref l0), (1, .int l1), (2, .int l2), (4, .ref l4), (5, .int l5), (6, .int l6), (7, .int l7), (8, .int l8), (9, .int l9), (10, .int l10), (11, .int l11), (12, .int l12), (14, .int l14), (15, .int l15), (16, .int l16), (17, .int l17), (18, .int l18), (19, .int l19)] [] X cc ss (KrI K) := by
  unfold w_L_hangs_387 at h
  refine aw_iload 389 dL_hangs_387 14 rfl rfl ?_
  refine aw_if_lt 396 392 dL_hangs_389 rfl rfl (fun c1 => ?_) (fun c1 => ?_)
  · replace h := h.1 c1
    refine aw_iconst 397 (v := 0) dL_hangs_396 kI_0 rfl ?_
    refine aw_iload 399 dL_hangs_397 17 rfl rfl ?_
    refine aw_if_ne 406 402 dL_hangs_399 rfl rfl (fun c2 => ?_) (fun c2 => ?_)
    · replace h := h.1 c2
      refine aw_iconst 407 (v := 0) dL_hangs_406 kI_0 rfl ?_
      exact aw_pick [0, 1, 2, 3, 4, 5, 6, 7, 8, 9, 10, 11, 12, 13, 14, 15, 16] rfl (aw_L_hangs_407 hG hO84 hO115 h)
    · replace h := h.2 c2
      refine aw_iconst 403 (v := 1) dL_hangs_402 kI_1 rfl ?_
      refine aw_goto 407 dL_hangs_403 rfl ?_
      exact aw_pick [0, 1, 2, 3, 4, 5, 6, 7, 8, 9, 10, 11, 12, 13, 14, 15, 16] rfl (aw_L_hangs_407 hG hO84 hO115 h)
  · replace h := h.2 c1
    refine aw_iconst 393 (v := 1) dL_hangs_392 kI_1 rfl ?_
    refine aw_goto 397 dL_hangs_393 rfl ?_
    refine aw_iload 399 dL_hangs_397 17 rfl rfl ?_
    refine aw_if_ne 406 402 dL_hangs_399 rfl rfl (fun c3 => ?_) (fun c3 => ?_)
    · replace h := h.1 c3
      refine aw_iconst 407 (v := 0) dL_hangs_406 kI_0 rfl ?_
      exact aw_pick [0, 1, 2, 3, 4, 5, 6, 7, 8, 9, 10, 11, 12, 13, 14, 15, 16] rfl (aw_L_hangs_407 hG hO84 hO115 h)
    · replace h := h.2 c3
      refine aw_iconst 403 (v := 1) dL_hangs_402 kI_1 rfl ?_
      refine aw_goto 407 dL_hangs_403 rfl ?_
      exact aw_pick [0, 1, 2, 3, 4, 5, 6, 7, 8, 9, 10, 11, 12, 13, 14, 15, 16] rfl (aw_L_hangs_407 hG hO84 hO115 h)
set_option maxRecDepth 20000 in
theorem aw_L_hangs_365 {G : GG} (hG : G.1.stackTraces = false) {P84 : Nat → Int32 → Int32 → Int32 → Nat → Int32 → Nat → Nat → XH → Prop} {P115 : Nat → Int32 → Int32 → Int32 → Nat → Int32 → Int32 → Int32 → Int32 → Int32 → Int32 → Int32 → Int32 → Nat → Nat → XH → Prop} {l0 : Nat} {l1 : Int32} {l2 : Int32} {l4 : Nat} {l5 : Int32} {l6 : Int32} {l7 : Int32} {l8 : Int32} {l9 : Int32} {l10 : Int32} {l11 : Int32} {l12 : Int32} {l14 : Int32} {l15 : Int32} {l16 : Int32} {l17 : Int32} {l18 : Int32} {l19 : Int32} {s0 : Int32} {s1 : Int32} {cc : Nat} {ss : Nat} {X : XH} {K : Int32 → XH → Prop} (hO84 : ∀ (l0 : Nat) (l1 : Int32) (l2 : Int32) (l3 : Int32) (l4 : Nat) (l5 : Int32) (cc : Nat) (ss : Nat) (X : XH), P84 l0 l1 l2 l3 l4 l5 cc ss X → AW G M_L_hangs 84 [(0, .ref l0), (1, .int l1), (2, .int l2), (3, .int l3), (4, .ref l4), (5, .int l5)] [] X cc ss (KrI K)) (hO115 : ∀ (l0 : Nat) (l1 : Int32) (l2 : Int32) (l3 : Int32) (l4 : Nat) (l5 : Int32) (l6 : Int32) (l7 : Int32) (l8 : Int32) (l9 : Int32) (l10 : Int32) (l11 : Int32) (l12 : Int32) (cc : Nat) (ss : Nat) (X : XH), P115 l0 l1 l2 l3 l4 l5 l6 l7 l8 l9 l10 l11 l12 cc ss X → AW G M_L_hangs 115 [(0, .ref l0), (1, .int l1), (2, .int l2), (3, .int l3), (4, .ref l4), (5, .int l5), (6, .int l6), (7, .int l7), (8, .int l8), (9, .int l9), (10, .int l10), (11, .int l11), (12, .int l12)] [] X cc ss (KrI K)) (h : w_L_hangs_365 P84 P115 l0 l1 l2 l4 l5 l6 l7 l8 l9 l10 l11 l12 l14 l15 l16 l17 l18 l19 s0 s1 cc ss X K) : AW G M_L_hangs 365 [(0, .ref l0), (1, .int l1), (2, .int l2), (4, .ref l4), (5, .int l5), (6, .int l6), (7, .int l7), (8, .int l8), (9, .int l9), (10, .int l10), (11, .int l11), (12, .int l12), (14, .int l14), (15, .int l15), (16, .int l16), (17, .int l17), (18, .int l18), (19, .int l19)] [.int s1, .int s0] X cc ss (KrI K) := by
  unfold w_L_hangs_365 at h
  refine aw_icmp_ne 524 368 dL_hangs_365 rfl rfl (fun c1 => ?_) (fun c1 => ?_)
  · replace h := h.1 c1
    refine aw_iconst 525 (v := 0) dL_hangs_524 kI_0 rfl ?_
    exact aw_pick [0, 1, 2, 3, 4, 5, 6, 7, 8, 9, 10, 11, 12, 13, 14, 15, 16] rfl (aw_L_hangs_525 hG hO84 hO115 h)
  · replace h := h.2 c1
    refine aw_iload 370 dL_hangs_368 16 rfl rfl ?_
    refine aw_if_lt 387 373 dL_hangs_370 rfl rfl (fun c2 => ?_) (fun c2 => ?_)
    · replace h := h.1 c2
      exact aw_pick [0, 1, 2, 3, 4, 5, 6, 7, 8, 9, 10, 11, 12, 13, 14, 15, 16, 17] rfl (aw_L_hangs_387 hG hO84 hO115 h)
    · replace h := h.2 c2
      refine aw_iload 375 dL_hangs_373 14 rfl rfl ?_
      refine aw_if_lt 524 378 dL_hangs_375 rfl rfl (fun c3 => ?_) (fun c3 => ?_)
      · replace h := h.1 c3
        refine aw_iconst 525 (v := 0) dL_hangs_524 kI_0 rfl ?_
        exact aw_pick [0, 1, 2, 3, 4, 5, 6, 7, 8, 9, 10, 11, 12, 13, 14, 15, 16] rfl (aw_L_hangs_525 hG hO84 hO115 h)
      · replace h := h.2 c3
        refine aw_iload 380 dL_hangs_378 16 rfl rfl ?_
        refine aw_aload_n 381 dL_hangs_380 rfl 0 rfl rfl ?_
        obtain ⟨g4, h⟩ := h
        obtain ⟨g5, h⟩ := h
        obtain ⟨g8, h⟩ := h
        refine aw_callV (M' := M_X4_session) 384 243 4 l0 [] [.int _] dL_hangs_381 lk_RL_243 mv_X4_session mp_X4_session rfl ⟨leb rfl, leb rfl⟩ rfl (ltb rfl) g8 rfl (leb rfl) g4 g5 rfl (am_X4_session hG h) (kkI fun v7 X6 h => ?_) (kxN KrI.no)
        refine aw_widen (cc' := cc) (ss' := ss) (Nat.le_refl _) (Nat.le_refl _) ?_
        refine aw_icmp_gt 524 387 dL_hangs_384 rfl rfl (fun c9 => ?_) (fun c9 => ?_)
        · replace h := h.1 c9
          refine aw_iconst 525 (v := 0) dL_hangs_524 kI_0 rfl ?_
          exact aw_pick [0, 1, 2, 3, 4, 5, 6, 7, 8, 9, 10, 11, 12, 13, 14, 15, 16] rfl (aw_L_hangs_525 hG hO84 hO115 h)
        · replace h := h.2 c9
          exact aw_pick [0, 1, 2, 3, 4, 5, 6, 7, 8, 9, 10, 11, 12, 13, 14, 15, 16, 17] rfl (aw_L_hangs_387 hG hO84 hO115 h)
set_option maxRecDepth 20000 in
theorem aw_L_hangs_764 {G : GG} (hG : G.1.stackTraces = false) {P84 : Nat → Int32 → Int32 → Int32 → Nat → Int32 → Nat → Nat → XH → Prop} {P651 : Nat → Int32 → Int32 → Int32 → Nat → Int32 → Int32 → Int32 → Int32 → Int32 → Int32 → Int32 → Int32 → Nat → Nat → XH → Prop} {l0 : Nat} {l1 : Int32} {l2 : Int32} {l4 : Nat} {l5 : Int32} {l6 : Int32} {l7 : Int32} {l8 : Int32} {l9 : Int32} {l10 : Int32} {l11 : Int32} {l12 : Int32} {s0 : Int32} {cc : Nat} {ss : Nat} {X : XH} {K : Int32 → XH → Prop} (hO84 : ∀ (l0 : Nat) (l1 : Int32) (l2 : Int32) (l3 : Int32) (l4 : Nat) (l5 : Int32) (cc : Nat) (ss : Nat) (X : XH), P84 l0 l1 l2 l3 l4 l5 cc ss X → AW G M_L_hangs 84 [(0, .ref l0), (1, .int l1), (2, .int l2), (3, .int l3), (4, .ref l4), (5, .int l5)] [] X cc ss (KrI K)) (hO651 : ∀ (l0 : Nat) (l1 : Int32) (l2 : Int32) (l3 : Int32) (l4 : Nat) (l5 : Int32) (l6 : Int32) (l7 : Int32) (l8 : Int32) (l9 : Int32) (l10 : Int32) (l11 : Int32) (l12 : Int32) (cc : Nat) (ss : Nat) (X : XH), P651 l0 l1 l2 l3 l4 l5 l6 l7 l8 l9 l10 l11 l12 cc ss X → AW G M_L_hangs 651 [(0, .ref l0), (1, .int l1), (2, .int l2), (3, .int l3), (4, .ref l4), (5, .int l5), (6, .int l6), (7, .int l7), (8, .int l8), (9, .int l9), (10, .int l10), (11, .int l11), (12, .int l12)] [] X cc ss (KrI K)) (h : w_L_hangs_764 P84 P651 l0 l1 l2 l4 l5 l6 l7 l8 l9 l10 l11 l12 s0 cc ss X K) : AW G M_L_hangs 764 [(0, .ref l0), (1, .int l1), (2, .int l2), (4, .ref l4), (5, .int l5), (6, .int l6), (7, .int l7), (8, .int l8), (9, .int l9), (10, .int l10), (11, .int l11), (12, .int l12)] [.int s0] X cc ss (KrI K) := by
  unfold w_L_hangs_764 at h
  refine aw_istore_n 765 (lv' := [(3, _), (0, _), (1, _), (2, _), (4, _), (5, _), (6, _), (7, _), (8, _), (9, _), (10, _), (11, _), (12, _)]) dL_hangs_764 rfl (ltb rfl) rfl rfl ?_
  refine aw_iload 767 dL_hangs_765 10 rfl rfl ?_
  refine aw_aload_n 768 dL_hangs_767 rfl 1 rfl rfl ?_
  refine aw_iload 770 dL_hangs_768 12 rfl rfl ?_
  refine aw_iload 772 dL_hangs_770 5 rfl rfl ?_
  obtain ⟨g1, h⟩ := h
  obtain ⟨g2, h⟩ := h
  refine aw_callSX (M' := M_L_framesOfVoice) 775 286 [.ref _, .int _, .int _] [.int _] dL_hangs_772 lk_RL_286 ms_L_framesOfVoice mp_L_framesOfVoice (0, 6, 7, 15) [] rfl ⟨leb rfl, leb rfl⟩ rfl (leb rfl) g1 g2 rfl (am_L_framesOfVoice hG h) (kkI fun v4 X3 h => ?_) (kxN KrI.no)
  refine aw_widen (cc' := cc + 2) (ss' := ss + 12) (Nat.le_refl _) (Nat.le_refl _) ?_
  refine aw_iadd 776 dL_hangs_775 rfl ?_
  refine aw_istore 778 (lv' := [(10, _), (3, _), (0, _), (1, _), (2, _), (4, _), (5, _), (6, _), (7, _), (8, _), (9, _), (11, _), (12, _)]) dL_hangs_776 (ltb rfl) rfl rfl ?_
  refine aw_iinc 781 (v := 1) (lv' := [(12, _), (10, _), (3, _), (0, _), (1, _), (2, _), (4, _), (5, _), (6, _), (7, _), (8, _), (9, _), (11, _)]) dL_hangs_778 12 rfl kI_1 (ltb rfl) rfl rfl ?_
  refine aw_goto 651 dL_hangs_781 rfl ?_
  exact aw_pick [3, 4, 5, 2, 6, 7, 8, 9, 10, 11, 1, 12, 0] rfl (hO651 _ _ _ _ _ _ _ _ _ _ _ _ _ _ _ _ h)
set_option maxRecDepth 20000 in
theorem aw_L_hangs_948 {G : GG} (hG : G.1.stackTraces = false) {P84 : Nat → Int32 → Int32 → Int32 → Nat → Int32 → Nat → Nat → XH → Prop} {P798 : Nat → Int32 → Int32 → Int32 → Nat → Int32 → Int32 → Int32 → Int32 → Int32 → Int32 → Int32 → Int32 → Int32 → Nat → Nat → XH → Prop} {l0 : Nat} {l1 : Int32} {l2 : Int32} {l4 : Nat} {l5 : Int32} {l6 : Int32} {l7 : Int32} {l8 : Int32} {l9 : Int32} {l10 : Int32} {l11 : Int32} {l12 : Int32} {l13 : Int32} {l14 : Int32} {s0 : Int32} {cc : Nat} {ss : Nat} {X : XH} {K : Int32 → XH → Prop} (hO84 : ∀ (l0 : Nat) (l1 : Int32) (l2 : Int32) (l3 : Int32) (l4 : Nat) (l5 : Int32) (cc : Nat) (ss : Nat) (X : XH), P84 l0 l1 l2 l3 l4 l5 cc ss X → AW G M_L_hangs 84 [(0, .ref l0), (1, .int l1), (2, .int l2), (3, .int l3), (4, .ref l4), (5, .int l5)] [] X cc ss (KrI K)) (hO798 : ∀ (l0 : Nat) (l1 : Int32) (l2 : Int32) (l3 : Int32) (l4 : Nat) (l5 : Int32) (l6 : Int32) (l7 : Int32) (l8 : Int32) (l9 : Int32) (l10 : Int32) (l11 : Int32) (l12 : Int32) (l13 : Int32) (cc : Nat) (ss : Nat) (X : XH), P798 l0 l1 l2 l3 l4 l5 l6 l7 l8 l9 l10 l11 l12 l13 cc ss X → AW G M_L_hangs 798 [(0, .ref l0), (1, .int l1), (2, .int l2), (3, .int l3), (4, .ref l4), (5, .int l5), (6, .int l6), (7, .int l7), (8, .int l8), (9, .int l9), (10, .int l10), (11, .int l11), (12, .int l12), (13, .int l13)] [] X cc ss (KrI K)) (h : w_L_hangs_948 P84 P798 l0 l1 l2 l4 l5 l6 l7 l8 l9 l10 l11 l12 l13 l14 s0 cc ss X K) : AW G M_L_hangs 948 [(0, .ref l0), (1, .int l1), (2, .int l2), (4, .ref l4), (5, .int l5), (6, .int l6), (7, .int l7), (8, .int l8), (9, .int l9), (10, .int l10), (11, .int l11), (12, .int l12), (13, .int l13), (14, .int l14)] [.int s0] X cc ss (KrI K) := by
  unfold w_L_hangs_948 at h
  refine aw_istore_n 949 (lv' := [(3, _), (0, _), (1, _), (2, _), (4, _), (5, _), (6, _), (7, _), (8, _), (9, _), (10, _), (11, _), (12, _), (13, _), (14, _)]) dL_hangs_948 rfl (ltb rfl) rfl rfl ?_
  refine aw_iload 951 dL_hangs_949 12 rfl rfl ?_
  refine aw_if_eq 983 954 dL_hangs_951 rfl rfl (fun c1 => ?_) (fun c1 => ?_)
  · replace h := h.1 c1
    refine aw_iconst 984 (v := 0) dL_hangs_983 kI_0 rfl ?_
    refine aw_istore 986 (lv' := [(12, _), (3, _), (0, _), (1, _), (2, _), (4, _), (5, _), (6, _), (7, _), (8, _), (9, _), (10, _), (11, _), (13, _), (14, _)]) dL_hangs_984 (ltb rfl) rfl rfl ?_
    refine aw_iinc 989 (v := 1) (lv' := [(13, _), (12, _), (3, _), (0, _), (1, _), (2, _), (4, _), (5, _), (6, _), (7, _), (8, _), (9, _), (10, _), (11, _), (14, _)]) dL_hangs_986 13 rfl kI_1 (ltb rfl) rfl rfl ?_
    refine aw_goto 798 dL_hangs_989 rfl ?_
    exact aw_pick [3, 4, 5, 2, 6, 7, 8, 9, 10, 11, 12, 13, 1, 0] rfl (hO798 _ _ _ _ _ _ _ _ _ _ _ _ _ _ _ _ _ h)
  · replace h := h.2 c1
    refine aw_aload_n 955 dL_hangs_954 rfl 1 rfl rfl ?_
    refine aw_iload 957 dL_hangs_955 13 rfl rfl ?_
    obtain ⟨g2, h⟩ := h
    obtain ⟨g3, h⟩ := h
    refine aw_callSX (M' := M_L_reelAt) 960 295 [.ref _, .int _] [] dL_hangs_957 lk_RL_295 ms_L_reelAt mp_L_reelAt (0, 14, 15, 15) [] rfl ⟨leb rfl, leb rfl⟩ rfl (leb rfl) g2 g3 rfl (am_L_reelAt hG h) (kkI fun v5 X4 h => ?_) (kxN KrI.no)
    refine aw_widen (cc' := cc + 2) (ss' := ss + 12) (Nat.le_refl _) (Nat.le_refl _) ?_
    refine aw_if_eq 979 963 dL_hangs_960 rfl rfl (fun c6 => ?_) (fun c6 => ?_)
    · replace h := h.1 c6
      refine aw_iconst 980 (v := 1) dL_hangs_979 kI_1 rfl ?_
      refine aw_goto 984 dL_hangs_980 rfl ?_
      refine aw_istore 986 (lv' := [(12, _), (3, _), (0, _), (1, _), (2, _), (4, _), (5, _), (6, _), (7, _), (8, _), (9, _), (10, _), (11, _), (13, _), (14, _)]) dL_hangs_984 (ltb rfl) rfl rfl ?_
      refine aw_iinc 989 (v := 1) (lv' := [(13, _), (12, _), (3, _), (0, _), (1, _), (2, _), (4, _), (5, _), (6, _), (7, _), (8, _), (9, _), (10, _), (11, _), (14, _)]) dL_hangs_986 13 rfl kI_1 (ltb rfl) rfl rfl ?_
      refine aw_goto 798 dL_hangs_989 rfl ?_
      exact aw_pick [3, 4, 5, 2, 6, 7, 8, 9, 10, 11, 12, 13, 1, 0] rfl (hO798 _ _ _ _ _ _ _ _ _ _ _ _ _ _ _ _ _ h)
    · replace h := h.2 c6
      refine aw_iload 965 dL_hangs_963 14 rfl rfl ?_
      refine aw_bipush 967 (v := 10) dL_hangs_965 kB_10 rfl ?_
      refine aw_irem 968 dL_hangs_967 (by decide) rfl ?_
      refine aw_iconst 969 (v := 3) dL_hangs_968 kI_3 rfl ?_
      refine aw_icmp_ne 983 972 dL_hangs_969 rfl rfl (fun c7 => ?_) (fun c7 => ?_)
      · replace h := h.1 c7
        refine aw_iconst 984 (v := 0) dL_hangs_983 kI_0 rfl ?_
        refine aw_istore 986 (lv' := [(12, _), (3, _), (0, _), (1, _), (2, _), (4, _), (5, _), (6, _), (7, _), (8, _), (9, _), (10, _), (11, _), (13, _), (14, _)]) dL_hangs_984 (ltb rfl) rfl rfl ?_
        refine aw_iinc 989 (v := 1) (lv' := [(13, _), (12, _), (3, _), (0, _), (1, _), (2, _), (4, _), (5, _), (6, _), (7, _), (8, _), (9, _), (10, _), (11, _), (14, _)]) dL_hangs_986 13 rfl kI_1 (ltb rfl) rfl rfl ?_
        refine aw_goto 798 dL_hangs_989 rfl ?_
        exact aw_pick [3, 4, 5, 2, 6, 7, 8, 9, 10, 11, 12, 13, 1, 0] rfl (hO798 _ _ _ _ _ _ _ _ _ _ _ _ _ _ _ _ _ h)
      · replace h := h.2 c7
        refine aw_iload 974 dL_hangs_972 14 rfl rfl ?_
        refine aw_bipush 976 (v := 100) dL_hangs_974 kB_100 rfl ?_
        refine aw_icmp_ge 983 979 dL_hangs_976 rfl rfl (fun c8 => ?_) (fun c8 => ?_)
        · replace h := h.1 c8
          refine aw_iconst 984 (v := 0) dL_hangs_983 kI_0 rfl ?_
          refine aw_istore 986 (lv' := [(12, _), (3, _), (0, _), (1, _), (2, _), (4, _), (5, _), (6, _), (7, _), (8, _), (9, _), (10, _), (11, _), (13, _), (14, _)]) dL_hangs_984 (ltb rfl) rfl rfl ?_
          refine aw_iinc 989 (v := 1) (lv' := [(13, _), (12, _), (3, _), (0, _), (1, _), (2, _), (4, _), (5, _), (6, _), (7, _), (8, _), (9, _), (10, _), (11, _), (14, _)]) dL_hangs_986 13 rfl kI_1 (ltb rfl) rfl rfl ?_
          refine aw_goto 798 dL_hangs_989 rfl ?_
          exact aw_pick [3, 4, 5, 2, 6, 7, 8, 9, 10, 11, 12, 13, 1, 0] rfl (hO798 _ _ _ _ _ _ _ _ _ _ _ _ _ _ _ _ _ h)
        · replace h := h.2 c8
          refine aw_iconst 980 (v := 1) dL_hangs_979 kI_1 rfl ?_
          refine aw_goto 984 dL_hangs_980 rfl ?_
          refine aw_istore 986 (lv' := [(12, _), (3, _), (0, _), (1, _), (2, _), (4, _), (5, _), (6, _), (7, _), (8, _), (9, _), (10, _), (11, _), (13, _), (14, _)]) dL_hangs_984 (ltb rfl) rfl rfl ?_
          refine aw_iinc 989 (v := 1) (lv' := [(13, _), (12, _), (3, _), (0, _), (1, _), (2, _), (4, _), (5, _), (6, _), (7, _), (8, _), (9, _), (10, _), (11, _), (14, _)]) dL_hangs_986 13 rfl kI_1 (ltb rfl) rfl rfl ?_
          refine aw_goto 798 dL_hangs_989 rfl ?_
          exact aw_pick [3, 4, 5, 2, 6, 7, 8, 9, 10, 11, 12, 13, 1, 0] rfl (hO798 _ _ _ _ _ _ _ _ _ _ _ _ _ _ _ _ _ h)
set_option maxRecDepth 20000 in
theorem aw_L_hangs_929 {G : GG} (hG : G.1.stackTraces = false) {P84 : Nat → Int32 → Int32 → Int32 → Nat → Int32 → Nat → Nat → XH → Prop} {P798 : Nat → Int32 → Int32 → Int32 → Nat → Int32 → Int32 → Int32 → Int32 → Int32 → Int32 → Int32 → Int32 → Int32 → Nat → Nat → XH → Prop} {l0 : Nat} {l1 : Int32} {l2 : Int32} {l4 : Nat} {l5 : Int32} {l6 : Int32} {l7 : Int32} {l8 : Int32} {l9 : Int32} {l10 : Int32} {l11 : Int32} {l12 : Int32} {l13 : Int32} {l14 : Int32} {l15 : Int32} {cc : Nat} {ss : Nat} {X : XH} {K : Int32 → XH → Prop} (hO84 : ∀ (l0 : Nat) (l1 : Int32) (l2 : Int32) (l3 : Int32) (l4 : Nat) (l5 : Int32) (cc : Nat) (ss : Nat) (X : XH), P84 l0 l1 l2 l3 l4 l5 cc ss X → AW G M_L_hangs 84 [(0, .ref l0), (1, .int l1), (2, .int l2), (3, .int l3), (4, .ref l4), (5, .int l5)] [] X cc ss (KrI K)) (hO798 : ∀ (l0 : Nat) (l1 : Int32) (l2 : Int32) (l3 : Int32) (l4 : Nat) (l5 : Int32) (l6 : Int32) (l7 : Int32) (l8 : Int32) (l9 : Int32) (l10 : Int32) (l11 : Int32) (l12 : Int32) (l13 : Int32) (cc : Nat) (ss : Nat) (X : XH), P798 l0 l1 l2 l3 l4 l5 l6 l7 l8 l9 l10 l11 l12 l13 cc ss X → AW G M_L_hangs 798 [(0, .ref l0), (1, .int l1), (2, .int l2), (3, .int l3), (4, .ref l4), (5, .int l5), (6, .int l6), (7, .int l7), (8, .int l8), (9, .int l9), (10, .int l10), (11, .int l11), (12, .int l12), (13, .int l13)] [] X cc ss (KrI K)) (h : w_L_hangs_929 P84 P798 l0 l1 l2 l4 l5 l6 l7 l8 l9 l10 l11 l12 l13 l14 l15 cc ss X K) : AW G M_L_hangs 929 [(0, .ref l0), (1, .int l1), (2, .int l2), (4, .ref l4), (5, .int l5), (6, .int l6), (7, .int l7), (8, .int l8), (9, .int l9), (10, .int l10), (11, .int l11), (12, .int l12), (13, .int l13), (14, .int l14), (15, .int l15)] [] X cc ss (KrI K) := by
  unfold w_L_hangs_929 at h
  refine aw_iload 931 dL_hangs_929 13 rfl rfl ?_
  refine aw_bipush 933 (v := 10) dL_hangs_931 kB_10 rfl ?_
  refine aw_irem 934 dL_hangs_933 (by decide) rfl ?_
  refine aw_iconst 935 (v := 3) dL_hangs_934 kI_3 rfl ?_
  refine aw_icmp_eq 943 938 dL_hangs_935 rfl rfl (fun c1 => ?_) (fun c1 => ?_)
  · replace h := h.1 c1
    refine aw_iconst 944 (v := 1) dL_hangs_943 kI_1 rfl ?_
    refine aw_goto 948 dL_hangs_944 rfl ?_
    exact aw_pick [0, 1, 2, 3, 4, 5, 6, 7, 8, 9, 10, 11, 12, 13] rfl (aw_L_hangs_948 hG hO84 hO798 h)
  · replace h := h.2 c1
    refine aw_iload 940 dL_hangs_938 14 rfl rfl ?_
    refine aw_if_ne 947 943 dL_hangs_940 rfl rfl (fun c2 => ?_) (fun c2 => ?_)
    · replace h := h.1 c2
      refine aw_iconst 948 (v := 0) dL_hangs_947 kI_0 rfl ?_
      exact aw_pick [0, 1, 2, 3, 4, 5, 6, 7, 8, 9, 10, 11, 12, 13] rfl (aw_L_hangs_948 hG hO84 hO798 h)
    · replace h := h.2 c2
      refine aw_iconst 944 (v := 1) dL_hangs_943 kI_1 rfl ?_
      refine aw_goto 948 dL_hangs_944 rfl ?_
      exact aw_pick [0, 1, 2, 3, 4, 5, 6, 7, 8, 9, 10, 11, 12, 13] rfl (aw_L_hangs_948 hG hO84 hO798 h)
set_option maxRecDepth 20000 in
theorem aw_L_hangs_824 {G : GG} (hG : G.1.stackTraces = false) {P84 : Nat → Int32 → Int32 → Int32 → Nat → Int32 → Nat → Nat → XH → Prop} {P798 : Nat → Int32 → Int32 → Int32 → Nat → Int32 → Int32 → Int32 → Int32 → Int32 → Int32 → Int32 → Int32 → Int32 → Nat → Nat → XH → Prop} {l0 : Nat} {l1 : Int32} {l2 : Int32} {l3 : Int32} {l4 : Nat} {l5 : Int32} {l6 : Int32} {l7 : Int32} {l8 : Int32} {l9 : Int32} {l10 : Int32} {l11 : Int32} {l12 : Int32} {l13 : Int32} {l14 : Int32} {l15 : Int32} {l16 : Int32} {cc : Nat} {ss : Nat} {X : XH} {K : Int32 → XH → Prop} (hO84 : ∀ (l0 : Nat) (l1 : Int32) (l2 : Int32) (l3 : Int32) (l4 : Nat) (l5 : Int32) (cc : Nat) (ss : Nat) (X : XH), P84 l0 l1 l2 l3 l4 l5 cc ss X → AW G M_L_hangs 84 [(0, .ref l0), (1, .int l1), (2, .int l2), (3, .int l3), (4, .ref l4), (5, .int l5)] [] X cc ss (KrI K)) (hO798 : ∀ (l0 : Nat) (l1 : Int32) (l2 : Int32) (l3 : Int32) (l4 : Nat) (l5 : Int32) (l6 : Int32) (l7 : Int32) (l8 : Int32) (l9 : Int32) (l10 : Int32) (l11 : Int32) (l12 : Int32) (l13 : Int32) (cc : Nat) (ss : Nat) (X : XH), P798 l0 l1 l2 l3 l4 l5 l6 l7 l8 l9 l10 l11 l12 l13 cc ss X → AW G M_L_hangs 798 [(0, .ref l0), (1, .int l1), (2, .int l2), (3, .int l3), (4, .ref l4), (5, .int l5), (6, .int l6), (7, .int l7), (8, .int l8), (9, .int l9), (10, .int l10), (11, .int l11), (12, .int l12), (13, .int l13)] [] X cc ss (KrI K)) (h : w_L_hangs_824 P84 P798 l0 l1 l2 l3 l4 l5 l6 l7 l8 l9 l10 l11 l12 l13 l14 l15 l16 cc ss X K) : AW G M_L_hangs 824 [(0, .ref l0), (1, .int l1), (2, .int l2), (3, .int l3), (4, .ref l4), (5, .int l5), (6, .int l6), (7, .int l7), (8, .int l8), (9, .int l9), (10, .int l10), (11, .int l11), (12, .int l12), (13, .int l13), (14, .int l14), (15, .int l15), (16, .int l16)] [] X cc ss (KrI K) :=
  h (fun l0 l1 l2 l3 l4 l5 l6 l7 l8 l9 l10 l11 l12 l13 l14 l15 l16 cc ss X => AW G M_L_hangs 824 [(0, .ref l0), (1, .int l1), (2, .int l2), (3, .int l3), (4, .ref l4), (5, .int l5), (6, .int l6), (7, .int l7), (8, .int l8), (9, .int l9), (10, .int l10), (11, .int l11), (12, .int l12), (13, .int l13), (14, .int l14), (15, .int l15), (16, .int l16)] [] X cc ss (KrI K)) (fun l0 l1 l2 l3 l4 l5 l6 l7 l8 l9 l10 l11 l12 l13 l14 l15 l16 cc ss X h => by
    refine aw_iload 826 dL_hangs_824 16 rfl rfl ?_
    refine aw_iconst 827 (v := 5) dL_hangs_826 kI_5 rfl ?_
    refine aw_icmp_ge 886 830 dL_hangs_827 rfl rfl (fun c1 => ?_) (fun c1 => ?_)
    · replace h := h.1 c1
      refine aw_iload_n 887 dL_hangs_886 rfl 3 rfl rfl ?_
      refine aw_if_eq 947 890 dL_hangs_887 rfl rfl (fun c2 => ?_) (fun c2 => ?_)
      · replace h := h.1 c2
        refine aw_iconst 948 (v := 0) dL_hangs_947 kI_0 rfl ?_
        exact aw_pick [0, 1, 2, 4, 5, 6, 7, 8, 9, 10, 11, 12, 13, 14] rfl (aw_L_hangs_948 hG hO84 hO798 h)
      · replace h := h.2 c2
        refine aw_iload 892 dL_hangs_890 14 rfl rfl ?_
        refine aw_bipush 894 (v := 10) dL_hangs_892 kB_10 rfl ?_
        refine aw_idiv 895 dL_hangs_894 (by decide) rfl ?_
        refine aw_bipush 897 (v := 10) dL_hangs_895 kB_10 rfl ?_
        refine aw_irem 898 dL_hangs_897 (by decide) rfl ?_
        refine aw_iload 900 dL_hangs_898 15 rfl rfl ?_
        refine aw_icmp_ne 947 903 dL_hangs_900 rfl rfl (fun c3 => ?_) (fun c3 => ?_)
        · replace h := h.1 c3
          refine aw_iconst 948 (v := 0) dL_hangs_947 kI_0 rfl ?_
          exact aw_pick [0, 1, 2, 4, 5, 6, 7, 8, 9, 10, 11, 12, 13, 14] rfl (aw_L_hangs_948 hG hO84 hO798 h)
        · replace h := h.2 c3
          refine aw_iload 905 dL_hangs_903 14 rfl rfl ?_
          refine aw_bipush 907 (v := 10) dL_hangs_905 kB_10 rfl ?_
          refine aw_irem 908 dL_hangs_907 (by decide) rfl ?_
          refine aw_if_eq 929 911 dL_hangs_908 rfl rfl (fun c4 => ?_) (fun c4 => ?_)
          · replace h := h.1 c4
            exact aw_pick [0, 1, 2, 4, 5, 6, 7, 8, 9, 10, 11, 12, 13, 14, 15] rfl (aw_L_hangs_929 hG hO84 hO798 h)
          · replace h := h.2 c4
            refine aw_iload 913 dL_hangs_911 14 rfl rfl ?_
            refine aw_bipush 915 (v := 10) dL_hangs_913 kB_10 rfl ?_
            refine aw_irem 916 dL_hangs_915 (by decide) rfl ?_
            refine aw_iconst 917 (v := 1) dL_hangs_916 kI_1 rfl ?_
            refine aw_icmp_eq 929 920 dL_hangs_917 rfl rfl (fun c5 => ?_) (fun c5 => ?_)
            · replace h := h.1 c5
              exact aw_pick [0, 1, 2, 4, 5, 6, 7, 8, 9, 10, 11, 12, 13, 14, 15] rfl (aw_L_hangs_929 hG hO84 hO798 h)
            · replace h := h.2 c5
              refine aw_iload 922 dL_hangs_920 14 rfl rfl ?_
              refine aw_bipush 924 (v := 10) dL_hangs_922 kB_10 rfl ?_
              refine aw_irem 925 dL_hangs_924 (by decide) rfl ?_
              refine aw_iconst 926 (v := 3) dL_hangs_925 kI_3 rfl ?_
              refine aw_icmp_ne 947 929 dL_hangs_926 rfl rfl (fun c6 => ?_) (fun c6 => ?_)
              · replace h := h.1 c6
                refine aw_iconst 948 (v := 0) dL_hangs_947 kI_0 rfl ?_
                exact aw_pick [0, 1, 2, 4, 5, 6, 7, 8, 9, 10, 11, 12, 13, 14] rfl (aw_L_hangs_948 hG hO84 hO798 h)
              · replace h := h.2 c6
                exact aw_pick [0, 1, 2, 4, 5, 6, 7, 8, 9, 10, 11, 12, 13, 14, 15] rfl (aw_L_hangs_929 hG hO84 hO798 h)
    · replace h := h.2 c1
      refine aw_iload 832 dL_hangs_830 15 rfl rfl ?_
      refine aw_aload_n 833 dL_hangs_832 rfl 0 rfl rfl ?_
      refine aw_iload 835 dL_hangs_833 16 rfl rfl ?_
      refine aw_iload 837 dL_hangs_835 13 rfl rfl ?_
      refine aw_iload 839 dL_hangs_837 5 rfl rfl ?_
      obtain ⟨g7, h⟩ := h
      obtain ⟨g8, h⟩ := h
      refine aw_callSX (M' := M_L_hasSigned) 842 291 [.ref _, .int _, .int _, .int _] [.int _] dL_hangs_839 lk_RL_291 ms_L_hasSigned mp_L_hasSigned (0, 15, 16, 15) [] rfl ⟨leb rfl, leb rfl⟩ rfl (leb rfl) g7 g8 rfl (am_L_hasSigned hG h) (kkI fun v10 X9 h => ?_) (kxN KrI.no)
      refine aw_widen (cc' := cc + 3) (ss' := ss + 18) (Nat.le_refl _) (Nat.le_refl _) ?_
      refine aw_iadd 843 dL_hangs_842 rfl ?_
      refine aw_istore 845 (lv' := [(15, _), (0, _), (1, _), (2, _), (3, _), (4, _), (5, _), (6, _), (7, _), (8, _), (9, _), (10, _), (11, _), (12, _), (13, _), (14, _), (16, _)]) dL_hangs_843 (ltb rfl) rfl rfl ?_
      refine aw_iload_n 846 dL_hangs_845 rfl 4 rfl rfl ?_
      refine aw_if_eq 878 849 dL_hangs_846 rfl rfl (fun c11 => ?_) (fun c11 => ?_)
      · replace h := h.1 c11
        refine aw_iconst 879 (v := 0) dL_hangs_878 kI_0 rfl ?_
        refine aw_istore_n 880 (lv' := [(3, _), (15, _), (0, _), (1, _), (2, _), (4, _), (5, _), (6, _), (7, _), (8, _), (9, _), (10, _), (11, _), (12, _), (13, _), (14, _), (16, _)]) dL_hangs_879 rfl (ltb rfl) rfl rfl ?_
        refine aw_iinc 883 (v := 1) (lv' := [(16, _), (3, _), (15, _), (0, _), (1, _), (2, _), (4, _), (5, _), (6, _), (7, _), (8, _), (9, _), (10, _), (11, _), (12, _), (13, _), (14, _)]) dL_hangs_880 16 rfl kI_1 (ltb rfl) rfl rfl ?_
        refine aw_goto 824 dL_hangs_883 rfl ?_
        exact aw_pick [3, 4, 5, 1, 6, 7, 8, 9, 10, 11, 12, 13, 14, 15, 16, 2, 0] rfl h
      · replace h := h.2 c11
        refine aw_aload_n 850 dL_hangs_849 rfl 1 rfl rfl ?_
        refine aw_iload 852 dL_hangs_850 16 rfl rfl ?_
        refine aw_iload 854 dL_hangs_852 14 rfl rfl ?_
        refine aw_iload 856 dL_hangs_854 6 rfl rfl ?_
        obtain ⟨g12, h⟩ := h
        obtain ⟨g13, h⟩ := h
        refine aw_callSX (M' := M_L_hasSigned) 859 291 [.ref _, .int _, .int _, .int _] [] dL_hangs_856 lk_RL_291 ms_L_hasSigned mp_L_hasSigned (0, 15, 16, 15) [] rfl ⟨leb rfl, leb rfl⟩ rfl (leb rfl) g12 g13 rfl (am_L_hasSigned hG h) (kkI fun v15 X14 h => ?_) (kxN KrI.no)
        refine aw_widen (cc' := cc + 6) (ss' := ss + 36) (Nat.le_refl _) (Nat.le_refl _) ?_
        refine aw_if_eq 874 862 dL_hangs_859 rfl rfl (fun c16 => ?_) (fun c16 => ?_)
        · replace h := h.1 c16
          refine aw_iconst 875 (v := 1) dL_hangs_874 kI_1 rfl ?_
          refine aw_goto 879 dL_hangs_875 rfl ?_
          refine aw_istore_n 880 (lv' := [(3, _), (15, _), (0, _), (1, _), (2, _), (4, _), (5, _), (6, _), (7, _), (8, _), (9, _), (10, _), (11, _), (12, _), (13, _), (14, _), (16, _)]) dL_hangs_879 rfl (ltb rfl) rfl rfl ?_
          refine aw_iinc 883 (v := 1) (lv' := [(16, _), (3, _), (15, _), (0, _), (1, _), (2, _), (4, _), (5, _), (6, _), (7, _), (8, _), (9, _), (10, _), (11, _), (12, _), (13, _), (14, _)]) dL_hangs_880 16 rfl kI_1 (ltb rfl) rfl rfl ?_
          refine aw_goto 824 dL_hangs_883 rfl ?_
          exact aw_pick [3, 4, 5, 1, 6, 7, 8, 9, 10, 11, 12, 13, 14, 15, 16, 2, 0] rfl h
        · replace h := h.2 c16
          refine aw_aload_n 863 dL_hangs_862 rfl 1 rfl rfl ?_
          refine aw_iload 865 dL_hangs_863 16 rfl rfl ?_
          refine aw_iload 867 dL_hangs_865 14 rfl rfl ?_
          obtain ⟨g17, h⟩ := h
          obtain ⟨g18, h⟩ := h
          refine aw_callSX (M' := M_L_speaksIn) 870 293 [.ref _, .int _, .int _] [] dL_hangs_867 lk_RL_293 ms_L_speaksIn mp_L_speaksIn (0, 14, 15, 15) [] rfl ⟨leb rfl, leb rfl⟩ rfl (leb rfl) g17 g18 rfl (am_L_speaksIn hG h) (kkI fun v20 X19 h => ?_) (kxN KrI.no)
          refine aw_widen (cc' := cc + 8) (ss' := ss + 48) (Nat.le_refl _) (Nat.le_refl _) ?_
          refine aw_iconst 871 (v := 1) dL_hangs_870 kI_1 rfl ?_
          refine aw_icmp_ne 878 874 dL_hangs_871 rfl rfl (fun c21 => ?_) (fun c21 => ?_)
          · replace h := h.1 c21
            refine aw_iconst 879 (v := 0) dL_hangs_878 kI_0 rfl ?_
            refine aw_istore_n 880 (lv' := [(3, _), (15, _), (0, _), (1, _), (2, _), (4, _), (5, _), (6, _), (7, _), (8, _), (9, _), (10, _), (11, _), (12, _), (13, _), (14, _), (16, _)]) dL_hangs_879 rfl (ltb rfl) rfl rfl ?_
            refine aw_iinc 883 (v := 1) (lv' := [(16, _), (3, _), (15, _), (0, _), (1, _), (2, _), (4, _), (5, _), (6, _), (7, _), (8, _), (9, _), (10, _), (11, _), (12, _), (13, _), (14, _)]) dL_hangs_880 16 rfl kI_1 (ltb rfl) rfl rfl ?_
            refine aw_goto 824 dL_hangs_883 rfl ?_
            exact aw_pick [3, 4, 5, 1, 6, 7, 8, 9, 10, 11, 12, 13, 14, 15, 16, 2, 0] rfl h
          · replace h := h.2 c21
            refine aw_iconst 875 (v := 1) dL_hangs_874 kI_1 rfl ?_
            refine aw_goto 879 dL_hangs_875 rfl ?_
            refine aw_istore_n 880 (lv' := [(3, _), (15, _), (0, _), (1, _), (2, _), (4, _), (5, _), (6, _), (7, _), (8, _), (9, _), (10, _), (11, _), (12, _), (13, _), (14, _), (16, _)]) dL_hangs_879 rfl (ltb rfl) rfl rfl ?_
            refine aw_iinc 883 (v := 1) (lv' := [(16, _), (3, _), (15, _), (0, _), (1, _), (2, _), (4, _), (5, _), (6, _), (7, _), (8, _), (9, _), (10, _), (11, _), (12, _), (13, _), (14, _)]) dL_hangs_880 16 rfl kI_1 (ltb rfl) rfl rfl ?_
            refine aw_goto 824 dL_hangs_883 rfl ?_
            exact aw_pick [3, 4, 5, 1, 6, 7, 8, 9, 10, 11, 12, 13, 14, 15, 16, 2, 0] rfl h)
set_option maxRecDepth 20000 in
theorem aw_L_hangs_1094 {G : GG} (hG : G.1.stackTraces = false) {P84 : Nat → Int32 → Int32 → Int32 → Nat → Int32 → Nat → Nat → XH → Prop} {l0 : Nat} {l1 : Int32} {l2 : Int32} {l4 : Nat} {l5 : Int32} {l9 : Int32} {cc : Nat} {ss : Nat} {X : XH} {K : Int32 → XH → Prop} (hO84 : ∀ (l0 : Nat) (l1 : Int32) (l2 : Int32) (l3 : Int32) (l4 : Nat) (l5 : Int32) (cc : Nat) (ss : Nat) (X : XH), P84 l0 l1 l2 l3 l4 l5 cc ss X → AW G M_L_hangs 84 [(0, .ref l0), (1, .int l1), (2, .int l2), (3, .int l3), (4, .ref l4), (5, .int l5)] [] X cc ss (KrI K)) (h : w_L_hangs_1094 P84 l0 l1 l2 l4 l5 l9 cc ss X K) : AW G M_L_hangs 1094 [(0, .ref l0), (1, .int l1), (2, .int l2), (4, .ref l4), (5, .int l5), (9, .int l9)] [] X cc ss (KrI K) := by
  unfold w_L_hangs_1094 at h
  refine aw_aload_n 1095 dL_hangs_1094 rfl 0 rfl rfl ?_
  refine aw_iload 1097 dL_hangs_1095 4 rfl rfl ?_
  obtain ⟨g1, h⟩ := h
  obtain ⟨g2, h⟩ := h
  refine aw_callSX (M' := M_L_meanFit) 1100 306 [.ref _, .int _] [] dL_hangs_1097 lk_RL_306 ms_L_meanFit mp_L_meanFit (0, 5, 6, 15) [] rfl ⟨leb rfl, leb rfl⟩ rfl (leb rfl) g1 g2 rfl (am_L_meanFit hG h) (kkD fun v4 X3 h => ?_) (kxN KrD.no)
  refine aw_widen (cc' := cc + 1) (ss' := ss + 6) (Nat.le_refl _) (Nat.le_refl _) ?_
  refine aw_dconst0 1101 dL_hangs_1100 rfl ?_
  refine aw_dcmp 1102 dL_hangs_1101 rfl ?_
  refine aw_if_lt 1109 1105 dL_hangs_1102 rfl rfl (fun c5 => ?_) (fun c5 => ?_)
  · replace h := h.1 c5
    refine aw_iconst 1110 (v := 0) dL_hangs_1109 kI_0 rfl ?_
    refine aw_istore_n 1111 (lv' := [(3, _), (0, _), (1, _), (2, _), (4, _), (5, _), (9, _)]) dL_hangs_1110 rfl (ltb rfl) rfl rfl ?_
    refine aw_iload_n 1112 dL_hangs_1111 rfl 3 rfl rfl ?_
    refine aw_iload 1114 dL_hangs_1112 6 rfl rfl ?_
    refine aw_iadd 1115 dL_hangs_1114 rfl ?_
    refine aw_istore_n 1116 (lv' := [(2, _), (3, _), (0, _), (1, _), (4, _), (5, _), (9, _)]) dL_hangs_1115 rfl (ltb rfl) rfl rfl ?_
    refine aw_iinc 1119 (v := 1) (lv' := [(5, _), (2, _), (3, _), (0, _), (1, _), (4, _), (9, _)]) dL_hangs_1116 5 rfl kI_1 (ltb rfl) rfl rfl ?_
    refine aw_goto 84 dL_hangs_1119 rfl ?_
    exact aw_pick [3, 4, 1, 2, 5, 0] rfl (hO84 _ _ _ _ _ _ _ _ _ h)
  · replace h := h.2 c5
    refine aw_iconst 1106 (v := 1) dL_hangs_1105 kI_1 rfl ?_
    refine aw_goto 1110 dL_hangs_1106 rfl ?_
    refine aw_istore_n 1111 (lv' := [(3, _), (0, _), (1, _), (2, _), (4, _), (5, _), (9, _)]) dL_hangs_1110 rfl (ltb rfl) rfl rfl ?_
    refine aw_iload_n 1112 dL_hangs_1111 rfl 3 rfl rfl ?_
    refine aw_iload 1114 dL_hangs_1112 6 rfl rfl ?_
    refine aw_iadd 1115 dL_hangs_1114 rfl ?_
    refine aw_istore_n 1116 (lv' := [(2, _), (3, _), (0, _), (1, _), (4, _), (5, _), (9, _)]) dL_hangs_1115 rfl (ltb rfl) rfl rfl ?_
    refine aw_iinc 1119 (v := 1) (lv' := [(5, _), (2, _), (3, _), (0, _), (1, _), (4, _), (9, _)]) dL_hangs_1116 5 rfl kI_1 (ltb rfl) rfl rfl ?_
    refine aw_goto 84 dL_hangs_1119 rfl ?_
    exact aw_pick [3, 4, 1, 2, 5, 0] rfl (hO84 _ _ _ _ _ _ _ _ _ h)
set_option maxRecDepth 20000 in
theorem aw_L_hangs_1036 {G : GG} (hG : G.1.stackTraces = false) {P84 : Nat → Int32 → Int32 → Int32 → Nat → Int32 → Nat → Nat → XH → Prop} {l0 : Nat} {l1 : Int32} {l2 : Int32} {l4 : Nat} {l5 : Int32} {l6 : Int32} {l7 : Int32} {l9 : Int32} {l10 : Int32} {l11 : Int32} {l13 : Int32} {s0 : Int32} {s1 : Int32} {s2 : Int32} {cc : Nat} {ss : Nat} {X : XH} {K : Int32 → XH → Prop} (hO84 : ∀ (l0 : Nat) (l1 : Int32) (l2 : Int32) (l3 : Int32) (l4 : Nat) (l5 : Int32) (cc : Nat) (ss : Nat) (X : XH), P84 l0 l1 l2 l3 l4 l5 cc ss X → AW G M_L_hangs 84 [(0, .ref l0), (1, .int l1), (2, .int l2), (3, .int l3), (4, .ref l4), (5, .int l5)] [] X cc ss (KrI K)) (h : w_L_hangs_1036 P84 l0 l1 l2 l4 l5 l6 l7 l9 l10 l11 l13 s0 s1 s2 cc ss X K) : AW G M_L_hangs 1036 [(0, .ref l0), (1, .int l1), (2, .int l2), (4, .ref l4), (5, .int l5), (6, .int l6), (7, .int l7), (9, .int l9), (10, .int l10), (11, .int l11), (13, .int l13)] [.int s2, .int s1, .int s0] X cc ss (KrI K) := by
  unfold w_L_hangs_1036 at h
  refine aw_iadd 1037 dL_hangs_1036 rfl ?_
  refine aw_icmp_ne 1109 1040 dL_hangs_1037 rfl rfl (fun c1 => ?_) (fun c1 => ?_)
  · replace h := h.1 c1
    refine aw_iconst 1110 (v := 0) dL_hangs_1109 kI_0 rfl ?_
    refine aw_istore_n 1111 (lv' := [(3, _), (0, _), (1, _), (2, _), (4, _), (5, _), (6, _), (7, _), (9, _), (10, _), (11, _), (13, _)]) dL_hangs_1110 rfl (ltb rfl) rfl rfl ?_
    refine aw_iload_n 1112 dL_hangs_1111 rfl 3 rfl rfl ?_
    refine aw_iload 1114 dL_hangs_1112 8 rfl rfl ?_
    refine aw_iadd 1115 dL_hangs_1114 rfl ?_
    refine aw_istore_n 1116 (lv' := [(2, _), (3, _), (0, _), (1, _), (4, _), (5, _), (6, _), (7, _), (9, _), (10, _), (11, _), (13, _)]) dL_hangs_1115 rfl (ltb rfl) rfl rfl ?_
    refine aw_iinc 1119 (v := 1) (lv' := [(5, _), (2, _), (3, _), (0, _), (1, _), (4, _), (6, _), (7, _), (9, _), (10, _), (11, _), (13, _)]) dL_hangs_1116 5 rfl kI_1 (ltb rfl) rfl rfl ?_
    refine aw_goto 84 dL_hangs_1119 rfl ?_
    exact aw_pick [3, 4, 1, 2, 5, 0] rfl (hO84 _ _ _ _ _ _ _ _ _ h)
  · replace h := h.2 c1
    refine aw_iload 1042 dL_hangs_1040 5 rfl rfl ?_
    refine aw_bipush 1044 (v := 100) dL_hangs_1042 kB_100 rfl ?_
    refine aw_icmp_ge 1109 1047 dL_hangs_1044 rfl rfl (fun c2 => ?_) (fun c2 => ?_)
    · replace h := h.1 c2
      refine aw_iconst 1110 (v := 0) dL_hangs_1109 kI_0 rfl ?_
      refine aw_istore_n 1111 (lv' := [(3, _), (0, _), (1, _), (2, _), (4, _), (5, _), (6, _), (7, _), (9, _), (10, _), (11, _), (13, _)]) dL_hangs_1110 rfl (ltb rfl) rfl rfl ?_
      refine aw_iload_n 1112 dL_hangs_1111 rfl 3 rfl rfl ?_
      refine aw_iload 1114 dL_hangs_1112 8 rfl rfl ?_
      refine aw_iadd 1115 dL_hangs_1114 rfl ?_
      refine aw_istore_n 1116 (lv' := [(2, _), (3, _), (0, _), (1, _), (4, _), (5, _), (6, _), (7, _), (9, _), (10, _), (11, _), (13, _)]) dL_hangs_1115 rfl (ltb rfl) rfl rfl ?_
      refine aw_iinc 1119 (v := 1) (lv' := [(5, _), (2, _), (3, _), (0, _), (1, _), (4, _), (6, _), (7, _), (9, _), (10, _), (11, _), (13, _)]) dL_hangs_1116 5 rfl kI_1 (ltb rfl) rfl rfl ?_
      refine aw_goto 84 dL_hangs_1119 rfl ?_
      exact aw_pick [3, 4, 1, 2, 5, 0] rfl (hO84 _ _ _ _ _ _ _ _ _ h)
    · replace h := h.2 c2
      refine aw_aload_n 1048 dL_hangs_1047 rfl 0 rfl rfl ?_
      refine aw_iload 1050 dL_hangs_1048 4 rfl rfl ?_
      obtain ⟨g3, h⟩ := h
      obtain ⟨g4, h⟩ := h
      refine aw_callSX (M' := M_L_ready) 1053 303 [.ref _, .int _] [] dL_hangs_1050 lk_RL_303 ms_L_ready mp_L_ready (0, 23, 24, 15) [] rfl ⟨leb rfl, leb rfl⟩ rfl (leb rfl) g3 g4 rfl (am_L_ready hG h) (kkI fun v6 X5 h => ?_) (kxN KrI.no)
      refine aw_widen (cc' := cc + 3) (ss' := ss + 18) (Nat.le_refl _) (Nat.le_refl _) ?_
      refine aw_iload 1055 dL_hangs_1053 6 rfl rfl ?_
      refine aw_icmp_ne 1109 1058 dL_hangs_1055 rfl rfl (fun c7 => ?_) (fun c7 => ?_)
      · replace h := h.1 c7
        refine aw_iconst 1110 (v := 0) dL_hangs_1109 kI_0 rfl ?_
        refine aw_istore_n 1111 (lv' := [(3, _), (0, _), (1, _), (2, _), (4, _), (5, _), (6, _), (7, _), (9, _), (10, _), (11, _), (13, _)]) dL_hangs_1110 rfl (ltb rfl) rfl rfl ?_
        refine aw_iload_n 1112 dL_hangs_1111 rfl 3 rfl rfl ?_
        refine aw_iload 1114 dL_hangs_1112 8 rfl rfl ?_
        refine aw_iadd 1115 dL_hangs_1114 rfl ?_
        refine aw_istore_n 1116 (lv' := [(2, _), (3, _), (0, _), (1, _), (4, _), (5, _), (6, _), (7, _), (9, _), (10, _), (11, _), (13, _)]) dL_hangs_1115 rfl (ltb rfl) rfl rfl ?_
        refine aw_iinc 1119 (v := 1) (lv' := [(5, _), (2, _), (3, _), (0, _), (1, _), (4, _), (6, _), (7, _), (9, _), (10, _), (11, _), (13, _)]) dL_hangs_1116 5 rfl kI_1 (ltb rfl) rfl rfl ?_
        refine aw_goto 84 dL_hangs_1119 rfl ?_
        exact aw_pick [3, 4, 1, 2, 5, 0] rfl (hO84 _ _ _ _ _ _ _ _ _ h)
      · replace h := h.2 c7
        refine aw_iload 1060 dL_hangs_1058 8 rfl rfl ?_
        refine aw_iload 1062 dL_hangs_1060 9 rfl rfl ?_
        refine aw_icmp_ne 1109 1065 dL_hangs_1062 rfl rfl (fun c8 => ?_) (fun c8 => ?_)
        · replace h := h.1 c8
          refine aw_iconst 1110 (v := 0) dL_hangs_1109 kI_0 rfl ?_
          refine aw_istore_n 1111 (lv' := [(3, _), (0, _), (1, _), (2, _), (4, _), (5, _), (6, _), (7, _), (9, _), (10, _), (11, _), (13, _)]) dL_hangs_1110 rfl (ltb rfl) rfl rfl ?_
          refine aw_iload_n 1112 dL_hangs_1111 rfl 3 rfl rfl ?_
          refine aw_iload 1114 dL_hangs_1112 8 rfl rfl ?_
          refine aw_iadd 1115 dL_hangs_1114 rfl ?_
          refine aw_istore_n 1116 (lv' := [(2, _), (3, _), (0, _), (1, _), (4, _), (5, _), (6, _), (7, _), (9, _), (10, _), (11, _), (13, _)]) dL_hangs_1115 rfl (ltb rfl) rfl rfl ?_
          refine aw_iinc 1119 (v := 1) (lv' := [(5, _), (2, _), (3, _), (0, _), (1, _), (4, _), (6, _), (7, _), (9, _), (10, _), (11, _), (13, _)]) dL_hangs_1116 5 rfl kI_1 (ltb rfl) rfl rfl ?_
          refine aw_goto 84 dL_hangs_1119 rfl ?_
          exact aw_pick [3, 4, 1, 2, 5, 0] rfl (hO84 _ _ _ _ _ _ _ _ _ h)
        · replace h := h.2 c8
          refine aw_iload 1067 dL_hangs_1065 10 rfl rfl ?_
          refine aw_bipush 1069 (v := -4) dL_hangs_1067 kB_m4 rfl ?_
          refine aw_icmp_eq 1094 1072 dL_hangs_1069 rfl rfl (fun c9 => ?_) (fun c9 => ?_)
          · replace h := h.1 c9
            exact aw_pick [0, 1, 2, 3, 4, 7] rfl (aw_L_hangs_1094 hG hO84 h)
          · replace h := h.2 c9
            refine aw_iload 1074 dL_hangs_1072 10 rfl rfl ?_
            refine aw_if_lt 1109 1077 dL_hangs_1074 rfl rfl (fun c10 => ?_) (fun c10 => ?_)
            · replace h := h.1 c10
              refine aw_iconst 1110 (v := 0) dL_hangs_1109 kI_0 rfl ?_
              refine aw_istore_n 1111 (lv' := [(3, _), (0, _), (1, _), (2, _), (4, _), (5, _), (6, _), (7, _), (9, _), (10, _), (11, _), (13, _)]) dL_hangs_1110 rfl (ltb rfl) rfl rfl ?_
              refine aw_iload_n 1112 dL_hangs_1111 rfl 3 rfl rfl ?_
              refine aw_iload 1114 dL_hangs_1112 8 rfl rfl ?_
              refine aw_iadd 1115 dL_hangs_1114 rfl ?_
              refine aw_istore_n 1116 (lv' := [(2, _), (3, _), (0, _), (1, _), (4, _), (5, _), (6, _), (7, _), (9, _), (10, _), (11, _), (13, _)]) dL_hangs_1115 rfl (ltb rfl) rfl rfl ?_
              refine aw_iinc 1119 (v := 1) (lv' := [(5, _), (2, _), (3, _), (0, _), (1, _), (4, _), (6, _), (7, _), (9, _), (10, _), (11, _), (13, _)]) dL_hangs_1116 5 rfl kI_1 (ltb rfl) rfl rfl ?_
              refine aw_goto 84 dL_hangs_1119 rfl ?_
              exact aw_pick [3, 4, 1, 2, 5, 0] rfl (hO84 _ _ _ _ _ _ _ _ _ h)
            · replace h := h.2 c10
              refine aw_iload 1079 dL_hangs_1077 10 rfl rfl ?_
              refine aw_iload_n 1080 dL_hangs_1079 rfl 1 rfl rfl ?_
              refine aw_icmp_ge 1109 1083 dL_hangs_1080 rfl rfl (fun c11 => ?_) (fun c11 => ?_)
              · replace h := h.1 c11
                refine aw_iconst 1110 (v := 0) dL_hangs_1109 kI_0 rfl ?_
                refine aw_istore_n 1111 (lv' := [(3, _), (0, _), (1, _), (2, _), (4, _), (5, _), (6, _), (7, _), (9, _), (10, _), (11, _), (13, _)]) dL_hangs_1110 rfl (ltb rfl) rfl rfl ?_
                refine aw_iload_n 1112 dL_hangs_1111 rfl 3 rfl rfl ?_
                refine aw_iload 1114 dL_hangs_1112 8 rfl rfl ?_
                refine aw_iadd 1115 dL_hangs_1114 rfl ?_
                refine aw_istore_n 1116 (lv' := [(2, _), (3, _), (0, _), (1, _), (4, _), (5, _), (6, _), (7, _), (9, _), (10, _), (11, _), (13, _)]) dL_hangs_1115 rfl (ltb rfl) rfl rfl ?_
                refine aw_iinc 1119 (v := 1) (lv' := [(5, _), (2, _), (3, _), (0, _), (1, _), (4, _), (6, _), (7, _), (9, _), (10, _), (11, _), (13, _)]) dL_hangs_1116 5 rfl kI_1 (ltb rfl) rfl rfl ?_
                refine aw_goto 84 dL_hangs_1119 rfl ?_
                exact aw_pick [3, 4, 1, 2, 5, 0] rfl (hO84 _ _ _ _ _ _ _ _ _ h)
              · replace h := h.2 c11
                refine aw_aload_n 1084 dL_hangs_1083 rfl 0 rfl rfl ?_
                refine aw_iload 1086 dL_hangs_1084 10 rfl rfl ?_
                refine aw_iload 1088 dL_hangs_1086 4 rfl rfl ?_
                obtain ⟨g12, h⟩ := h
                obtain ⟨g13, h⟩ := h
                refine aw_callSX (M' := M_L_reasonAgainst) 1091 262 [.ref _, .int _, .int _] [] dL_hangs_1088 lk_RL_262 ms_L_reasonAgainst mp_L_reasonAgainst (0, 6, 7, 15) [] rfl ⟨leb rfl, leb rfl⟩ rfl (leb rfl) g12 g13 rfl (am_L_reasonAgainst hG h) (kkI fun v15 X14 h => ?_) (kxN KrI.no)
                refine aw_widen (cc' := cc + 5) (ss' := ss + 30) (Nat.le_refl _) (Nat.le_refl _) ?_
                refine aw_if_ne 1109 1094 dL_hangs_1091 rfl rfl (fun c16 => ?_) (fun c16 => ?_)
                · replace h := h.1 c16
                  refine aw_iconst 1110 (v := 0) dL_hangs_1109 kI_0 rfl ?_
                  refine aw_istore_n 1111 (lv' := [(3, _), (0, _), (1, _), (2, _), (4, _), (5, _), (6, _), (7, _), (9, _), (10, _), (11, _), (13, _)]) dL_hangs_1110 rfl (ltb rfl) rfl rfl ?_
                  refine aw_iload_n 1112 dL_hangs_1111 rfl 3 rfl rfl ?_
                  refine aw_iload 1114 dL_hangs_1112 8 rfl rfl ?_
                  refine aw_iadd 1115 dL_hangs_1114 rfl ?_
                  refine aw_istore_n 1116 (lv' := [(2, _), (3, _), (0, _), (1, _), (4, _), (5, _), (6, _), (7, _), (9, _), (10, _), (11, _), (13, _)]) dL_hangs_1115 rfl (ltb rfl) rfl rfl ?_
                  refine aw_iinc 1119 (v := 1) (lv' := [(5, _), (2, _), (3, _), (0, _), (1, _), (4, _), (6, _), (7, _), (9, _), (10, _), (11, _), (13, _)]) dL_hangs_1116 5 rfl kI_1 (ltb rfl) rfl rfl ?_
                  refine aw_goto 84 dL_hangs_1119 rfl ?_
                  exact aw_pick [3, 4, 1, 2, 5, 0] rfl (hO84 _ _ _ _ _ _ _ _ _ h)
                · replace h := h.2 c16
                  exact aw_pick [0, 1, 2, 3, 4, 7] rfl (aw_L_hangs_1094 hG hO84 h)
set_option maxRecDepth 20000 in
theorem aw_L_hangs_992 {G : GG} (hG : G.1.stackTraces = false) {P84 : Nat → Int32 → Int32 → Int32 → Nat → Int32 → Nat → Nat → XH → Prop} {l0 : Nat} {l1 : Int32} {l2 : Int32} {l3 : Int32} {l4 : Nat} {l5 : Int32} {l6 : Int32} {l7 : Int32} {l8 : Int32} {l9 : Int32} {l10 : Int32} {l11 : Int32} {l12 : Int32} {cc : Nat} {ss : Nat} {X : XH} {K : Int32 → XH → Prop} (hO84 : ∀ (l0 : Nat) (l1 : Int32) (l2 : Int32) (l3 : Int32) (l4 : Nat) (l5 : Int32) (cc : Nat) (ss : Nat) (X : XH), P84 l0 l1 l2 l3 l4 l5 cc ss X → AW G M_L_hangs 84 [(0, .ref l0), (1, .int l1), (2, .int l2), (3, .int l3), (4, .ref l4), (5, .int l5)] [] X cc ss (KrI K)) (h : w_L_hangs_992 P84 l0 l1 l2 l3 l4 l5 l6 l7 l8 l9 l10 l11 l12 cc ss X K) : AW G M_L_hangs 992 [(0, .ref l0), (1, .int l1), (2, .int l2), (3, .int l3), (4, .ref l4), (5, .int l5), (6, .int l6), (7, .int l7), (8, .int l8), (9, .int l9), (10, .int l10), (11, .int l11), (12, .int l12)] [] X cc ss (KrI K) := by
  unfold w_L_hangs_992 at h
  refine aw_aload_n 993 dL_hangs_992 rfl 0 rfl rfl ?_
  refine aw_iload 995 dL_hangs_993 5 rfl rfl ?_
  obtain ⟨g1, h⟩ := h
  obtain ⟨g2, h⟩ := h
  refine aw_callSX (M' := M_L_nextClause) 998 298 [.ref _, .int _] [] dL_hangs_995 lk_RL_298 ms_L_nextClause mp_L_nextClause (0, 5, 6, 15) [(0, 5, 10, 19)] rfl ⟨leb rfl, leb rfl⟩ rfl (leb rfl) g1 g2 rfl (am_L_nextClause hG h) (kkI fun v4 X3 h => ?_) (kxN KrI.no)
  refine aw_widen (cc' := cc + 2) (ss' := ss + 12) (Nat.le_refl _) (Nat.le_refl _) ?_
  refine aw_istore 1000 (lv' := [(13, _), (0, _), (1, _), (2, _), (3, _), (4, _), (5, _), (6, _), (7, _), (8, _), (9, _), (10, _), (11, _), (12, _)]) dL_hangs_998 (ltb rfl) rfl rfl ?_
  refine aw_iload_n 1001 dL_hangs_1000 rfl 4 rfl rfl ?_
  refine aw_if_eq 1109 1004 dL_hangs_1001 rfl rfl (fun c5 => ?_) (fun c5 => ?_)
  · replace h := h.1 c5
    refine aw_iconst 1110 (v := 0) dL_hangs_1109 kI_0 rfl ?_
    refine aw_istore_n 1111 (lv' := [(3, _), (13, _), (0, _), (1, _), (2, _), (4, _), (5, _), (6, _), (7, _), (8, _), (9, _), (10, _), (11, _), (12, _)]) dL_hangs_1110 rfl (ltb rfl) rfl rfl ?_
    refine aw_iload_n 1112 dL_hangs_1111 rfl 4 rfl rfl ?_
    refine aw_iload 1114 dL_hangs_1112 10 rfl rfl ?_
    refine aw_iadd 1115 dL_hangs_1114 rfl ?_
    refine aw_istore_n 1116 (lv' := [(2, _), (3, _), (13, _), (0, _), (1, _), (4, _), (5, _), (6, _), (7, _), (8, _), (9, _), (10, _), (11, _), (12, _)]) dL_hangs_1115 rfl (ltb rfl) rfl rfl ?_
    refine aw_iinc 1119 (v := 1) (lv' := [(5, _), (2, _), (3, _), (13, _), (0, _), (1, _), (4, _), (6, _), (7, _), (8, _), (9, _), (10, _), (11, _), (12, _)]) dL_hangs_1116 6 rfl kI_1 (ltb rfl) rfl rfl ?_
    refine aw_goto 84 dL_hangs_1119 rfl ?_
    exact aw_pick [4, 5, 1, 2, 6, 0] rfl (hO84 _ _ _ _ _ _ _ _ _ h)
  · replace h := h.2 c5
    refine aw_aload_n 1005 dL_hangs_1004 rfl 1 rfl rfl ?_
    refine aw_iload 1007 dL_hangs_1005 6 rfl rfl ?_
    obtain ⟨g6, h⟩ := h
    obtain ⟨g7, h⟩ := h
    refine aw_callSX (M' := M_L_tongueAt) 1010 300 [.ref _, .int _] [] dL_hangs_1007 lk_RL_300 ms_L_tongueAt mp_L_tongueAt (0, 39, 40, 15) [] rfl ⟨leb rfl, leb rfl⟩ rfl (leb rfl) g6 g7 rfl (am_L_tongueAt hG h) (kkI fun v9 X8 h => ?_) (kxN KrI.no)
    refine aw_widen (cc' := cc + 6) (ss' := ss + 36) (Nat.le_refl _) (Nat.le_refl _) ?_
    refine aw_iload 1012 dL_hangs_1010 7 rfl rfl ?_
    refine aw_bipush 1014 (v := 100) dL_hangs_1012 kB_100 rfl ?_
    refine aw_iload 1016 dL_hangs_1014 10 rfl rfl ?_
    refine aw_imul 1017 dL_hangs_1016 rfl ?_
    refine aw_iadd 1018 dL_hangs_1017 rfl ?_
    refine aw_sipush 1021 (v := 10000) dL_hangs_1018 kS_10000 rfl ?_
    refine aw_iload 1023 dL_hangs_1021 9 rfl rfl ?_
    refine aw_imul 1024 dL_hangs_1023 rfl ?_
    refine aw_iadd 1025 dL_hangs_1024 rfl ?_
    refine aw_iload 1027 dL_hangs_1025 13 rfl rfl ?_
    refine aw_if_eq 1035 1030 dL_hangs_1027 rfl rfl (fun c10 => ?_) (fun c10 => ?_)
    · replace h := h.1 c10
      refine aw_iconst 1036 (v := 0) dL_hangs_1035 kI_0 rfl ?_
      exact aw_pick [1, 2, 3, 5, 6, 7, 8, 10, 11, 12, 0] rfl (aw_L_hangs_1036 hG hO84 h)
    · replace h := h.2 c10
      refine aw_ldc 1032 (v := 1000000) dL_hangs_1030 (tk4 (i := 23) (by decide +kernel) rfl) rfl ?_
      refine aw_goto 1036 dL_hangs_1032 rfl ?_
      exact aw_pick [1, 2, 3, 5, 6, 7, 8, 10, 11, 12, 0] rfl (aw_L_hangs_1036 hG hO84 h)
set_option maxRecDepth 20000 in
theorem aw_L_hangs_798 {G : GG} (hG : G.1.stackTraces = false) {P84 : Nat → Int32 → Int32 → Int32 → Nat → Int32 → Nat → Nat → XH → Prop} {l0 : Nat} {l1 : Int32} {l2 : Int32} {l3 : Int32} {l4 : Nat} {l5 : Int32} {l6 : Int32} {l7 : Int32} {l8 : Int32} {l9 : Int32} {l10 : Int32} {l11 : Int32} {l12 : Int32} {l13 : Int32} {cc : Nat} {ss : Nat} {X : XH} {K : Int32 → XH → Prop} (hO84 : ∀ (l0 : Nat) (l1 : Int32) (l2 : Int32) (l3 : Int32) (l4 : Nat) (l5 : Int32) (cc : Nat) (ss : Nat) (X : XH), P84 l0 l1 l2 l3 l4 l5 cc ss X → AW G M_L_hangs 84 [(0, .ref l0), (1, .int l1), (2, .int l2), (3, .int l3), (4, .ref l4), (5, .int l5)] [] X cc ss (KrI K)) (h : w_L_hangs_798 P84 l0 l1 l2 l3 l4 l5 l6 l7 l8 l9 l10 l11 l12 l13 cc ss X K) : AW G M_L_hangs 798 [(0, .ref l0), (1, .int l1), (2, .int l2), (3, .int l3), (4, .ref l4), (5, .int l5), (6, .int l6), (7, .int l7), (8, .int l8), (9, .int l9), (10, .int l10), (11, .int l11), (12, .int l12), (13, .int l13)] [] X cc ss (KrI K) :=
  h (fun l0 l1 l2 l3 l4 l5 l6 l7 l8 l9 l10 l11 l12 l13 cc ss X => AW G M_L_hangs 798 [(0, .ref l0), (1, .int l1), (2, .int l2), (3, .int l3), (4, .ref l4), (5, .int l5), (6, .int l6), (7, .int l7), (8, .int l8), (9, .int l9), (10, .int l10), (11, .int l11), (12, .int l12), (13, .int l13)] [] X cc ss (KrI K)) (fun l0 l1 l2 l3 l4 l5 l6 l7 l8 l9 l10 l11 l12 l13 cc ss X h => by
    refine aw_iload 800 dL_hangs_798 13 rfl rfl ?_
    refine aw_iconst 801 (v := 4) dL_hangs_800 kI_4 rfl ?_
    refine aw_icmp_ge 992 804 dL_hangs_801 rfl rfl (fun c1 => ?_) (fun c1 => ?_)
    · replace h := h.1 c1
      exact aw_pick [0, 1, 2, 3, 4, 5, 6, 7, 8, 9, 10, 11, 12] rfl (aw_L_hangs_992 hG hO84 h)
    · replace h := h.2 c1
      refine aw_iload_n 805 dL_hangs_804 rfl 3 rfl rfl ?_
      refine aw_if_eq 992 808 dL_hangs_805 rfl rfl (fun c2 => ?_) (fun c2 => ?_)
      · replace h := h.1 c2
        exact aw_pick [0, 1, 2, 3, 4, 5, 6, 7, 8, 9, 10, 11, 12] rfl (aw_L_hangs_992 hG hO84 h)
      · replace h := h.2 c2
        refine aw_aload_n 809 dL_hangs_808 rfl 0 rfl rfl ?_
        refine aw_iload 811 dL_hangs_809 13 rfl rfl ?_
        refine aw_iload 813 dL_hangs_811 5 rfl rfl ?_
        obtain ⟨g3, h⟩ := h
        obtain ⟨g4, h⟩ := h
        refine aw_callSX (M' := M_L_mixOf) 816 288 [.ref _, .int _, .int _] [] dL_hangs_813 lk_RL_288 ms_L_mixOf mp_L_mixOf (0, 49, 50, 15) [] rfl ⟨leb rfl, leb rfl⟩ rfl (leb rfl) g3 g4 rfl (am_L_mixOf hG h) (kkI fun v6 X5 h => ?_) (kxN KrI.no)
        refine aw_widen (cc' := cc + 8) (ss' := ss + 48) (Nat.le_refl _) (Nat.le_refl _) ?_
        refine aw_istore 818 (lv' := [(14, _), (0, _), (1, _), (2, _), (3, _), (4, _), (5, _), (6, _), (7, _), (8, _), (9, _), (10, _), (11, _), (12, _), (13, _)]) dL_hangs_816 (ltb rfl) rfl rfl ?_
        refine aw_iconst 819 (v := 0) dL_hangs_818 kI_0 rfl ?_
        refine aw_istore 821 (lv' := [(15, _), (14, _), (0, _), (1, _), (2, _), (3, _), (4, _), (5, _), (6, _), (7, _), (8, _), (9, _), (10, _), (11, _), (12, _), (13, _)]) dL_hangs_819 (ltb rfl) rfl rfl ?_
        refine aw_iconst 822 (v := 0) dL_hangs_821 kI_0 rfl ?_
        refine aw_istore 824 (lv' := [(16, _), (15, _), (14, _), (0, _), (1, _), (2, _), (3, _), (4, _), (5, _), (6, _), (7, _), (8, _), (9, _), (10, _), (11, _), (12, _), (13, _)]) dL_hangs_822 (ltb rfl) rfl rfl ?_
        exact aw_pick [3, 4, 5, 6, 7, 8, 9, 10, 11, 12, 13, 14, 15, 16, 2, 1, 0] rfl (aw_L_hangs_824 hG hO84 (fun _ _ _ _ _ _ _ _ _ _ _ _ _ _ _ _ _ h => h) h))
set_option maxRecDepth 20000 in
theorem aw_L_hangs_784 {G : GG} (hG : G.1.stackTraces = false) {P84 : Nat → Int32 → Int32 → Int32 → Nat → Int32 → Nat → Nat → XH → Prop} {l0 : Nat} {l1 : Int32} {l2 : Int32} {l3 : Int32} {l4 : Nat} {l5 : Int32} {l6 : Int32} {l7 : Int32} {l8 : Int32} {l9 : Int32} {l10 : Int32} {l11 : Int32} {cc : Nat} {ss : Nat} {X : XH} {K : Int32 → XH → Prop} (hO84 : ∀ (l0 : Nat) (l1 : Int32) (l2 : Int32) (l3 : Int32) (l4 : Nat) (l5 : Int32) (cc : Nat) (ss : Nat) (X : XH), P84 l0 l1 l2 l3 l4 l5 cc ss X → AW G M_L_hangs 84 [(0, .ref l0), (1, .int l1), (2, .int l2), (3, .int l3), (4, .ref l4), (5, .int l5)] [] X cc ss (KrI K)) (h : w_L_hangs_784 P84 l0 l1 l2 l3 l4 l5 l6 l7 l8 l9 l10 l11 cc ss X K) : AW G M_L_hangs 784 [(0, .ref l0), (1, .int l1), (2, .int l2), (3, .int l3), (4, .ref l4), (5, .int l5), (6, .int l6), (7, .int l7), (8, .int l8), (9, .int l9), (10, .int l10), (11, .int l11)] [] X cc ss (KrI K) := by
  unfold w_L_hangs_784 at h
  refine aw_iload_n 785 dL_hangs_784 rfl 1 rfl rfl ?_
  refine aw_if_le 792 788 dL_hangs_785 rfl rfl (fun c1 => ?_) (fun c1 => ?_)
  · replace h := h.1 c1
    refine aw_iconst 793 (v := 0) dL_hangs_792 kI_0 rfl ?_
    refine aw_istore 795 (lv' := [(12, _), (0, _), (1, _), (2, _), (3, _), (4, _), (5, _), (6, _), (7, _), (8, _), (9, _), (10, _), (11, _)]) dL_hangs_793 (ltb rfl) rfl rfl ?_
    refine aw_iconst 796 (v := 0) dL_hangs_795 kI_0 rfl ?_
    refine aw_istore 798 (lv' := [(13, _), (12, _), (0, _), (1, _), (2, _), (3, _), (4, _), (5, _), (6, _), (7, _), (8, _), (9, _), (10, _), (11, _)]) dL_hangs_796 (ltb rfl) rfl rfl ?_
    exact aw_pick [2, 3, 4, 5, 6, 7, 8, 9, 10, 11, 12, 13, 1, 0] rfl (aw_L_hangs_798 hG hO84 h)
  · replace h := h.2 c1
    refine aw_iconst 789 (v := 1) dL_hangs_788 kI_1 rfl ?_
    refine aw_goto 793 dL_hangs_789 rfl ?_
    refine aw_istore 795 (lv' := [(12, _), (0, _), (1, _), (2, _), (3, _), (4, _), (5, _), (6, _), (7, _), (8, _), (9, _), (10, _), (11, _)]) dL_hangs_793 (ltb rfl) rfl rfl ?_
    refine aw_iconst 796 (v := 0) dL_hangs_795 kI_0 rfl ?_
    refine aw_istore 798 (lv' := [(13, _), (12, _), (0, _), (1, _), (2, _), (3, _), (4, _), (5, _), (6, _), (7, _), (8, _), (9, _), (10, _), (11, _)]) dL_hangs_796 (ltb rfl) rfl rfl ?_
    exact aw_pick [2, 3, 4, 5, 6, 7, 8, 9, 10, 11, 12, 13, 1, 0] rfl (aw_L_hangs_798 hG hO84 h)
set_option maxRecDepth 20000 in
theorem aw_L_hangs_651 {G : GG} (hG : G.1.stackTraces = false) {P84 : Nat → Int32 → Int32 → Int32 → Nat → Int32 → Nat → Nat → XH → Prop} {l0 : Nat} {l1 : Int32} {l2 : Int32} {l3 : Int32} {l4 : Nat} {l5 : Int32} {l6 : Int32} {l7 : Int32} {l8 : Int32} {l9 : Int32} {l10 : Int32} {l11 : Int32} {l12 : Int32} {cc : Nat} {ss : Nat} {X : XH} {K : Int32 → XH → Prop} (hO84 : ∀ (l0 : Nat) (l1 : Int32) (l2 : Int32) (l3 : Int32) (l4 : Nat) (l5 : Int32) (cc : Nat) (ss : Nat) (X : XH), P84 l0 l1 l2 l3 l4 l5 cc ss X → AW G M_L_hangs 84 [(0, .ref l0), (1, .int l1), (2, .int l2), (3, .int l3), (4, .ref l4), (5, .int l5)] [] X cc ss (KrI K)) (h : w_L_hangs_651 P84 l0 l1 l2 l3 l4 l5 l6 l7 l8 l9 l10 l11 l12 cc ss X K) : AW G M_L_hangs 651 [(0, .ref l0), (1, .int l1), (2, .int l2), (3, .int l3), (4, .ref l4), (5, .int l5), (6, .int l6), (7, .int l7), (8, .int l8), (9, .int l9), (10, .int l10), (11, .int l11), (12, .int l12)] [] X cc ss (KrI K) :=
  h (fun l0 l1 l2 l3 l4 l5 l6 l7 l8 l9 l10 l11 l12 cc ss X => AW G M_L_hangs 651 [(0, .ref l0), (1, .int l1), (2, .int l2), (3, .int l3), (4, .ref l4), (5, .int l5), (6, .int l6), (7, .int l7), (8, .int l8), (9, .int l9), (10, .int l10), (11, .int l11), (12, .int l12)] [] X cc ss (KrI K)) (fun l0 l1 l2 l3 l4 l5 l6 l7 l8 l9 l10 l11 l12 cc ss X h => by
    refine aw_iload 653 dL_hangs_651 12 rfl rfl ?_
    refine aw_iconst 654 (v := 5) dL_hangs_653 kI_5 rfl ?_
    refine aw_icmp_ge 784 657 dL_hangs_654 rfl rfl (fun c1 => ?_) (fun c1 => ?_)
    · replace h := h.1 c1
      exact aw_pick [0, 1, 2, 3, 4, 5, 6, 7, 8, 9, 10, 11] rfl (aw_L_hangs_784 hG hO84 h)
    · replace h := h.2 c1
      refine aw_iload_n 658 dL_hangs_657 rfl 3 rfl rfl ?_
      refine aw_if_eq 784 661 dL_hangs_658 rfl rfl (fun c2 => ?_) (fun c2 => ?_)
      · replace h := h.1 c2
        exact aw_pick [0, 1, 2, 3, 4, 5, 6, 7, 8, 9, 10, 11] rfl (aw_L_hangs_784 hG hO84 h)
      · replace h := h.2 c2
        refine aw_aload_n 662 dL_hangs_661 rfl 0 rfl rfl ?_
        refine aw_iload 664 dL_hangs_662 12 rfl rfl ?_
        refine aw_iload 666 dL_hangs_664 5 rfl rfl ?_
        obtain ⟨g3, h⟩ := h
        obtain ⟨g4, h⟩ := h
        refine aw_callSX (M' := M_L_sessionsByGoing) 669 278 [.ref _, .int _, .int _] [] dL_hangs_666 lk_RL_278 ms_L_sessionsByGoing mp_L_sessionsByGoing (0, 6, 7, 15) [(0, 6, 11, 19)] rfl ⟨leb rfl, leb rfl⟩ rfl (leb rfl) g3 g4 rfl (am_L_sessionsByGoing hG h) (kkI fun v6 X5 h => ?_) (kxN KrI.no)
        refine aw_widen (cc' := cc + 3) (ss' := ss + 18) (Nat.le_refl _) (Nat.le_refl _) ?_
        refine aw_istore 671 (lv' := [(13, _), (0, _), (1, _), (2, _), (3, _), (4, _), (5, _), (6, _), (7, _), (8, _), (9, _), (10, _), (11, _), (12, _)]) dL_hangs_669 (ltb rfl) rfl rfl ?_
        refine aw_aload_n 672 dL_hangs_671 rfl 1 rfl rfl ?_
        refine aw_iload 674 dL_hangs_672 13 rfl rfl ?_
        refine aw_iload 676 dL_hangs_674 6 rfl rfl ?_
        obtain ⟨g7, h⟩ := h
        obtain ⟨g8, h⟩ := h
        refine aw_callSX (M' := M_L_staminaOf) 679 280 [.ref _, .int _, .int _] [] dL_hangs_676 lk_RL_280 ms_L_staminaOf mp_L_staminaOf (0, 6, 7, 15) [] rfl ⟨leb rfl, leb rfl⟩ rfl (leb rfl) g7 g8 rfl (am_L_staminaOf hG h) (kkI fun v10 X9 h => ?_) (kxN KrI.no)
        refine aw_widen (cc' := cc + 5) (ss' := ss + 30) (Nat.le_refl _) (Nat.le_refl _) ?_
        refine aw_bipush 681 (v := 19) dL_hangs_679 kB_19 rfl ?_
        refine aw_icmp_le 763 684 dL_hangs_681 rfl rfl (fun c11 => ?_) (fun c11 => ?_)
        · replace h := h.1 c11
          refine aw_iconst 764 (v := 0) dL_hangs_763 kI_0 rfl ?_
          exact aw_pick [1, 2, 3, 5, 6, 7, 8, 9, 10, 11, 12, 13] rfl (aw_L_hangs_764 hG hO84 (fun _ _ _ _ _ _ _ _ _ _ _ _ _ _ _ _ h => h) h)
        · replace h := h.2 c11
          refine aw_aload_n 685 dL_hangs_684 rfl 1 rfl rfl ?_
          refine aw_iload 687 dL_hangs_685 13 rfl rfl ?_
          refine aw_iload 689 dL_hangs_687 6 rfl rfl ?_
          obtain ⟨g12, h⟩ := h
          obtain ⟨g13, h⟩ := h
          refine aw_callSX (M' := M_L_staminaOf) 692 280 [.ref _, .int _, .int _] [] dL_hangs_689 lk_RL_280 ms_L_staminaOf mp_L_staminaOf (0, 6, 7, 15) [] rfl ⟨leb rfl, leb rfl⟩ rfl (leb rfl) g12 g13 rfl (am_L_staminaOf hG h) (kkI fun v15 X14 h => ?_) (kxN KrI.no)
          refine aw_widen (cc' := cc + 7) (ss' := ss + 42) (Nat.le_refl _) (Nat.le_refl _) ?_
          refine aw_bipush 694 (v := 121) dL_hangs_692 kB_121 rfl ?_
          refine aw_icmp_ge 763 697 dL_hangs_694 rfl rfl (fun c16 => ?_) (fun c16 => ?_)
          · replace h := h.1 c16
            refine aw_iconst 764 (v := 0) dL_hangs_763 kI_0 rfl ?_
            exact aw_pick [1, 2, 3, 5, 6, 7, 8, 9, 10, 11, 12, 13] rfl (aw_L_hangs_764 hG hO84 (fun _ _ _ _ _ _ _ _ _ _ _ _ _ _ _ _ h => h) h)
          · replace h := h.2 c16
            refine aw_aload_n 698 dL_hangs_697 rfl 1 rfl rfl ?_
            refine aw_iload 700 dL_hangs_698 13 rfl rfl ?_
            refine aw_iload 702 dL_hangs_700 6 rfl rfl ?_
            obtain ⟨g17, h⟩ := h
            obtain ⟨g18, h⟩ := h
            refine aw_callSX (M' := M_L_strengthLeft) 705 282 [.ref _, .int _, .int _] [] dL_hangs_702 lk_RL_282 ms_L_strengthLeft mp_L_strengthLeft (0, 6, 7, 15) [] rfl ⟨leb rfl, leb rfl⟩ rfl (leb rfl) g17 g18 rfl (am_L_strengthLeft hG h) (kkI fun v20 X19 h => ?_) (kxN KrI.no)
            refine aw_widen (cc' := cc + 9) (ss' := ss + 54) (Nat.le_refl _) (Nat.le_refl _) ?_
            refine aw_if_lt 763 708 dL_hangs_705 rfl rfl (fun c21 => ?_) (fun c21 => ?_)
            · replace h := h.1 c21
              refine aw_iconst 764 (v := 0) dL_hangs_763 kI_0 rfl ?_
              exact aw_pick [1, 2, 3, 5, 6, 7, 8, 9, 10, 11, 12, 13] rfl (aw_L_hangs_764 hG hO84 (fun _ _ _ _ _ _ _ _ _ _ _ _ _ _ _ _ h => h) h)
            · replace h := h.2 c21
              refine aw_aload_n 709 dL_hangs_708 rfl 1 rfl rfl ?_
              refine aw_iload 711 dL_hangs_709 13 rfl rfl ?_
              refine aw_iload 713 dL_hangs_711 6 rfl rfl ?_
              obtain ⟨g22, h⟩ := h
              obtain ⟨g23, h⟩ := h
              refine aw_callSX (M' := M_L_strengthLeft) 716 282 [.ref _, .int _, .int _] [] dL_hangs_713 lk_RL_282 ms_L_strengthLeft mp_L_strengthLeft (0, 6, 7, 15) [] rfl ⟨leb rfl, leb rfl⟩ rfl (leb rfl) g22 g23 rfl (am_L_strengthLeft hG h) (kkI fun v25 X24 h => ?_) (kxN KrI.no)
              refine aw_widen (cc' := cc + 11) (ss' := ss + 66) (Nat.le_refl _) (Nat.le_refl _) ?_
              refine aw_aload_n 717 dL_hangs_716 rfl 1 rfl rfl ?_
              refine aw_iload 719 dL_hangs_717 13 rfl rfl ?_
              refine aw_iload 721 dL_hangs_719 6 rfl rfl ?_
              obtain ⟨g26, h⟩ := h
              obtain ⟨g27, h⟩ := h
              refine aw_callSX (M' := M_L_staminaOf) 724 280 [.ref _, .int _, .int _] [.int _] dL_hangs_721 lk_RL_280 ms_L_staminaOf mp_L_staminaOf (0, 6, 7, 15) [] rfl ⟨leb rfl, leb rfl⟩ rfl (leb rfl) g26 g27 rfl (am_L_staminaOf hG h) (kkI fun v29 X28 h => ?_) (kxN KrI.no)
              refine aw_widen (cc' := cc + 13) (ss' := ss + 78) (Nat.le_refl _) (Nat.le_refl _) ?_
              refine aw_icmp_gt 763 727 dL_hangs_724 rfl rfl (fun c30 => ?_) (fun c30 => ?_)
              · replace h := h.1 c30
                refine aw_iconst 764 (v := 0) dL_hangs_763 kI_0 rfl ?_
                exact aw_pick [1, 2, 3, 5, 6, 7, 8, 9, 10, 11, 12, 13] rfl (aw_L_hangs_764 hG hO84 (fun _ _ _ _ _ _ _ _ _ _ _ _ _ _ _ _ h => h) h)
              · replace h := h.2 c30
                refine aw_iload 729 dL_hangs_727 0 rfl rfl ?_
                refine aw_aload_n 730 dL_hangs_729 rfl 1 rfl rfl ?_
                refine aw_iload 732 dL_hangs_730 13 rfl rfl ?_
                refine aw_iload 734 dL_hangs_732 6 rfl rfl ?_
                obtain ⟨g31, h⟩ := h
                obtain ⟨g32, h⟩ := h
                refine aw_callSX (M' := M_L_sessionsByTable) 737 284 [.ref _, .int _, .int _] [.int _] dL_hangs_734 lk_RL_284 ms_L_sessionsByTable mp_L_sessionsByTable (0, 6, 7, 15) [(0, 6, 11, 19)] rfl ⟨leb rfl, leb rfl⟩ rfl (leb rfl) g31 g32 rfl (am_L_sessionsByTable hG h) (kkI fun v34 X33 h => ?_) (kxN KrI.no)
                refine aw_widen (cc' := cc + 16) (ss' := ss + 96) (Nat.le_refl _) (Nat.le_refl _) ?_
                refine aw_icmp_ne 763 740 dL_hangs_737 rfl rfl (fun c35 => ?_) (fun c35 => ?_)
                · replace h := h.1 c35
                  refine aw_iconst 764 (v := 0) dL_hangs_763 kI_0 rfl ?_
                  exact aw_pick [1, 2, 3, 5, 6, 7, 8, 9, 10, 11, 12, 13] rfl (aw_L_hangs_764 hG hO84 (fun _ _ _ _ _ _ _ _ _ _ _ _ _ _ _ _ h => h) h)
                · replace h := h.2 c35
                  refine aw_iload 742 dL_hangs_740 0 rfl rfl ?_
                  refine aw_if_ge 752 745 dL_hangs_742 rfl rfl (fun c36 => ?_) (fun c36 => ?_)
                  · replace h := h.1 c36
                    refine aw_iload 754 dL_hangs_752 0 rfl rfl ?_
                    refine aw_bipush 756 (v := 26) dL_hangs_754 kB_26 rfl ?_
                    refine aw_icmp_ge 763 759 dL_hangs_756 rfl rfl (fun c37 => ?_) (fun c37 => ?_)
                    · replace h := h.1 c37
                      refine aw_iconst 764 (v := 0) dL_hangs_763 kI_0 rfl ?_
                      exact aw_pick [1, 2, 3, 5, 6, 7, 8, 9, 10, 11, 12, 13] rfl (aw_L_hangs_764 hG hO84 (fun _ _ _ _ _ _ _ _ _ _ _ _ _ _ _ _ h => h) h)
                    · replace h := h.2 c37
                      refine aw_iconst 760 (v := 1) dL_hangs_759 kI_1 rfl ?_
                      refine aw_goto 764 dL_hangs_760 rfl ?_
                      exact aw_pick [1, 2, 3, 5, 6, 7, 8, 9, 10, 11, 12, 13] rfl (aw_L_hangs_764 hG hO84 (fun _ _ _ _ _ _ _ _ _ _ _ _ _ _ _ _ h => h) h)
                  · replace h := h.2 c36
                    refine aw_iload 747 dL_hangs_745 0 rfl rfl ?_
                    refine aw_bipush 749 (v := -4) dL_hangs_747 kB_m4 rfl ?_
                    refine aw_icmp_ne 763 752 dL_hangs_749 rfl rfl (fun c38 => ?_) (fun c38 => ?_)
                    · replace h := h.1 c38
                      refine aw_iconst 764 (v := 0) dL_hangs_763 kI_0 rfl ?_
                      exact aw_pick [1, 2, 3, 5, 6, 7, 8, 9, 10, 11, 12, 13] rfl (aw_L_hangs_764 hG hO84 (fun _ _ _ _ _ _ _ _ _ _ _ _ _ _ _ _ h => h) h)
                    · replace h := h.2 c38
                      refine aw_iload 754 dL_hangs_752 0 rfl rfl ?_
                      refine aw_bipush 756 (v := 26) dL_hangs_754 kB_26 rfl ?_
                      refine aw_icmp_ge 763 759 dL_hangs_756 rfl rfl (fun c39 => ?_) (fun c39 => ?_)
                      · replace h := h.1 c39
                        refine aw_iconst 764 (v := 0) dL_hangs_763 kI_0 rfl ?_
                        exact aw_pick [1, 2, 3, 5, 6, 7, 8, 9, 10, 11, 12, 13] rfl (aw_L_hangs_764 hG hO84 (fun _ _ _ _ _ _ _ _ _ _ _ _ _ _ _ _ h => h) h)
                      · replace h := h.2 c39
                        refine aw_iconst 760 (v := 1) dL_hangs_759 kI_1 rfl ?_
                        refine aw_goto 764 dL_hangs_760 rfl ?_
                        exact aw_pick [1, 2, 3, 5, 6, 7, 8, 9, 10, 11, 12, 13] rfl (aw_L_hangs_764 hG hO84 (fun _ _ _ _ _ _ _ _ _ _ _ _ _ _ _ _ h => h) h))
set_option maxRecDepth 20000 in
theorem aw_L_hangs_115 {G : GG} (hG : G.1.stackTraces = false) {P84 : Nat → Int32 → Int32 → Int32 → Nat → Int32 → Nat → Nat → XH → Prop} {l0 : Nat} {l1 : Int32} {l2 : Int32} {l3 : Int32} {l4 : Nat} {l5 : Int32} {l6 : Int32} {l7 : Int32} {l8 : Int32} {l9 : Int32} {l10 : Int32} {l11 : Int32} {l12 : Int32} {cc : Nat} {ss : Nat} {X : XH} {K : Int32 → XH → Prop} (hO84 : ∀ (l0 : Nat) (l1 : Int32) (l2 : Int32) (l3 : Int32) (l4 : Nat) (l5 : Int32) (cc : Nat) (ss : Nat) (X : XH), P84 l0 l1 l2 l3 l4 l5 cc ss X → AW G M_L_hangs 84 [(0, .ref l0), (1, .int l1), (2, .int l2), (3, .int l3), (4, .ref l4), (5, .int l5)] [] X cc ss (KrI K)) (h : w_L_hangs_115 P84 l0 l1 l2 l3 l4 l5 l6 l7 l8 l9 l10 l11 l12 cc ss X K) : AW G M_L_hangs 115 [(0, .ref l0), (1, .int l1), (2, .int l2), (3, .int l3), (4, .ref l4), (5, .int l5), (6, .int l6), (7, .int l7), (8, .int l8), (9, .int l9), (10, .int l10), (11, .int l11), (12, .int l12)] [] X cc ss (KrI K) :=
  h (fun l0 l1 l2 l3 l4 l5 l6 l7 l8 l9 l10 l11 l12 cc ss X => AW G M_L_hangs 115 [(0, .ref l0), (1, .int l1), (2, .int l2), (3, .int l3), (4, .ref l4), (5, .int l5), (6, .int l6), (7, .int l7), (8, .int l8), (9, .int l9), (10, .int l10), (11, .int l11), (12, .int l12)] [] X cc ss (KrI K)) (fun l0 l1 l2 l3 l4 l5 l6 l7 l8 l9 l10 l11 l12 cc ss X h => by
    refine aw_iload 117 dL_hangs_115 12 rfl rfl ?_
    refine aw_iload_n 118 dL_hangs_117 rfl 1 rfl rfl ?_
    refine aw_icmp_ge 648 121 dL_hangs_118 rfl rfl (fun c1 => ?_) (fun c1 => ?_)
    · replace h := h.1 c1
      refine aw_iconst 649 (v := 0) dL_hangs_648 kI_0 rfl ?_
      refine aw_istore 651 (lv' := [(12, _), (0, _), (1, _), (2, _), (3, _), (4, _), (5, _), (6, _), (7, _), (8, _), (9, _), (10, _), (11, _)]) dL_hangs_649 (ltb rfl) rfl rfl ?_
      exact aw_pick [1, 2, 3, 4, 5, 6, 7, 8, 9, 10, 11, 12, 0] rfl (aw_L_hangs_651 hG hO84 h)
    · replace h := h.2 c1
      refine aw_iload 123 dL_hangs_121 12 rfl rfl ?_
      refine aw_bipush 125 (v := 24) dL_hangs_123 kB_24 rfl ?_
      refine aw_icmp_ge 648 128 dL_hangs_125 rfl rfl (fun c2 => ?_) (fun c2 => ?_)
      · replace h := h.1 c2
        refine aw_iconst 649 (v := 0) dL_hangs_648 kI_0 rfl ?_
        refine aw_istore 651 (lv' := [(12, _), (0, _), (1, _), (2, _), (3, _), (4, _), (5, _), (6, _), (7, _), (8, _), (9, _), (10, _), (11, _)]) dL_hangs_649 (ltb rfl) rfl rfl ?_
        exact aw_pick [1, 2, 3, 4, 5, 6, 7, 8, 9, 10, 11, 12, 0] rfl (aw_L_hangs_651 hG hO84 h)
      · replace h := h.2 c2
        refine aw_iload_n 129 dL_hangs_128 rfl 3 rfl rfl ?_
        refine aw_if_eq 648 132 dL_hangs_129 rfl rfl (fun c3 => ?_) (fun c3 => ?_)
        · replace h := h.1 c3
          refine aw_iconst 649 (v := 0) dL_hangs_648 kI_0 rfl ?_
          refine aw_istore 651 (lv' := [(12, _), (0, _), (1, _), (2, _), (3, _), (4, _), (5, _), (6, _), (7, _), (8, _), (9, _), (10, _), (11, _)]) dL_hangs_649 (ltb rfl) rfl rfl ?_
          exact aw_pick [1, 2, 3, 4, 5, 6, 7, 8, 9, 10, 11, 12, 0] rfl (aw_L_hangs_651 hG hO84 h)
        · replace h := h.2 c3
          refine aw_aload_n 133 dL_hangs_132 rfl 0 rfl rfl ?_
          refine aw_iload 135 dL_hangs_133 12 rfl rfl ?_
          obtain ⟨g4, h⟩ := h
          obtain ⟨g5, h⟩ := h
          refine aw_callSX (M' := M_L_clauseOf) 138 255 [.ref _, .int _] [] dL_hangs_135 lk_RL_255 ms_L_clauseOf mp_L_clauseOf (0, 32, 33, 15) [] rfl ⟨leb rfl, leb rfl⟩ rfl (leb rfl) g4 g5 rfl (am_L_clauseOf hG h) (kkI fun v7 X6 h => ?_) (kxN KrI.no)
          refine aw_widen (cc' := cc + 4) (ss' := ss + 24) (Nat.le_refl _) (Nat.le_refl _) ?_
          refine aw_bipush 140 (v := 32) dL_hangs_138 kB_32 rfl ?_
          refine aw_idiv 141 dL_hangs_140 (by decide) rfl ?_
          refine aw_bipush 143 (v := 64) dL_hangs_141 kB_64 rfl ?_
          refine aw_irem 144 dL_hangs_143 (by decide) rfl ?_
          refine aw_istore 146 (lv' := [(13, _), (0, _), (1, _), (2, _), (3, _), (4, _), (5, _), (6, _), (7, _), (8, _), (9, _), (10, _), (11, _), (12, _)]) dL_hangs_144 (ltb rfl) rfl rfl ?_
          refine aw_aload_n 147 dL_hangs_146 rfl 1 rfl rfl ?_
          refine aw_iload 149 dL_hangs_147 13 rfl rfl ?_
          obtain ⟨g8, h⟩ := h
          obtain ⟨g9, h⟩ := h
          refine aw_callSX (M' := M_L_clauseOf) 152 255 [.ref _, .int _] [] dL_hangs_149 lk_RL_255 ms_L_clauseOf mp_L_clauseOf (0, 32, 33, 15) [] rfl ⟨leb rfl, leb rfl⟩ rfl (leb rfl) g8 g9 rfl (am_L_clauseOf hG h) (kkI fun v11 X10 h => ?_) (kxN KrI.no)
          refine aw_widen (cc' := cc + 8) (ss' := ss + 48) (Nat.le_refl _) (Nat.le_refl _) ?_
          refine aw_sipush 155 (v := 2048) dL_hangs_152 kS_2048 rfl ?_
          refine aw_idiv 156 dL_hangs_155 (by decide) rfl ?_
          refine aw_istore 158 (lv' := [(14, _), (13, _), (0, _), (1, _), (2, _), (3, _), (4, _), (5, _), (6, _), (7, _), (8, _), (9, _), (10, _), (11, _), (12, _)]) dL_hangs_156 (ltb rfl) rfl rfl ?_
          refine aw_aload_n 159 dL_hangs_158 rfl 2 rfl rfl ?_
          refine aw_iload 161 dL_hangs_159 14 rfl rfl ?_
          refine aw_iload 163 dL_hangs_161 7 rfl rfl ?_
          obtain ⟨g12, h⟩ := h
          obtain ⟨g13, h⟩ := h
          refine aw_callSX (M' := M_L_framesOf) 166 258 [.ref _, .int _, .int _] [] dL_hangs_163 lk_RL_258 ms_L_framesOf mp_L_framesOf (0, 6, 7, 15) [(0, 6, 11, 19)] rfl ⟨leb rfl, leb rfl⟩ rfl (leb rfl) g12 g13 rfl (am_L_framesOf hG h) (kkI fun v15 X14 h => ?_) (kxN KrI.no)
          refine aw_widen (cc' := cc + 11) (ss' := ss + 66) (Nat.le_refl _) (Nat.le_refl _) ?_
          refine aw_istore 168 (lv' := [(15, _), (14, _), (13, _), (0, _), (1, _), (2, _), (3, _), (4, _), (5, _), (6, _), (7, _), (8, _), (9, _), (10, _), (11, _), (12, _)]) dL_hangs_166 (ltb rfl) rfl rfl ?_
          refine aw_aload_n 169 dL_hangs_168 rfl 3 rfl rfl ?_
          refine aw_iload 171 dL_hangs_169 15 rfl rfl ?_
          refine aw_iload 173 dL_hangs_171 8 rfl rfl ?_
          obtain ⟨g16, h⟩ := h
          obtain ⟨g17, h⟩ := h
          refine aw_callSX (M' := M_L_roomFor) 176 260 [.ref _, .int _, .int _] [] dL_hangs_173 lk_RL_260 ms_L_roomFor mp_L_roomFor (0, 6, 7, 15) [(0, 6, 12, 19)] rfl ⟨leb rfl, leb rfl⟩ rfl (leb rfl) g16 g17 rfl (am_L_roomFor hG h) (kkI fun v19 X18 h => ?_) (kxN KrI.no)
          refine aw_widen (cc' := cc + 14) (ss' := ss + 84) (Nat.le_refl _) (Nat.le_refl _) ?_
          refine aw_istore 178 (lv' := [(16, _), (15, _), (14, _), (13, _), (0, _), (1, _), (2, _), (3, _), (4, _), (5, _), (6, _), (7, _), (8, _), (9, _), (10, _), (11, _), (12, _)]) dL_hangs_176 (ltb rfl) rfl rfl ?_
          refine aw_aload_n 179 dL_hangs_178 rfl 4 rfl rfl ?_
          refine aw_iload 181 dL_hangs_179 16 rfl rfl ?_
          refine aw_iload 183 dL_hangs_181 9 rfl rfl ?_
          obtain ⟨g20, h⟩ := h
          obtain ⟨g21, h⟩ := h
          refine aw_callSX (M' := M_L_reasonAgainst) 186 262 [.ref _, .int _, .int _] [] dL_hangs_183 lk_RL_262 ms_L_reasonAgainst mp_L_reasonAgainst (0, 6, 7, 15) [] rfl ⟨leb rfl, leb rfl⟩ rfl (leb rfl) g20 g21 rfl (am_L_reasonAgainst hG h) (kkI fun v23 X22 h => ?_) (kxN KrI.no)
          refine aw_widen (cc' := cc + 16) (ss' := ss + 96) (Nat.le_refl _) (Nat.le_refl _) ?_
          refine aw_istore 188 (lv' := [(17, _), (16, _), (15, _), (14, _), (13, _), (0, _), (1, _), (2, _), (3, _), (4, _), (5, _), (6, _), (7, _), (8, _), (9, _), (10, _), (11, _), (12, _)]) dL_hangs_186 (ltb rfl) rfl rfl ?_
          refine aw_aload_n 189 dL_hangs_188 rfl 5 rfl rfl ?_
          refine aw_iload 191 dL_hangs_189 17 rfl rfl ?_
          refine aw_iload 193 dL_hangs_191 10 rfl rfl ?_
          obtain ⟨g24, h⟩ := h
          obtain ⟨g25, h⟩ := h
          refine aw_callSX (M' := M_L_sessionOf) 196 264 [.ref _, .int _, .int _] [] dL_hangs_193 lk_RL_264 ms_L_sessionOf mp_L_sessionOf (0, 6, 7, 15) [(0, 6, 11, 19)] rfl ⟨leb rfl, leb rfl⟩ rfl (leb rfl) g24 g25 rfl (am_L_sessionOf hG h) (kkI fun v27 X26 h => ?_) (kxN KrI.no)
          refine aw_widen (cc' := cc + 19) (ss' := ss + 114) (Nat.le_refl _) (Nat.le_refl _) ?_
          refine aw_istore 198 (lv' := [(18, _), (17, _), (16, _), (15, _), (14, _), (13, _), (0, _), (1, _), (2, _), (3, _), (4, _), (5, _), (6, _), (7, _), (8, _), (9, _), (10, _), (11, _), (12, _)]) dL_hangs_196 (ltb rfl) rfl rfl ?_
          refine aw_aload_n 199 dL_hangs_198 rfl 6 rfl rfl ?_
          refine aw_iload 201 dL_hangs_199 18 rfl rfl ?_
          refine aw_iload 203 dL_hangs_201 11 rfl rfl ?_
          obtain ⟨g28, h⟩ := h
          obtain ⟨g29, h⟩ := h
          refine aw_callSX (M' := M_L_leastAnnex) 206 266 [.ref _, .int _, .int _] [] dL_hangs_203 lk_RL_266 ms_L_leastAnnex mp_L_leastAnnex (0, 6, 7, 15) [(0, 6, 11, 19)] rfl ⟨leb rfl, leb rfl⟩ rfl (leb rfl) g28 g29 rfl (am_L_leastAnnex hG h) (kkI fun v31 X30 h => ?_) (kxN KrI.no)
          refine aw_widen (cc' := cc + 23) (ss' := ss + 138) (Nat.le_refl _) (Nat.le_refl _) ?_
          refine aw_istore 208 (lv' := [(19, _), (18, _), (17, _), (16, _), (15, _), (14, _), (13, _), (0, _), (1, _), (2, _), (3, _), (4, _), (5, _), (6, _), (7, _), (8, _), (9, _), (10, _), (11, _), (12, _)]) dL_hangs_206 (ltb rfl) rfl rfl ?_
          refine aw_iload 210 dL_hangs_208 6 rfl rfl ?_
          refine aw_iconst 211 (v := 3) dL_hangs_210 kI_3 rfl ?_
          refine aw_icmp_le 524 214 dL_hangs_211 rfl rfl (fun c32 => ?_) (fun c32 => ?_)
          · replace h := h.1 c32
            refine aw_iconst 525 (v := 0) dL_hangs_524 kI_0 rfl ?_
            exact aw_pick [7, 8, 9, 11, 12, 13, 14, 15, 16, 17, 18, 19, 5, 4, 3, 2, 1] rfl (aw_L_hangs_525 hG hO84 (fun _ _ _ _ _ _ _ _ _ _ _ _ _ _ _ _ h => h) h)
          · replace h := h.2 c32
            refine aw_iload 216 dL_hangs_214 6 rfl rfl ?_
            refine aw_bipush 218 (v := 61) dL_hangs_216 kB_61 rfl ?_
            refine aw_icmp_ge 524 221 dL_hangs_218 rfl rfl (fun c33 => ?_) (fun c33 => ?_)
            · replace h := h.1 c33
              refine aw_iconst 525 (v := 0) dL_hangs_524 kI_0 rfl ?_
              exact aw_pick [7, 8, 9, 11, 12, 13, 14, 15, 16, 17, 18, 19, 5, 4, 3, 2, 1] rfl (aw_L_hangs_525 hG hO84 (fun _ _ _ _ _ _ _ _ _ _ _ _ _ _ _ _ h => h) h)
            · replace h := h.2 c33
              refine aw_iload 223 dL_hangs_221 5 rfl rfl ?_
              refine aw_iload 225 dL_hangs_223 6 rfl rfl ?_
              refine aw_icmp_gt 524 228 dL_hangs_225 rfl rfl (fun c34 => ?_) (fun c34 => ?_)
              · replace h := h.1 c34
                refine aw_iconst 525 (v := 0) dL_hangs_524 kI_0 rfl ?_
                exact aw_pick [7, 8, 9, 11, 12, 13, 14, 15, 16, 17, 18, 19, 5, 4, 3, 2, 1] rfl (aw_L_hangs_525 hG hO84 (fun _ _ _ _ _ _ _ _ _ _ _ _ _ _ _ _ h => h) h)
              · replace h := h.2 c34
                refine aw_iload 230 dL_hangs_228 5 rfl rfl ?_
                refine aw_bipush 232 (v := 21) dL_hangs_230 kB_21 rfl ?_
                refine aw_icmp_ge 524 235 dL_hangs_232 rfl rfl (fun c35 => ?_) (fun c35 => ?_)
                · replace h := h.1 c35
                  refine aw_iconst 525 (v := 0) dL_hangs_524 kI_0 rfl ?_
                  exact aw_pick [7, 8, 9, 11, 12, 13, 14, 15, 16, 17, 18, 19, 5, 4, 3, 2, 1] rfl (aw_L_hangs_525 hG hO84 (fun _ _ _ _ _ _ _ _ _ _ _ _ _ _ _ _ h => h) h)
                · replace h := h.2 c35
                  refine aw_iload 237 dL_hangs_235 4 rfl rfl ?_
                  refine aw_bipush 239 (v := -4) dL_hangs_237 kB_m4 rfl ?_
                  refine aw_icmp_ne 297 242 dL_hangs_239 rfl rfl (fun c36 => ?_) (fun c36 => ?_)
                  · replace h := h.1 c36
                    refine aw_iload 299 dL_hangs_297 4 rfl rfl ?_
                    refine aw_if_le 524 302 dL_hangs_299 rfl rfl (fun c37 => ?_) (fun c37 => ?_)
                    · replace h := h.1 c37
                      refine aw_iconst 525 (v := 0) dL_hangs_524 kI_0 rfl ?_
                      exact aw_pick [7, 8, 9, 11, 12, 13, 14, 15, 16, 17, 18, 19, 5, 4, 3, 2, 1] rfl (aw_L_hangs_525 hG hO84 (fun _ _ _ _ _ _ _ _ _ _ _ _ _ _ _ _ h => h) h)
                    · replace h := h.2 c37
                      refine aw_iload 304 dL_hangs_302 4 rfl rfl ?_
                      refine aw_bipush 306 (v := 61) dL_hangs_304 kB_61 rfl ?_
                      refine aw_icmp_ge 524 309 dL_hangs_306 rfl rfl (fun c38 => ?_) (fun c38 => ?_)
                      · replace h := h.1 c38
                        refine aw_iconst 525 (v := 0) dL_hangs_524 kI_0 rfl ?_
                        exact aw_pick [7, 8, 9, 11, 12, 13, 14, 15, 16, 17, 18, 19, 5, 4, 3, 2, 1] rfl (aw_L_hangs_525 hG hO84 (fun _ _ _ _ _ _ _ _ _ _ _ _ _ _ _ _ h => h) h)
                      · replace h := h.2 c38
                        refine aw_iload 311 dL_hangs_309 3 rfl rfl ?_
                        refine aw_iload 313 dL_hangs_311 6 rfl rfl ?_
                        refine aw_iload 315 dL_hangs_313 5 rfl rfl ?_
                        refine aw_isub 316 dL_hangs_315 rfl ?_
                        refine aw_iload 318 dL_hangs_316 4 rfl rfl ?_
                        refine aw_isub 319 dL_hangs_318 rfl ?_
                        refine aw_icmp_ne 524 322 dL_hangs_319 rfl rfl (fun c39 => ?_) (fun c39 => ?_)
                        · replace h := h.1 c39
                          refine aw_iconst 525 (v := 0) dL_hangs_524 kI_0 rfl ?_
                          exact aw_pick [7, 8, 9, 11, 12, 13, 14, 15, 16, 17, 18, 19, 5, 4, 3, 2, 1] rfl (aw_L_hangs_525 hG hO84 (fun _ _ _ _ _ _ _ _ _ _ _ _ _ _ _ _ h => h) h)
                        · replace h := h.2 c39
                          refine aw_aload_n 323 dL_hangs_322 rfl 7 rfl rfl ?_
                          refine aw_iload 325 dL_hangs_323 19 rfl rfl ?_
                          refine aw_iload 327 dL_hangs_325 12 rfl rfl ?_
                          obtain ⟨g40, h⟩ := h
                          obtain ⟨g41, h⟩ := h
                          refine aw_callSX (M' := M_L_hundredthsOf) 330 268 [.ref _, .int _, .int _] [] dL_hangs_327 lk_RL_268 ms_L_hundredthsOf mp_L_hundredthsOf (0, 6, 7, 15) [(0, 6, 11, 19)] rfl ⟨leb rfl, leb rfl⟩ rfl (leb rfl) g40 g41 rfl (am_L_hundredthsOf hG h) (kkI fun v43 X42 h => ?_) (kxN KrI.no)
                          refine aw_widen (cc' := cc + 26) (ss' := ss + 156) (Nat.le_refl _) (Nat.le_refl _) ?_
                          refine aw_bipush 332 (v := 100) dL_hangs_330 kB_100 rfl ?_
                          refine aw_iload 334 dL_hangs_332 5 rfl rfl ?_
                          refine aw_iload 336 dL_hangs_334 4 rfl rfl ?_
                          refine aw_iadd 337 dL_hangs_336 rfl ?_
                          refine aw_imul 338 dL_hangs_337 rfl ?_
                          refine aw_iload 340 dL_hangs_338 6 rfl rfl ?_
                          obtain ⟨g44, h⟩ := h
                          refine aw_idiv 341 dL_hangs_340 g44 rfl ?_
                          refine aw_icmp_ne 524 344 dL_hangs_341 rfl rfl (fun c45 => ?_) (fun c45 => ?_)
                          · replace h := h.1 c45
                            refine aw_iconst 525 (v := 0) dL_hangs_524 kI_0 rfl ?_
                            exact aw_pick [7, 8, 9, 11, 12, 13, 14, 15, 16, 17, 18, 19, 5, 4, 3, 2, 1] rfl (aw_L_hangs_525 hG hO84 (fun _ _ _ _ _ _ _ _ _ _ _ _ _ _ _ _ h => h) h)
                          · replace h := h.2 c45
                            refine aw_iload 346 dL_hangs_344 1 rfl rfl ?_
                            refine aw_if_lt 353 349 dL_hangs_346 rfl rfl (fun c46 => ?_) (fun c46 => ?_)
                            · replace h := h.1 c46
                              refine aw_iconst 354 (v := 0) dL_hangs_353 kI_0 rfl ?_
                              refine aw_iload 356 dL_hangs_354 2 rfl rfl ?_
                              refine aw_iconst 357 (v := 2) dL_hangs_356 kI_2 rfl ?_
                              refine aw_icmp_ne 364 360 dL_hangs_357 rfl rfl (fun c47 => ?_) (fun c47 => ?_)
                              · replace h := h.1 c47
                                refine aw_iconst 365 (v := 0) dL_hangs_364 kI_0 rfl ?_
                                exact aw_pick [7, 8, 9, 11, 12, 13, 14, 15, 16, 17, 18, 19, 5, 4, 3, 2, 1, 0] rfl (aw_L_hangs_365 hG hO84 (fun _ _ _ _ _ _ _ _ _ _ _ _ _ _ _ _ h => h) h)
                              · replace h := h.2 c47
                                refine aw_iconst 361 (v := 1) dL_hangs_360 kI_1 rfl ?_
                                refine aw_goto 365 dL_hangs_361 rfl ?_
                                exact aw_pick [7, 8, 9, 11, 12, 13, 14, 15, 16, 17, 18, 19, 5, 4, 3, 2, 1, 0] rfl (aw_L_hangs_365 hG hO84 (fun _ _ _ _ _ _ _ _ _ _ _ _ _ _ _ _ h => h) h)
                            · replace h := h.2 c46
                              refine aw_iconst 350 (v := 1) dL_hangs_349 kI_1 rfl ?_
                              refine aw_goto 354 dL_hangs_350 rfl ?_
                              refine aw_iload 356 dL_hangs_354 2 rfl rfl ?_
                              refine aw_iconst 357 (v := 2) dL_hangs_356 kI_2 rfl ?_
                              refine aw_icmp_ne 364 360 dL_hangs_357 rfl rfl (fun c48 => ?_) (fun c48 => ?_)
                              · replace h := h.1 c48
                                refine aw_iconst 365 (v := 0) dL_hangs_364 kI_0 rfl ?_
                                exact aw_pick [7, 8, 9, 11, 12, 13, 14, 15, 16, 17, 18, 19, 5, 4, 3, 2, 1, 0] rfl (aw_L_hangs_365 hG hO84 (fun _ _ _ _ _ _ _ _ _ _ _ _ _ _ _ _ h => h) h)
                              · replace h := h.2 c48
                                refine aw_iconst 361 (v := 1) dL_hangs_360 kI_1 rfl ?_
                                refine aw_goto 365 dL_hangs_361 rfl ?_
                                exact aw_pick [7, 8, 9, 11, 12, 13, 14, 15, 16, 17, 18, 19, 5, 4, 3, 2, 1, 0] rfl (aw_L_hangs_365 hG hO84 (fun _ _ _ _ _ _ _ _ _ _ _ _ _ _ _ _ h => h) h)
                  · replace h := h.2 c36
                    refine aw_iload 244 dL_hangs_242 3 rfl rfl ?_
                    refine aw_sipush 247 (v := -904) dL_hangs_244 kS_m904 rfl ?_
                    refine aw_icmp_ne 524 250 dL_hangs_247 rfl rfl (fun c49 => ?_) (fun c49 => ?_)
                    · replace h := h.1 c49
                      refine aw_iconst 525 (v := 0) dL_hangs_524 kI_0 rfl ?_
                      exact aw_pick [7, 8, 9, 11, 12, 13, 14, 15, 16, 17, 18, 19, 5, 4, 3, 2, 1] rfl (aw_L_hangs_525 hG hO84 (fun _ _ _ _ _ _ _ _ _ _ _ _ _ _ _ _ h => h) h)
                    · replace h := h.2 c49
                      refine aw_iload 252 dL_hangs_250 2 rfl rfl ?_
                      refine aw_iconst 253 (v := 1) dL_hangs_252 kI_1 rfl ?_
                      refine aw_icmp_ne 524 256 dL_hangs_253 rfl rfl (fun c50 => ?_) (fun c50 => ?_)
                      · replace h := h.1 c50
                        refine aw_iconst 525 (v := 0) dL_hangs_524 kI_0 rfl ?_
                        exact aw_pick [7, 8, 9, 11, 12, 13, 14, 15, 16, 17, 18, 19, 5, 4, 3, 2, 1] rfl (aw_L_hangs_525 hG hO84 (fun _ _ _ _ _ _ _ _ _ _ _ _ _ _ _ _ h => h) h)
                      · replace h := h.2 c50
                        refine aw_iload 258 dL_hangs_256 1 rfl rfl ?_
                        refine aw_bipush 260 (v := -4) dL_hangs_258 kB_m4 rfl ?_
                        refine aw_icmp_ne 524 263 dL_hangs_260 rfl rfl (fun c51 => ?_) (fun c51 => ?_)
                        · replace h := h.1 c51
                          refine aw_iconst 525 (v := 0) dL_hangs_524 kI_0 rfl ?_
                          exact aw_pick [7, 8, 9, 11, 12, 13, 14, 15, 16, 17, 18, 19, 5, 4, 3, 2, 1] rfl (aw_L_hangs_525 hG hO84 (fun _ _ _ _ _ _ _ _ _ _ _ _ _ _ _ _ h => h) h)
                        · replace h := h.2 c51
                          refine aw_iload 265 dL_hangs_263 0 rfl rfl ?_
                          refine aw_bipush 267 (v := -4) dL_hangs_265 kB_m4 rfl ?_
                          refine aw_icmp_ne 524 270 dL_hangs_267 rfl rfl (fun c52 => ?_) (fun c52 => ?_)
                          · replace h := h.1 c52
                            refine aw_iconst 525 (v := 0) dL_hangs_524 kI_0 rfl ?_
                            exact aw_pick [7, 8, 9, 11, 12, 13, 14, 15, 16, 17, 18, 19, 5, 4, 3, 2, 1] rfl (aw_L_hangs_525 hG hO84 (fun _ _ _ _ _ _ _ _ _ _ _ _ _ _ _ _ h => h) h)
                          · replace h := h.2 c52
                            refine aw_aload_n 271 dL_hangs_270 rfl 7 rfl rfl ?_
                            refine aw_iload 273 dL_hangs_271 19 rfl rfl ?_
                            refine aw_iload 275 dL_hangs_273 12 rfl rfl ?_
                            obtain ⟨g53, h⟩ := h
                            obtain ⟨g54, h⟩ := h
                            refine aw_callSX (M' := M_L_hundredthsOf) 278 268 [.ref _, .int _, .int _] [] dL_hangs_275 lk_RL_268 ms_L_hundredthsOf mp_L_hundredthsOf (0, 6, 7, 15) [(0, 6, 11, 19)] rfl ⟨leb rfl, leb rfl⟩ rfl (leb rfl) g53 g54 rfl (am_L_hundredthsOf hG h) (kkI fun v56 X55 h => ?_) (kxN KrI.no)
                            refine aw_widen (cc' := cc + 26) (ss' := ss + 156) (Nat.le_refl _) (Nat.le_refl _) ?_
                            refine aw_bipush 280 (v := -4) dL_hangs_278 kB_m4 rfl ?_
                            refine aw_icmp_ne 524 283 dL_hangs_280 rfl rfl (fun c57 => ?_) (fun c57 => ?_)
                            · replace h := h.1 c57
                              refine aw_iconst 525 (v := 0) dL_hangs_524 kI_0 rfl ?_
                              exact aw_pick [7, 8, 9, 11, 12, 13, 14, 15, 16, 17, 18, 19, 5, 4, 3, 2, 1] rfl (aw_L_hangs_525 hG hO84 (fun _ _ _ _ _ _ _ _ _ _ _ _ _ _ _ _ h => h) h)
                            · replace h := h.2 c57
                              refine aw_aload_n 284 dL_hangs_283 rfl 7 rfl rfl ?_
                              refine aw_iload 286 dL_hangs_284 19 rfl rfl ?_
                              refine aw_iload 288 dL_hangs_286 12 rfl rfl ?_
                              obtain ⟨g58, h⟩ := h
                              obtain ⟨g59, h⟩ := h
                              refine aw_callSX (M' := M_L_fits) 291 270 [.ref _, .int _, .int _] [] dL_hangs_288 lk_RL_270 ms_L_fits mp_L_fits (0, 14, 15, 15) [] rfl ⟨leb rfl, leb rfl⟩ rfl (leb rfl) g58 g59 rfl (am_L_fits hG h) (kkI fun v61 X60 h => ?_) (kxN KrI.no)
                              refine aw_widen (cc' := cc + 28) (ss' := ss + 168) (Nat.le_refl _) (Nat.le_refl _) ?_
                              refine aw_if_ne 524 294 dL_hangs_291 rfl rfl (fun c62 => ?_) (fun c62 => ?_)
                              · replace h := h.1 c62
                                refine aw_iconst 525 (v := 0) dL_hangs_524 kI_0 rfl ?_
                                exact aw_pick [7, 8, 9, 11, 12, 13, 14, 15, 16, 17, 18, 19, 5, 4, 3, 2, 1] rfl (aw_L_hangs_525 hG hO84 (fun _ _ _ _ _ _ _ _ _ _ _ _ _ _ _ _ h => h) h)
                              · replace h := h.2 c62
                                refine aw_goto 440 dL_hangs_294 rfl ?_
                                exact aw_pick [7, 8, 9, 11, 12, 13, 14, 15, 16, 17, 18, 19, 5, 4, 3, 2, 1] rfl (aw_L_hangs_440 hG hO84 (fun _ _ _ _ _ _ _ _ _ _ _ _ _ _ _ _ h => h) h))
set_option maxRecDepth 20000 in
theorem aw_L_hangs_1164 {G : GG} (hG : G.1.stackTraces = false)  {l0 : Nat} {l1 : Int32} {l2 : Int32} {l3 : Int32} {cc : Nat} {ss : Nat} {X : XH} {K : Int32 → XH → Prop}  (h : w_L_hangs_1164  l0 l1 l2 l3 cc ss X K) : AW G M_L_hangs 1164 [(0, .ref l0), (1, .int l1), (2, .int l2), (3, .int l3)] [] X cc ss (KrI K) := by
  unfold w_L_hangs_1164 at h
  refine aw_iload_n 1165 dL_hangs_1164 rfl 3 rfl rfl ?_
  refine aw_if_eq 1202 1168 dL_hangs_1165 rfl rfl (fun c1 => ?_) (fun c1 => ?_)
  · replace h := h.1 c1
    refine aw_iconst 1203 (v := 0) dL_hangs_1202 kI_0 rfl ?_
    obtain ⟨g2, h⟩ := h
    obtain ⟨g3, h⟩ := h
    exact aw_ireturn (ty := .boolean) dL_hangs_1203 rfl rfl g2 g3 ⟨_, rfl, h⟩
  · replace h := h.2 c1
    refine aw_iload_n 1169 dL_hangs_1168 rfl 2 rfl rfl ?_
    refine aw_aload_n 1170 dL_hangs_1169 rfl 0 rfl rfl ?_
    obtain ⟨g4, h⟩ := h
    obtain ⟨g5, h⟩ := h
    obtain ⟨g8, h⟩ := h
    refine aw_callV (M' := M_X4_recordings) 1173 309 4 l0 [] [.int _] dL_hangs_1170 lk_RL_309 mv_X4_recordings mp_X4_recordings rfl ⟨leb rfl, leb rfl⟩ rfl (ltb rfl) g8 rfl (leb rfl) g4 g5 rfl (am_X4_recordings hG h) (kkI fun v7 X6 h => ?_) (kxN KrI.no)
    refine aw_widen (cc' := cc) (ss' := ss) (Nat.le_refl _) (Nat.le_refl _) ?_
    refine aw_aload_n 1174 dL_hangs_1173 rfl 0 rfl rfl ?_
    obtain ⟨g9, h⟩ := h
    obtain ⟨g10, h⟩ := h
    obtain ⟨g13, h⟩ := h
    refine aw_callV (M' := M_X4_wiped) 1177 312 4 l0 [] [.int _, .int _] dL_hangs_1174 lk_RL_312 mv_X4_wiped mp_X4_wiped rfl ⟨leb rfl, leb rfl⟩ rfl (ltb rfl) g13 rfl (leb rfl) g9 g10 rfl (am_X4_wiped hG h) (kkI fun v12 X11 h => ?_) (kxN KrI.no)
    refine aw_widen (cc' := cc) (ss' := ss) (Nat.le_refl _) (Nat.le_refl _) ?_
    refine aw_isub 1178 dL_hangs_1177 rfl ?_
    refine aw_icmp_ne 1202 1181 dL_hangs_1178 rfl rfl (fun c14 => ?_) (fun c14 => ?_)
    · replace h := h.1 c14
      refine aw_iconst 1203 (v := 0) dL_hangs_1202 kI_0 rfl ?_
      obtain ⟨g15, h⟩ := h
      obtain ⟨g16, h⟩ := h
      exact aw_ireturn (ty := .boolean) dL_hangs_1203 rfl rfl g15 g16 ⟨_, rfl, h⟩
    · replace h := h.2 c14
      refine aw_aload_n 1182 dL_hangs_1181 rfl 0 rfl rfl ?_
      obtain ⟨g17, h⟩ := h
      obtain ⟨g18, h⟩ := h
      obtain ⟨g21, h⟩ := h
      refine aw_callV (M' := M_X4_mixes) 1185 315 4 l0 [] [] dL_hangs_1182 lk_RL_315 mv_X4_mixes mp_X4_mixes rfl ⟨leb rfl, leb rfl⟩ rfl (ltb rfl) g21 rfl (leb rfl) g17 g18 rfl (am_X4_mixes hG h) (kkI fun v20 X19 h => ?_) (kxN KrI.no)
      refine aw_widen (cc' := cc) (ss' := ss) (Nat.le_refl _) (Nat.le_refl _) ?_
      refine aw_if_lt 1202 1188 dL_hangs_1185 rfl rfl (fun c22 => ?_) (fun c22 => ?_)
      · replace h := h.1 c22
        refine aw_iconst 1203 (v := 0) dL_hangs_1202 kI_0 rfl ?_
        obtain ⟨g23, h⟩ := h
        obtain ⟨g24, h⟩ := h
        exact aw_ireturn (ty := .boolean) dL_hangs_1203 rfl rfl g23 g24 ⟨_, rfl, h⟩
      · replace h := h.2 c22
        refine aw_aload_n 1189 dL_hangs_1188 rfl 0 rfl rfl ?_
        refine aw_iload_n 1190 dL_hangs_1189 rfl 1 rfl rfl ?_
        obtain ⟨g25, h⟩ := h
        obtain ⟨g26, h⟩ := h
        refine aw_callSX (M' := M_L_clauseOf) 1193 255 [.ref _, .int _] [] dL_hangs_1190 lk_RL_255 ms_L_clauseOf mp_L_clauseOf (0, 32, 33, 15) [] rfl ⟨leb rfl, leb rfl⟩ rfl (leb rfl) g25 g26 rfl (am_L_clauseOf hG h) (kkI fun v28 X27 h => ?_) (kxN KrI.no)
        refine aw_widen (cc' := cc + 4) (ss' := ss + 24) (Nat.le_refl _) (Nat.le_refl _) ?_
        refine aw_bipush 1195 (v := -2) dL_hangs_1193 kB_m2 rfl ?_
        refine aw_icmp_ne 1202 1198 dL_hangs_1195 rfl rfl (fun c29 => ?_) (fun c29 => ?_)
        · replace h := h.1 c29
          refine aw_iconst 1203 (v := 0) dL_hangs_1202 kI_0 rfl ?_
          obtain ⟨g30, h⟩ := h
          obtain ⟨g31, h⟩ := h
          exact aw_ireturn (ty := .boolean) dL_hangs_1203 rfl rfl g30 g31 ⟨_, rfl, h⟩
        · replace h := h.2 c29
          refine aw_iconst 1199 (v := 1) dL_hangs_1198 kI_1 rfl ?_
          refine aw_goto 1203 dL_hangs_1199 rfl ?_
          obtain ⟨g32, h⟩ := h
          obtain ⟨g33, h⟩ := h
          exact aw_ireturn (ty := .boolean) dL_hangs_1203 rfl rfl g32 g33 ⟨_, rfl, h⟩
set_option maxRecDepth 20000 in
theorem aw_L_hangs_1125 {G : GG} (hG : G.1.stackTraces = false)  {l0 : Nat} {l1 : Int32} {l2 : Int32} {l3 : Int32} {l4 : Nat} {l5 : Int32} {cc : Nat} {ss : Nat} {X : XH} {K : Int32 → XH → Prop}  (h : w_L_hangs_1125  l0 l1 l2 l3 l4 l5 cc ss X K) : AW G M_L_hangs 1125 [(0, .ref l0), (1, .int l1), (2, .int l2), (3, .int l3), (4, .ref l4), (5, .int l5)] [] X cc ss (KrI K) :=
  h (fun l0 l1 l2 l3 l4 l5 cc ss X => AW G M_L_hangs 1125 [(0, .ref l0), (1, .int l1), (2, .int l2), (3, .int l3), (4, .ref l4), (5, .int l5)] [] X cc ss (KrI K)) (fun l0 l1 l2 l3 l4 l5 cc ss X h => by
    refine aw_iload 1127 dL_hangs_1125 5 rfl rfl ?_
    refine aw_iconst 1128 (v := 4) dL_hangs_1127 kI_4 rfl ?_
    refine aw_icmp_ge 1164 1131 dL_hangs_1128 rfl rfl (fun c1 => ?_) (fun c1 => ?_)
    · replace h := h.1 c1
      exact aw_pick [0, 1, 2, 3] rfl (aw_L_hangs_1164 hG  h)
    · replace h := h.2 c1
      refine aw_iload_n 1132 dL_hangs_1131 rfl 3 rfl rfl ?_
      refine aw_if_eq 1164 1135 dL_hangs_1132 rfl rfl (fun c2 => ?_) (fun c2 => ?_)
      · replace h := h.1 c2
        exact aw_pick [0, 1, 2, 3] rfl (aw_L_hangs_1164 hG  h)
      · replace h := h.2 c2
        refine aw_aload_n 1136 dL_hangs_1135 rfl 0 rfl rfl ?_
        refine aw_iload 1138 dL_hangs_1136 5 rfl rfl ?_
        obtain ⟨g3, h⟩ := h
        obtain ⟨g4, h⟩ := h
        refine aw_callSX (M' := M_L_reelAt) 1141 295 [.ref _, .int _] [] dL_hangs_1138 lk_RL_295 ms_L_reelAt mp_L_reelAt (0, 14, 15, 15) [] rfl ⟨leb rfl, leb rfl⟩ rfl (leb rfl) g3 g4 rfl (am_L_reelAt hG h) (kkI fun v6 X5 h => ?_) (kxN KrI.no)
        refine aw_widen (cc' := cc + 2) (ss' := ss + 12) (Nat.le_refl _) (Nat.le_refl _) ?_
        refine aw_bipush 1143 (v := 100) dL_hangs_1141 kB_100 rfl ?_
        refine aw_irem 1144 dL_hangs_1143 (by decide) rfl ?_
        refine aw_aload 1146 dL_hangs_1144 4 rfl rfl ?_
        refine aw_iload 1148 dL_hangs_1146 5 rfl rfl ?_
        obtain ⟨g7, h⟩ := h
        obtain ⟨g8, h⟩ := h
        refine aw_iaload 1149 dL_hangs_1148 g7 g8 rfl ?_
        refine aw_icmp_ne 1156 1152 dL_hangs_1149 rfl rfl (fun c9 => ?_) (fun c9 => ?_)
        · replace h := h.1 c9
          refine aw_iconst 1157 (v := 0) dL_hangs_1156 kI_0 rfl ?_
          refine aw_istore_n 1158 (lv' := [(3, _), (0, _), (1, _), (2, _), (4, _), (5, _)]) dL_hangs_1157 rfl (ltb rfl) rfl rfl ?_
          refine aw_iinc 1161 (v := 1) (lv' := [(5, _), (3, _), (0, _), (1, _), (2, _), (4, _)]) dL_hangs_1158 5 rfl kI_1 (ltb rfl) rfl rfl ?_
          refine aw_goto 1125 dL_hangs_1161 rfl ?_
          exact aw_pick [2, 3, 4, 1, 5, 0] rfl h
        · replace h := h.2 c9
          refine aw_iconst 1153 (v := 1) dL_hangs_1152 kI_1 rfl ?_
          refine aw_goto 1157 dL_hangs_1153 rfl ?_
          refine aw_istore_n 1158 (lv' := [(3, _), (0, _), (1, _), (2, _), (4, _), (5, _)]) dL_hangs_1157 rfl (ltb rfl) rfl rfl ?_
          refine aw_iinc 1161 (v := 1) (lv' := [(5, _), (3, _), (0, _), (1, _), (2, _), (4, _)]) dL_hangs_1158 5 rfl kI_1 (ltb rfl) rfl rfl ?_
          refine aw_goto 1125 dL_hangs_1161 rfl ?_
          exact aw_pick [2, 3, 4, 1, 5, 0] rfl h)
set_option maxRecDepth 20000 in
theorem aw_L_hangs_84 {G : GG} (hG : G.1.stackTraces = false)  {l0 : Nat} {l1 : Int32} {l2 : Int32} {l3 : Int32} {l4 : Nat} {l5 : Int32} {cc : Nat} {ss : Nat} {X : XH} {K : Int32 → XH → Prop}  (h : w_L_hangs_84  l0 l1 l2 l3 l4 l5 cc ss X K) : AW G M_L_hangs 84 [(0, .ref l0), (1, .int l1), (2, .int l2), (3, .int l3), (4, .ref l4), (5, .int l5)] [] X cc ss (KrI K) :=
  h (fun l0 l1 l2 l3 l4 l5 cc ss X => AW G M_L_hangs 84 [(0, .ref l0), (1, .int l1), (2, .int l2), (3, .int l3), (4, .ref l4), (5, .int l5)] [] X cc ss (KrI K)) (fun l0 l1 l2 l3 l4 l5 cc ss X h => by
    refine aw_iload 86 dL_hangs_84 5 rfl rfl ?_
    refine aw_iconst 87 (v := 3) dL_hangs_86 kI_3 rfl ?_
    refine aw_icmp_ge 1122 90 dL_hangs_87 rfl rfl (fun c1 => ?_) (fun c1 => ?_)
    · replace h := h.1 c1
      refine aw_iconst 1123 (v := 0) dL_hangs_1122 kI_0 rfl ?_
      refine aw_istore 1125 (lv' := [(5, _), (0, _), (1, _), (2, _), (3, _), (4, _)]) dL_hangs_1123 (ltb rfl) rfl rfl ?_
      exact aw_pick [1, 2, 3, 4, 5, 0] rfl (aw_L_hangs_1125 hG  h)
    · replace h := h.2 c1
      refine aw_iload_n 91 dL_hangs_90 rfl 3 rfl rfl ?_
      refine aw_if_eq 1122 94 dL_hangs_91 rfl rfl (fun c2 => ?_) (fun c2 => ?_)
      · replace h := h.1 c2
        refine aw_iconst 1123 (v := 0) dL_hangs_1122 kI_0 rfl ?_
        refine aw_istore 1125 (lv' := [(5, _), (0, _), (1, _), (2, _), (3, _), (4, _)]) dL_hangs_1123 (ltb rfl) rfl rfl ?_
        exact aw_pick [1, 2, 3, 4, 5, 0] rfl (aw_L_hangs_1125 hG  h)
      · replace h := h.2 c2
        refine aw_iconst 95 (v := 0) dL_hangs_94 kI_0 rfl ?_
        refine aw_istore 97 (lv' := [(6, _), (0, _), (1, _), (2, _), (3, _), (4, _), (5, _)]) dL_hangs_95 (ltb rfl) rfl rfl ?_
        refine aw_iconst 98 (v := 0) dL_hangs_97 kI_0 rfl ?_
        refine aw_istore 100 (lv' := [(7, _), (6, _), (0, _), (1, _), (2, _), (3, _), (4, _), (5, _)]) dL_hangs_98 (ltb rfl) rfl rfl ?_
        refine aw_iconst 101 (v := 0) dL_hangs_100 kI_0 rfl ?_
        refine aw_istore 103 (lv' := [(8, _), (7, _), (6, _), (0, _), (1, _), (2, _), (3, _), (4, _), (5, _)]) dL_hangs_101 (ltb rfl) rfl rfl ?_
        refine aw_iconst 104 (v := 0) dL_hangs_103 kI_0 rfl ?_
        refine aw_istore 106 (lv' := [(9, _), (8, _), (7, _), (6, _), (0, _), (1, _), (2, _), (3, _), (4, _), (5, _)]) dL_hangs_104 (ltb rfl) rfl rfl ?_
        refine aw_iconst 107 (v := 0) dL_hangs_106 kI_0 rfl ?_
        refine aw_istore 109 (lv' := [(10, _), (9, _), (8, _), (7, _), (6, _), (0, _), (1, _), (2, _), (3, _), (4, _), (5, _)]) dL_hangs_107 (ltb rfl) rfl rfl ?_
        refine aw_iconst 110 (v := 0) dL_hangs_109 kI_0 rfl ?_
        refine aw_istore 112 (lv' := [(11, _), (10, _), (9, _), (8, _), (7, _), (6, _), (0, _), (1, _), (2, _), (3, _), (4, _), (5, _)]) dL_hangs_110 (ltb rfl) rfl rfl ?_
        refine aw_iconst 113 (v := 0) dL_hangs_112 kI_0 rfl ?_
        refine aw_istore 115 (lv' := [(12, _), (11, _), (10, _), (9, _), (8, _), (7, _), (6, _), (0, _), (1, _), (2, _), (3, _), (4, _), (5, _)]) dL_hangs_113 (ltb rfl) rfl rfl ?_
        exact aw_pick [7, 8, 9, 10, 11, 12, 6, 5, 4, 3, 2, 1, 0] rfl (aw_L_hangs_115 hG (fun _ _ _ _ _ _ _ _ _ h => h) h))
set_option maxRecDepth 20000 in
theorem am_L_hangs {G : GG} (hG : G.1.stackTraces = false) {l0 : Nat} {X : XH} {K : Int32 → XH → Prop} (h : w_L_hangs l0 X K) : AM G M_L_hangs X [.ref l0] (KrI K) := AM_of (by decide +kernel) rfl (leb rfl) hG (by
  show AW G M_L_hangs 0 [(0, .ref l0)] [] X 0 0 _
  unfold w_L_hangs at h
  refine aw_aload_n 1 dL_hangs_0 rfl 0 rfl rfl ?_
  obtain ⟨g3, h⟩ := h
  refine aw_callV (M' := M_X4_clauses) 4 191 4 l0 [] [] dL_hangs_1 lk_RL_191 mv_X4_clauses mp_X4_clauses rfl ⟨leb rfl, leb rfl⟩ rfl (ltb rfl) g3 rfl (leb rfl) (leb rfl) (leb rfl) rfl (am_X4_clauses hG h) (kkI fun v2 X1 h => ?_) (kxN KrI.no)
  refine aw_widen (cc' := 0) (ss' := 0) (leb rfl) (leb rfl) ?_
  refine aw_istore_n 5 (lv' := [(1, _), (0, _)]) dL_hangs_4 rfl (ltb rfl) rfl rfl ?_
  refine aw_iconst 6 (v := 0) dL_hangs_5 kI_0 rfl ?_
  refine aw_istore_n 7 (lv' := [(2, _), (1, _), (0, _)]) dL_hangs_6 rfl (ltb rfl) rfl rfl ?_
  refine aw_iload_n 8 dL_hangs_7 rfl 1 rfl rfl ?_
  refine aw_if_lt 74 11 dL_hangs_8 rfl rfl (fun c4 => ?_) (fun c4 => ?_)
  · replace h := h.1 c4
    refine aw_iconst 75 (v := 0) dL_hangs_74 kI_0 rfl ?_
    refine aw_istore_n 76 (lv' := [(3, _), (2, _), (1, _), (0, _)]) dL_hangs_75 rfl (ltb rfl) rfl rfl ?_
    refine aw_iconst 77 (v := 4) dL_hangs_76 kI_4 rfl ?_
    refine aw_newa 79 100 4 dL_hangs_77 (tk1 (i := 86) (by decide +kernel) rfl) rfl (leb rfl) (leb rfl) rfl (by decide) (by decide) (by decide) (leb rfl) (leb rfl) rfl ?_
    refine aw_astore 81 (lv' := [(4, _), (3, _), (2, _), (1, _), (0, _)]) dL_hangs_79 (ltb rfl) rfl rfl ?_
    refine aw_iconst 82 (v := 0) dL_hangs_81 kI_0 rfl ?_
    refine aw_istore 84 (lv' := [(5, _), (4, _), (3, _), (2, _), (1, _), (0, _)]) dL_hangs_82 (ltb rfl) rfl rfl ?_
    exact aw_pick [5, 4, 3, 2, 1, 0] rfl (aw_L_hangs_84 hG  h)
  · replace h := h.2 c4
    refine aw_iload_n 12 dL_hangs_11 rfl 1 rfl rfl ?_
    refine aw_bipush 14 (v := 24) dL_hangs_12 kB_24 rfl ?_
    refine aw_icmp_gt 74 17 dL_hangs_14 rfl rfl (fun c5 => ?_) (fun c5 => ?_)
    · replace h := h.1 c5
      refine aw_iconst 75 (v := 0) dL_hangs_74 kI_0 rfl ?_
      refine aw_istore_n 76 (lv' := [(3, _), (2, _), (1, _), (0, _)]) dL_hangs_75 rfl (ltb rfl) rfl rfl ?_
      refine aw_iconst 77 (v := 4) dL_hangs_76 kI_4 rfl ?_
      refine aw_newa 79 100 4 dL_hangs_77 (tk1 (i := 86) (by decide +kernel) rfl) rfl (leb rfl) (leb rfl) rfl (by decide) (by decide) (by decide) (leb rfl) (leb rfl) rfl ?_
      refine aw_astore 81 (lv' := [(4, _), (3, _), (2, _), (1, _), (0, _)]) dL_hangs_79 (ltb rfl) rfl rfl ?_
      refine aw_iconst 82 (v := 0) dL_hangs_81 kI_0 rfl ?_
      refine aw_istore 84 (lv' := [(5, _), (4, _), (3, _), (2, _), (1, _), (0, _)]) dL_hangs_82 (ltb rfl) rfl rfl ?_
      exact aw_pick [5, 4, 3, 2, 1, 0] rfl (aw_L_hangs_84 hG  h)
    · replace h := h.2 c5
      refine aw_aload_n 18 dL_hangs_17 rfl 2 rfl rfl ?_
      obtain ⟨g8, h⟩ := h
      refine aw_callV (M' := M_X4_session) 21 243 4 l0 [] [] dL_hangs_18 lk_RL_243 mv_X4_session mp_X4_session rfl ⟨leb rfl, leb rfl⟩ rfl (ltb rfl) g8 rfl (leb rfl) (leb rfl) (leb rfl) rfl (am_X4_session hG h) (kkI fun v7 X6 h => ?_) (kxN KrI.no)
      refine aw_widen (cc' := 0) (ss' := 0) (leb rfl) (leb rfl) ?_
      refine aw_if_lt 74 24 dL_hangs_21 rfl rfl (fun c9 => ?_) (fun c9 => ?_)
      · replace h := h.1 c9
        refine aw_iconst 75 (v := 0) dL_hangs_74 kI_0 rfl ?_
        refine aw_istore_n 76 (lv' := [(3, _), (2, _), (1, _), (0, _)]) dL_hangs_75 rfl (ltb rfl) rfl rfl ?_
        refine aw_iconst 77 (v := 4) dL_hangs_76 kI_4 rfl ?_
        refine aw_newa 79 100 4 dL_hangs_77 (tk1 (i := 86) (by decide +kernel) rfl) rfl (leb rfl) (leb rfl) rfl (by decide) (by decide) (by decide) (leb rfl) (leb rfl) rfl ?_
        refine aw_astore 81 (lv' := [(4, _), (3, _), (2, _), (1, _), (0, _)]) dL_hangs_79 (ltb rfl) rfl rfl ?_
        refine aw_iconst 82 (v := 0) dL_hangs_81 kI_0 rfl ?_
        refine aw_istore 84 (lv' := [(5, _), (4, _), (3, _), (2, _), (1, _), (0, _)]) dL_hangs_82 (ltb rfl) rfl rfl ?_
        exact aw_pick [5, 4, 3, 2, 1, 0] rfl (aw_L_hangs_84 hG  h)
      · replace h := h.2 c9
        refine aw_aload_n 25 dL_hangs_24 rfl 2 rfl rfl ?_
        obtain ⟨g12, h⟩ := h
        refine aw_callV (M' := M_X4_savedStates) 28 246 4 l0 [] [] dL_hangs_25 lk_RL_246 mv_X4_savedStates mp_X4_savedStates rfl ⟨leb rfl, leb rfl⟩ rfl (ltb rfl) g12 rfl (leb rfl) (leb rfl) (leb rfl) rfl (am_X4_savedStates hG h) (kkI fun v11 X10 h => ?_) (kxN KrI.no)
        refine aw_widen (cc' := 0) (ss' := 0) (leb rfl) (leb rfl) ?_
        refine aw_if_lt 74 31 dL_hangs_28 rfl rfl (fun c13 => ?_) (fun c13 => ?_)
        · replace h := h.1 c13
          refine aw_iconst 75 (v := 0) dL_hangs_74 kI_0 rfl ?_
          refine aw_istore_n 76 (lv' := [(3, _), (2, _), (1, _), (0, _)]) dL_hangs_75 rfl (ltb rfl) rfl rfl ?_
          refine aw_iconst 77 (v := 4) dL_hangs_76 kI_4 rfl ?_
          refine aw_newa 79 100 4 dL_hangs_77 (tk1 (i := 86) (by decide +kernel) rfl) rfl (leb rfl) (leb rfl) rfl (by decide) (by decide) (by decide) (leb rfl) (leb rfl) rfl ?_
          refine aw_astore 81 (lv' := [(4, _), (3, _), (2, _), (1, _), (0, _)]) dL_hangs_79 (ltb rfl) rfl rfl ?_
          refine aw_iconst 82 (v := 0) dL_hangs_81 kI_0 rfl ?_
          refine aw_istore 84 (lv' := [(5, _), (4, _), (3, _), (2, _), (1, _), (0, _)]) dL_hangs_82 (ltb rfl) rfl rfl ?_
          exact aw_pick [5, 4, 3, 2, 1, 0] rfl (aw_L_hangs_84 hG  h)
        · replace h := h.2 c13
          refine aw_aload_n 32 dL_hangs_31 rfl 2 rfl rfl ?_
          obtain ⟨g16, h⟩ := h
          refine aw_callV (M' := M_X4_savedStates) 35 246 4 l0 [] [] dL_hangs_32 lk_RL_246 mv_X4_savedStates mp_X4_savedStates rfl ⟨leb rfl, leb rfl⟩ rfl (ltb rfl) g16 rfl (leb rfl) (leb rfl) (leb rfl) rfl (am_X4_savedStates hG h) (kkI fun v15 X14 h => ?_) (kxN KrI.no)
          refine aw_widen (cc' := 0) (ss' := 0) (leb rfl) (leb rfl) ?_
          refine aw_bipush 37 (v := 7) dL_hangs_35 kB_7 rfl ?_
          refine aw_icmp_ge 74 40 dL_hangs_37 rfl rfl (fun c17 => ?_) (fun c17 => ?_)
          · replace h := h.1 c17
            refine aw_iconst 75 (v := 0) dL_hangs_74 kI_0 rfl ?_
            refine aw_istore_n 76 (lv' := [(3, _), (2, _), (1, _), (0, _)]) dL_hangs_75 rfl (ltb rfl) rfl rfl ?_
            refine aw_iconst 77 (v := 4) dL_hangs_76 kI_4 rfl ?_
            refine aw_newa 79 100 4 dL_hangs_77 (tk1 (i := 86) (by decide +kernel) rfl) rfl (leb rfl) (leb rfl) rfl (by decide) (by decide) (by decide) (leb rfl) (leb rfl) rfl ?_
            refine aw_astore 81 (lv' := [(4, _), (3, _), (2, _), (1, _), (0, _)]) dL_hangs_79 (ltb rfl) rfl rfl ?_
            refine aw_iconst 82 (v := 0) dL_hangs_81 kI_0 rfl ?_
            refine aw_istore 84 (lv' := [(5, _), (4, _), (3, _), (2, _), (1, _), (0, _)]) dL_hangs_82 (ltb rfl) rfl rfl ?_
            exact aw_pick [5, 4, 3, 2, 1, 0] rfl (aw_L_hangs_84 hG  h)
          · replace h := h.2 c17
            refine aw_aload_n 41 dL_hangs_40 rfl 2 rfl rfl ?_
            obtain ⟨g20, h⟩ := h
            refine aw_callV (M' := M_X4_bestTongue) 44 249 4 l0 [] [] dL_hangs_41 lk_RL_249 mv_X4_bestTongue mp_X4_bestTongue rfl ⟨leb rfl, leb rfl⟩ rfl (ltb rfl) g20 rfl (leb rfl) (leb rfl) (leb rfl) rfl (am_X4_bestTongue hG h) (kkI fun v19 X18 h => ?_) (kxN KrI.no)
            refine aw_widen (cc' := 0) (ss' := 0) (leb rfl) (leb rfl) ?_
            refine aw_if_lt 74 47 dL_hangs_44 rfl rfl (fun c21 => ?_) (fun c21 => ?_)
            · replace h := h.1 c21
              refine aw_iconst 75 (v := 0) dL_hangs_74 kI_0 rfl ?_
              refine aw_istore_n 76 (lv' := [(3, _), (2, _), (1, _), (0, _)]) dL_hangs_75 rfl (ltb rfl) rfl rfl ?_
              refine aw_iconst 77 (v := 4) dL_hangs_76 kI_4 rfl ?_
              refine aw_newa 79 100 4 dL_hangs_77 (tk1 (i := 86) (by decide +kernel) rfl) rfl (leb rfl) (leb rfl) rfl (by decide) (by decide) (by decide) (leb rfl) (leb rfl) rfl ?_
              refine aw_astore 81 (lv' := [(4, _), (3, _), (2, _), (1, _), (0, _)]) dL_hangs_79 (ltb rfl) rfl rfl ?_
              refine aw_iconst 82 (v := 0) dL_hangs_81 kI_0 rfl ?_
              refine aw_istore 84 (lv' := [(5, _), (4, _), (3, _), (2, _), (1, _), (0, _)]) dL_hangs_82 (ltb rfl) rfl rfl ?_
              exact aw_pick [5, 4, 3, 2, 1, 0] rfl (aw_L_hangs_84 hG  h)
            · replace h := h.2 c21
              refine aw_aload_n 48 dL_hangs_47 rfl 2 rfl rfl ?_
              obtain ⟨g24, h⟩ := h
              refine aw_callV (M' := M_X4_bestTongue) 51 249 4 l0 [] [] dL_hangs_48 lk_RL_249 mv_X4_bestTongue mp_X4_bestTongue rfl ⟨leb rfl, leb rfl⟩ rfl (ltb rfl) g24 rfl (leb rfl) (leb rfl) (leb rfl) rfl (am_X4_bestTongue hG h) (kkI fun v23 X22 h => ?_) (kxN KrI.no)
              refine aw_widen (cc' := 0) (ss' := 0) (leb rfl) (leb rfl) ?_
              refine aw_iconst 52 (v := 3) dL_hangs_51 kI_3 rfl ?_
              refine aw_icmp_ge 74 55 dL_hangs_52 rfl rfl (fun c25 => ?_) (fun c25 => ?_)
              · replace h := h.1 c25
                refine aw_iconst 75 (v := 0) dL_hangs_74 kI_0 rfl ?_
                refine aw_istore_n 76 (lv' := [(3, _), (2, _), (1, _), (0, _)]) dL_hangs_75 rfl (ltb rfl) rfl rfl ?_
                refine aw_iconst 77 (v := 4) dL_hangs_76 kI_4 rfl ?_
                refine aw_newa 79 100 4 dL_hangs_77 (tk1 (i := 86) (by decide +kernel) rfl) rfl (leb rfl) (leb rfl) rfl (by decide) (by decide) (by decide) (leb rfl) (leb rfl) rfl ?_
                refine aw_astore 81 (lv' := [(4, _), (3, _), (2, _), (1, _), (0, _)]) dL_hangs_79 (ltb rfl) rfl rfl ?_
                refine aw_iconst 82 (v := 0) dL_hangs_81 kI_0 rfl ?_
                refine aw_istore 84 (lv' := [(5, _), (4, _), (3, _), (2, _), (1, _), (0, _)]) dL_hangs_82 (ltb rfl) rfl rfl ?_
                exact aw_pick [5, 4, 3, 2, 1, 0] rfl (aw_L_hangs_84 hG  h)
              · replace h := h.2 c25
                refine aw_aload_n 56 dL_hangs_55 rfl 2 rfl rfl ?_
                obtain ⟨g28, h⟩ := h
                refine aw_callV (M' := M_X4_loudestState) 59 252 4 l0 [] [] dL_hangs_56 lk_RL_252 mv_X4_loudestState mp_X4_loudestState rfl ⟨leb rfl, leb rfl⟩ rfl (ltb rfl) g28 rfl (leb rfl) (leb rfl) (leb rfl) rfl (am_X4_loudestState hG h) (kkI fun v27 X26 h => ?_) (kxN KrI.no)
                refine aw_widen (cc' := 0) (ss' := 0) (leb rfl) (leb rfl) ?_
                refine aw_if_lt 74 62 dL_hangs_59 rfl rfl (fun c29 => ?_) (fun c29 => ?_)
                · replace h := h.1 c29
                  refine aw_iconst 75 (v := 0) dL_hangs_74 kI_0 rfl ?_
                  refine aw_istore_n 76 (lv' := [(3, _), (2, _), (1, _), (0, _)]) dL_hangs_75 rfl (ltb rfl) rfl rfl ?_
                  refine aw_iconst 77 (v := 4) dL_hangs_76 kI_4 rfl ?_
                  refine aw_newa 79 100 4 dL_hangs_77 (tk1 (i := 86) (by decide +kernel) rfl) rfl (leb rfl) (leb rfl) rfl (by decide) (by decide) (by decide) (leb rfl) (leb rfl) rfl ?_
                  refine aw_astore 81 (lv' := [(4, _), (3, _), (2, _), (1, _), (0, _)]) dL_hangs_79 (ltb rfl) rfl rfl ?_
                  refine aw_iconst 82 (v := 0) dL_hangs_81 kI_0 rfl ?_
                  refine aw_istore 84 (lv' := [(5, _), (4, _), (3, _), (2, _), (1, _), (0, _)]) dL_hangs_82 (ltb rfl) rfl rfl ?_
                  exact aw_pick [5, 4, 3, 2, 1, 0] rfl (aw_L_hangs_84 hG  h)
                · replace h := h.2 c29
                  refine aw_aload_n 63 dL_hangs_62 rfl 2 rfl rfl ?_
                  obtain ⟨g32, h⟩ := h
                  refine aw_callV (M' := M_X4_loudestState) 66 252 4 l0 [] [] dL_hangs_63 lk_RL_252 mv_X4_loudestState mp_X4_loudestState rfl ⟨leb rfl, leb rfl⟩ rfl (ltb rfl) g32 rfl (leb rfl) (leb rfl) (leb rfl) rfl (am_X4_loudestState hG h) (kkI fun v31 X30 h => ?_) (kxN KrI.no)
                  refine aw_widen (cc' := 0) (ss' := 0) (leb rfl) (leb rfl) ?_
                  refine aw_iconst 67 (v := 5) dL_hangs_66 kI_5 rfl ?_
                  refine aw_icmp_ge 74 70 dL_hangs_67 rfl rfl (fun c33 => ?_) (fun c33 => ?_)
                  · replace h := h.1 c33
                    refine aw_iconst 75 (v := 0) dL_hangs_74 kI_0 rfl ?_
                    refine aw_istore_n 76 (lv' := [(3, _), (2, _), (1, _), (0, _)]) dL_hangs_75 rfl (ltb rfl) rfl rfl ?_
                    refine aw_iconst 77 (v := 4) dL_hangs_76 kI_4 rfl ?_
                    refine aw_newa 79 100 4 dL_hangs_77 (tk1 (i := 86) (by decide +kernel) rfl) rfl (leb rfl) (leb rfl) rfl (by decide) (by decide) (by decide) (leb rfl) (leb rfl) rfl ?_
                    refine aw_astore 81 (lv' := [(4, _), (3, _), (2, _), (1, _), (0, _)]) dL_hangs_79 (ltb rfl) rfl rfl ?_
                    refine aw_iconst 82 (v := 0) dL_hangs_81 kI_0 rfl ?_
                    refine aw_istore 84 (lv' := [(5, _), (4, _), (3, _), (2, _), (1, _), (0, _)]) dL_hangs_82 (ltb rfl) rfl rfl ?_
                    exact aw_pick [5, 4, 3, 2, 1, 0] rfl (aw_L_hangs_84 hG  h)
                  · replace h := h.2 c33
                    refine aw_iconst 71 (v := 1) dL_hangs_70 kI_1 rfl ?_
                    refine aw_goto 75 dL_hangs_71 rfl ?_
                    refine aw_istore_n 76 (lv' := [(3, _), (2, _), (1, _), (0, _)]) dL_hangs_75 rfl (ltb rfl) rfl rfl ?_
                    refine aw_iconst 77 (v := 4) dL_hangs_76 kI_4 rfl ?_
                    refine aw_newa 79 100 4 dL_hangs_77 (tk1 (i := 86) (by decide +kernel) rfl) rfl (leb rfl) (leb rfl) rfl (by decide) (by decide) (by decide) (leb rfl) (leb rfl) rfl ?_
                    refine aw_astore 81 (lv' := [(4, _), (3, _), (2, _), (1, _), (0, _)]) dL_hangs_79 (ltb rfl) rfl rfl ?_
                    refine aw_iconst 82 (v := 0) dL_hangs_81 kI_0 rfl ?_
                    refine aw_istore 84 (lv' := [(5, _), (4, _), (3, _), (2, _), (1, _), (0, _)]) dL_hangs_82 (ltb rfl) rfl rfl ?_
                    exact aw_pick [5, 4, 3, 2, 1, 0] rfl (aw_L_hangs_84 hG  h))
set_option maxRecDepth 20000 in
theorem aw_X3_init_94 {G : GG} (hG : G.1.stackTraces = false)  {l0 : Nat} {l1 : Int32} {X : XH} {K : XH → Prop}  (h : w_X3_init_94  l0 l1 X K) : AW G M_X3_init 94 [(0, .ref l0), (1, .int l1)] [] X 11 366 (KrV K) :=
  h (fun l0 l1 X => AW G M_X3_init 94 [(0, .ref l0), (1, .int l1)] [] X 11 366 (KrV K)) (fun l0 l1 X h => by
    refine aw_iload_n 95 dX3_init_94 rfl 1 rfl rfl ?_
    refine aw_aload_n 96 dX3_init_95 rfl 0 rfl rfl ?_
    obtain ⟨g1, h⟩ := h
    obtain ⟨g2, h⟩ := h
    refine aw_getR 99 dX3_init_96 fl_RX3_33 rfl g1 g2 rfl ?_
    obtain ⟨g3, h⟩ := h
    refine aw_alen 100 dX3_init_99 g3 rfl ?_
    refine aw_icmp_ge 124 103 dX3_init_100 rfl rfl (fun c4 => ?_) (fun c4 => ?_)
    · replace h := h.1 c4
      exact aw_return dX3_init_124 rfl (leb rfl) (leb rfl) ⟨rfl, h⟩
    · replace h := h.2 c4
      refine aw_aload_n 104 dX3_init_103 rfl 0 rfl rfl ?_
      refine aw_getR 107 dX3_init_104 fl_RX3_33 rfl g1 g2 rfl ?_
      refine aw_iload_n 108 dX3_init_107 rfl 1 rfl rfl ?_
      refine aw_bipush 110 (v := 60) dX3_init_108 kB_60 rfl ?_
      refine aw_bipush 112 (v := 10) dX3_init_110 kB_10 rfl ?_
      refine aw_iload_n 113 dX3_init_112 rfl 1 rfl rfl ?_
      refine aw_iconst 114 (v := 3) dX3_init_113 kI_3 rfl ?_
      refine aw_irem 115 dX3_init_114 (by decide) rfl ?_
      refine aw_imul 116 dX3_init_115 rfl ?_
      refine aw_iadd 117 dX3_init_116 rfl ?_
      obtain ⟨g5, h⟩ := h
      obtain ⟨g6, h⟩ := h
      refine aw_iastore 118 dX3_init_117 g5 g6 rfl ?_
      refine aw_iinc 121 (v := 1) (lv' := [(1, _), (0, _)]) dX3_init_118 1 rfl kI_1 (ltb rfl) rfl rfl ?_
      refine aw_goto 94 dX3_init_121 rfl ?_
      exact aw_pick [1, 0] rfl h)
set_option maxRecDepth 20000 in
theorem am_X3_init {G : GG} (hG : G.1.stackTraces = false) {l0 : Nat} {X : XH} {K : XH → Prop} (h : w_X3_init l0 X K) : AM G M_X3_init X [.ref l0] (KrV K) := AM_of (by decide +kernel) rfl (leb rfl) hG (by
  show AW G M_X3_init 0 [(0, .ref l0)] [] X 0 0 _
  unfold w_X3_init at h
  refine aw_aload_n 1 dX3_init_0 rfl 0 rfl rfl ?_
  refine aw_objinit 4 dX3_init_1 (tk1 (i := 28) (by decide +kernel) rfl) (tk1 (i := 21) (by decide +kernel) rfl) (tk1 (i := 22) (by decide +kernel) rfl) (leb rfl) (leb rfl) rfl ?_
  refine aw_aload_n 5 dX3_init_4 rfl 0 rfl rfl ?_
  refine aw_bipush 7 (v := 24) dX3_init_5 kB_24 rfl ?_
  refine aw_newa 9 100 24 dX3_init_7 (tk1 (i := 86) (by decide +kernel) rfl) rfl (leb rfl) (leb rfl) rfl (by decide) (by decide) (by decide) (leb rfl) (leb rfl) rfl ?_
  obtain ⟨g1, h⟩ := h
  refine aw_putRF 12 dX3_init_9 fl_RX3_9 rfl rfl rfl rfl g1 (Nat.succ_ne_zero _) rfl ?_
  refine aw_aload_n 13 dX3_init_12 rfl 0 rfl rfl ?_
  refine aw_bipush 15 (v := 24) dX3_init_13 kB_24 rfl ?_
  refine aw_newa 17 100 24 dX3_init_15 (tk1 (i := 86) (by decide +kernel) rfl) rfl (leb rfl) (leb rfl) rfl (by decide) (by decide) (by decide) (leb rfl) (leb rfl) rfl ?_
  obtain ⟨g2, h⟩ := h
  refine aw_putRF 20 dX3_init_17 fl_RX3_15 rfl rfl rfl rfl g2 (Nat.succ_ne_zero _) rfl ?_
  refine aw_aload_n 21 dX3_init_20 rfl 0 rfl rfl ?_
  refine aw_bipush 23 (v := 24) dX3_init_21 kB_24 rfl ?_
  refine aw_newa 25 100 24 dX3_init_23 (tk1 (i := 86) (by decide +kernel) rfl) rfl (leb rfl) (leb rfl) rfl (by decide) (by decide) (by decide) (leb rfl) (leb rfl) rfl ?_
  obtain ⟨g3, h⟩ := h
  refine aw_putRF 28 dX3_init_25 fl_RX3_18 rfl rfl rfl rfl g3 (Nat.succ_ne_zero _) rfl ?_
  refine aw_aload_n 29 dX3_init_28 rfl 0 rfl rfl ?_
  refine aw_bipush 31 (v := 24) dX3_init_29 kB_24 rfl ?_
  refine aw_newa 33 100 24 dX3_init_31 (tk1 (i := 86) (by decide +kernel) rfl) rfl (leb rfl) (leb rfl) rfl (by decide) (by decide) (by decide) (leb rfl) (leb rfl) rfl ?_
  obtain ⟨g4, h⟩ := h
  refine aw_putRF 36 dX3_init_33 fl_RX3_21 rfl rfl rfl rfl g4 (Nat.succ_ne_zero _) rfl ?_
  refine aw_aload_n 37 dX3_init_36 rfl 0 rfl rfl ?_
  refine aw_bipush 39 (v := 72) dX3_init_37 kB_72 rfl ?_
  refine aw_newa 41 100 72 dX3_init_39 (tk1 (i := 86) (by decide +kernel) rfl) rfl (leb rfl) (leb rfl) rfl (by decide) (by decide) (by decide) (leb rfl) (leb rfl) rfl ?_
  obtain ⟨g5, h⟩ := h
  refine aw_putRF 44 dX3_init_41 fl_RX3_24 rfl rfl rfl rfl g5 (Nat.succ_ne_zero _) rfl ?_
  refine aw_aload_n 45 dX3_init_44 rfl 0 rfl rfl ?_
  refine aw_bipush 47 (v := 72) dX3_init_45 kB_72 rfl ?_
  refine aw_newa 49 100 72 dX3_init_47 (tk1 (i := 86) (by decide +kernel) rfl) rfl (leb rfl) (leb rfl) rfl (by decide) (by decide) (by decide) (leb rfl) (leb rfl) rfl ?_
  obtain ⟨g6, h⟩ := h
  refine aw_putRF 52 dX3_init_49 fl_RX3_27 rfl rfl rfl rfl g6 (Nat.succ_ne_zero _) rfl ?_
  refine aw_aload_n 53 dX3_init_52 rfl 0 rfl rfl ?_
  refine aw_bipush 55 (v := 72) dX3_init_53 kB_72 rfl ?_
  refine aw_newa 57 100 72 dX3_init_55 (tk1 (i := 86) (by decide +kernel) rfl) rfl (leb rfl) (leb rfl) rfl (by decide) (by decide) (by decide) (leb rfl) (leb rfl) rfl ?_
  obtain ⟨g7, h⟩ := h
  refine aw_putRF 60 dX3_init_57 fl_RX3_30 rfl rfl rfl rfl g7 (Nat.succ_ne_zero _) rfl ?_
  refine aw_aload_n 61 dX3_init_60 rfl 0 rfl rfl ?_
  refine aw_bipush 63 (v := 15) dX3_init_61 kB_15 rfl ?_
  refine aw_newa 65 100 15 dX3_init_63 (tk1 (i := 86) (by decide +kernel) rfl) rfl (leb rfl) (leb rfl) rfl (by decide) (by decide) (by decide) (leb rfl) (leb rfl) rfl ?_
  obtain ⟨g8, h⟩ := h
  refine aw_putRF 68 dX3_init_65 fl_RX3_33 rfl rfl rfl rfl g8 (Nat.succ_ne_zero _) rfl ?_
  refine aw_aload_n 69 dX3_init_68 rfl 0 rfl rfl ?_
  refine aw_bipush 71 (v := 15) dX3_init_69 kB_15 rfl ?_
  refine aw_newa 73 100 15 dX3_init_71 (tk1 (i := 86) (by decide +kernel) rfl) rfl (leb rfl) (leb rfl) rfl (by decide) (by decide) (by decide) (leb rfl) (leb rfl) rfl ?_
  obtain ⟨g9, h⟩ := h
  refine aw_putRF 76 dX3_init_73 fl_RX3_36 rfl rfl rfl rfl g9 (Nat.succ_ne_zero _) rfl ?_
  refine aw_aload_n 77 dX3_init_76 rfl 0 rfl rfl ?_
  refine aw_bipush 79 (v := 12) dX3_init_77 kB_12 rfl ?_
  refine aw_newa 81 100 12 dX3_init_79 (tk1 (i := 86) (by decide +kernel) rfl) rfl (leb rfl) (leb rfl) rfl (by decide) (by decide) (by decide) (leb rfl) (leb rfl) rfl ?_
  obtain ⟨g10, h⟩ := h
  refine aw_putRF 84 dX3_init_81 fl_RX3_39 rfl rfl rfl rfl g10 (Nat.succ_ne_zero _) rfl ?_
  refine aw_aload_n 85 dX3_init_84 rfl 0 rfl rfl ?_
  refine aw_bipush 87 (v := 12) dX3_init_85 kB_12 rfl ?_
  refine aw_newa 89 100 12 dX3_init_87 (tk1 (i := 86) (by decide +kernel) rfl) rfl (leb rfl) (leb rfl) rfl (by decide) (by decide) (by decide) (leb rfl) (leb rfl) rfl ?_
  obtain ⟨g11, h⟩ := h
  refine aw_putRF 92 dX3_init_89 fl_RX3_42 rfl rfl rfl rfl g11 (Nat.succ_ne_zero _) rfl ?_
  refine aw_iconst 93 (v := 0) dX3_init_92 kI_0 rfl ?_
  refine aw_istore_n 94 (lv' := [(1, _), (0, _)]) dX3_init_93 rfl (ltb rfl) rfl rfl ?_
  exact aw_pick [1, 0] rfl (aw_X3_init_94 hG  h))
set_option maxRecDepth 20000 in
theorem aw_X1_init_15 {G : GG} (hG : G.1.stackTraces = false)  {l0 : Nat} {l1 : Int32} {cc : Nat} {ss : Nat} {X : XH} {K : XH → Prop}  (h : w_X1_init_15  l0 l1 cc ss X K) : AW G M_X1_init 15 [(0, .ref l0), (1, .int l1)] [] X cc ss (KrV K) :=
  h (fun l0 l1 cc ss X => AW G M_X1_init 15 [(0, .ref l0), (1, .int l1)] [] X cc ss (KrV K)) (fun l0 l1 cc ss X h => by
    refine aw_iload_n 16 dX1_init_15 rfl 1 rfl rfl ?_
    refine aw_aload_n 17 dX1_init_16 rfl 0 rfl rfl ?_
    obtain ⟨g1, h⟩ := h
    obtain ⟨g2, h⟩ := h
    refine aw_getR 20 dX1_init_17 fl_RX1_11 rfl g1 g2 rfl ?_
    obtain ⟨g3, h⟩ := h
    refine aw_alen 21 dX1_init_20 g3 rfl ?_
    refine aw_icmp_ge 43 24 dX1_init_21 rfl rfl (fun c4 => ?_) (fun c4 => ?_)
    · replace h := h.1 c4
      obtain ⟨g5, h⟩ := h
      obtain ⟨g6, h⟩ := h
      exact aw_return dX1_init_43 rfl g5 g6 ⟨rfl, h⟩
    · replace h := h.2 c4
      refine aw_aload_n 25 dX1_init_24 rfl 0 rfl rfl ?_
      refine aw_getR 28 dX1_init_25 fl_RX1_11 rfl g1 g2 rfl ?_
      refine aw_iload_n 29 dX1_init_28 rfl 1 rfl rfl ?_
      obtain ⟨g7, h⟩ := h
      obtain ⟨g8, h⟩ := h
      refine aw_new 32 9 3 dX1_init_29 (ltb rfl) (tk1 (i := 93) (by decide +kernel) rfl) (tk1 (i := 24) (by decide +kernel) rfl) (tk1 (i := 2) (by decide +kernel) rfl) g7 g8 rfl ?_
      refine aw_dup 33 dX1_init_32 rfl rfl ?_
      obtain ⟨g9, h⟩ := h
      obtain ⟨g10, h⟩ := h
      refine aw_callI (M' := M_X3_init) 36 17 (hz X + 1) [] [.ref _, .int _, .ref _] dX1_init_33 lk_RX1_17 mi_X3_init mp_X3_init rfl rfl ⟨leb rfl, leb rfl⟩ rfl (leb rfl) g9 g10 rfl (am_X3_init hG h) (kkV fun X11 h => ?_) KrV.no
      refine aw_widen (cc' := cc + 12) (ss' := ss + 382) (Nat.le_refl _) (Nat.le_refl _) ?_
      obtain ⟨g12, h⟩ := h
      obtain ⟨g13, h⟩ := h
      obtain ⟨g14, h⟩ := h
      refine aw_aastore 37 3 dX1_init_36 (ltb rfl) g12 g13 g14 rfl ?_
      refine aw_iinc 40 (v := 1) (lv' := [(1, _), (0, _)]) dX1_init_37 1 rfl kI_1 (ltb rfl) rfl rfl ?_
      refine aw_goto 15 dX1_init_40 rfl ?_
      exact aw_pick [1, 0] rfl h)
set_option maxRecDepth 20000 in
theorem am_X1_init {G : GG} (hG : G.1.stackTraces = false) {l0 : Nat} {X : XH} {K : XH → Prop} (h : w_X1_init l0 X K) : AM G M_X1_init X [.ref l0] (KrV K) := AM_of (by decide +kernel) rfl (leb rfl) hG (by
  show AW G M_X1_init 0 [(0, .ref l0)] [] X 0 0 _
  unfold w_X1_init at h
  refine aw_aload_n 1 dX1_init_0 rfl 0 rfl rfl ?_
  refine aw_objinit 4 dX1_init_1 (tk1 (i := 92) (by decide +kernel) rfl) (tk1 (i := 21) (by decide +kernel) rfl) (tk1 (i := 22) (by decide +kernel) rfl) (leb rfl) (leb rfl) rfl ?_
  refine aw_aload_n 5 dX1_init_4 rfl 0 rfl rfl ?_
  refine aw_bipush 7 (v := 6) dX1_init_5 kB_6 rfl ?_
  refine aw_newq 10 9 3 6 dX1_init_7 (tk1 (i := 93) (by decide +kernel) rfl) rfl (by decide) (by decide) (leb rfl) (leb rfl) (leb rfl) rfl ?_
  obtain ⟨g1, h⟩ := h
  refine aw_putRF 13 dX1_init_10 fl_RX1_11 rfl rfl rfl rfl g1 (Nat.succ_ne_zero _) rfl ?_
  refine aw_iconst 14 (v := 0) dX1_init_13 kI_0 rfl ?_
  refine aw_istore_n 15 (lv' := [(1, _), (0, _)]) dX1_init_14 rfl (ltb rfl) rfl rfl ?_
  exact aw_pick [1, 0] rfl (aw_X1_init_15 hG  h))
end XWK6
