/-! more questions: the plan's two ways, the voices' total, the least annex, the longest sigh, the next clause -/
section PQ
variable {X : XH} {g : Row} {n c t : Nat}
theorem pTL_b {s : Nat} (h : pTL g n s t = false) : ∀ k, k < rdM g (Int32.ofNat s) t n → rdB g (Int32.ofNat s) t n k ≤ gSA g s t := fun k hk => by
  refine Decidable.byContradiction fun hx => ?_
  have e := anyTo_in (p := fun k => !(decide (rdB g (Int32.ofNat s) t n k ≤ gSA g s t))) hk (by simp [hx])
  unfold pTL at h
  rw [h] at e
  exact absurd e (by decide)
theorem gGo_nn {s : Nat} (hn : n ≤ 24) : (0 ≤ gGo g n s t) = True := by
  refine eq_true ?_
  unfold gGo
  have h1 := rdM_le g (Int32.ofNat s) t n
  have h2 := Gr_le (b := rdB g (Int32.ofNat s) t n) (st := gST g s t) (sm := gSA g s t) (rdM g (Int32.ofNat s) t n)
  split
  · decide
  · rw [show (0 : Int32) = Int32.ofNat 0 from rfl, of_le (by decide) (by omega)]
    omega
theorem bi_5 {v : Int32} {b : Bool} : ∀ s, s < 5 → bi (decide (Int32.ofNat s = Int32.ofNat 0) && b) v + bi (decide (Int32.ofNat s = Int32.ofNat 1) && b) v + bi (decide (Int32.ofNat s = Int32.ofNat 2) && b) v + bi (decide (Int32.ofNat s = Int32.ofNat 3) && b) v + bi (decide (Int32.ofNat s = Int32.ofNat 4) && b) v = bi b v := fun s hs => by
  match s, hs with
  | 0, _ => simp only [show decide (Int32.ofNat 0 = Int32.ofNat 0) = true from rfl, show decide (Int32.ofNat 0 = Int32.ofNat 1) = false from rfl, show decide (Int32.ofNat 0 = Int32.ofNat 2) = false from rfl, show decide (Int32.ofNat 0 = Int32.ofNat 3) = false from rfl, show decide (Int32.ofNat 0 = Int32.ofNat 4) = false from rfl, decide_true, Bool.true_and, Bool.false_and, bi_f, Int32.zero_add, Int32.add_zero]
  | 1, _ => simp only [show decide (Int32.ofNat 1 = Int32.ofNat 0) = false from rfl, show decide (Int32.ofNat 1 = Int32.ofNat 1) = true from rfl, show decide (Int32.ofNat 1 = Int32.ofNat 2) = false from rfl, show decide (Int32.ofNat 1 = Int32.ofNat 3) = false from rfl, show decide (Int32.ofNat 1 = Int32.ofNat 4) = false from rfl, decide_true, Bool.true_and, Bool.false_and, bi_f, Int32.zero_add, Int32.add_zero]
  | 2, _ => simp only [show decide (Int32.ofNat 2 = Int32.ofNat 0) = false from rfl, show decide (Int32.ofNat 2 = Int32.ofNat 1) = false from rfl, show decide (Int32.ofNat 2 = Int32.ofNat 2) = true from rfl, show decide (Int32.ofNat 2 = Int32.ofNat 3) = false from rfl, show decide (Int32.ofNat 2 = Int32.ofNat 4) = false from rfl, decide_true, Bool.true_and, Bool.false_and, bi_f, Int32.zero_add, Int32.add_zero]
  | 3, _ => simp only [show decide (Int32.ofNat 3 = Int32.ofNat 0) = false from rfl, show decide (Int32.ofNat 3 = Int32.ofNat 1) = false from rfl, show decide (Int32.ofNat 3 = Int32.ofNat 2) = false from rfl, show decide (Int32.ofNat 3 = Int32.ofNat 3) = true from rfl, show decide (Int32.ofNat 3 = Int32.ofNat 4) = false from rfl, decide_true, Bool.true_and, Bool.false_and, bi_f, Int32.zero_add, Int32.add_zero]
  | 4, _ => simp only [show decide (Int32.ofNat 4 = Int32.ofNat 0) = false from rfl, show decide (Int32.ofNat 4 = Int32.ofNat 1) = false from rfl, show decide (Int32.ofNat 4 = Int32.ofNat 2) = false from rfl, show decide (Int32.ofNat 4 = Int32.ofNat 3) = false from rfl, show decide (Int32.ofNat 4 = Int32.ofNat 4) = true from rfl, decide_true, Bool.true_and, Bool.false_and, bi_f, Int32.zero_add, Int32.add_zero]
theorem ad5 (a0 a1 a2 a3 a4 x0 x1 x2 x3 x4 z : Int32) : z + (a0 + x0) + (a1 + x1) + (a2 + x2) + (a3 + x3) + (a4 + x4) = z + a0 + a1 + a2 + a3 + a4 + (x0 + x1 + x2 + x3 + x4) := by
  ac_rfl
theorem rdAll_eq : ∀ {n : Nat}, (∀ c, c < n → ∃ s, s < 5 ∧ gS g c = Int32.ofNat s) → sRdAll g n t = sReady g n t
  | 0, _ => rfl
  | n + 1, hS => by
    have ih := rdAll_eq (n := n) (fun c hc => hS c (by omega))
    obtain ⟨s, hs, e⟩ := hS n (by omega)
    have e1 : sRdAll g (n + 1) t = sRdAll g n t + (bi (decide (gS g n = Int32.ofNat 0) && pRd g n t) (gB g n t) + bi (decide (gS g n = Int32.ofNat 1) && pRd g n t) (gB g n t) + bi (decide (gS g n = Int32.ofNat 2) && pRd g n t) (gB g n t) + bi (decide (gS g n = Int32.ofNat 3) && pRd g n t) (gB g n t) + bi (decide (gS g n = Int32.ofNat 4) && pRd g n t) (gB g n t)) := ad5 _ _ _ _ _ _ _ _ _ _ _
    rw [e1, ih, e, bi_5 s hs]
    rfl
theorem sgn_x {x : Int32} (h : x = -1 ∨ 0 ≤ x) : ((x = -1) = False ∧ (0 ≤ x) = True) ∨ ((x = -1) = True ∧ (0 ≤ x) = False) := by
  rcases h with h | h
  · subst h
    exact Or.inr ⟨eq_true rfl, by decide⟩
  · refine Or.inl ⟨eq_false fun e => ?_, eq_true h⟩
    rw [e] at h
    revert h
    decide
theorem m1_x {p : Prop} [Decidable p] {v : Int32} (h : ¬ p → 0 ≤ v) : (if p then -1 else v) = -1 ∨ 0 ≤ (if p then -1 else v) := by
  by_cases hp : p
  · rw [if_pos hp]
    exact Or.inl rfl
  · rw [if_neg hp]
    exact Or.inr (h hp)
theorem mx_x {v : Int32} : 0 ≤ (if 0 < v then v else 0) := by
  by_cases hp : 0 < v
  · rw [if_pos hp]
    exact Int32.le_of_lt hp
  · rw [if_neg hp]
    decide
theorem gLA_x : gLA g c t = -1 ∨ 0 ≤ gLA g c t := by
  unfold gLA
  exact m1_x (fun _ => mx_x)
theorem gLo_x : gLo g c = -1 ∨ 0 ≤ gLo g c := by
  unfold gLo
  exact m1_x (fun h => Int32.not_lt.mp h)
theorem nx_x (hn : n ≤ 24) : encO (nxTo g t n) = -1 ∨ 0 ≤ encO (nxTo g t n) := by
  cases h : nxTo g t n with
  | none => exact Or.inl rfl
  | some j =>
    have := nxTo_lt h
    refine Or.inr ?_
    show 0 ≤ Int32.ofNat j
    rw [show (0 : Int32) = Int32.ofNat 0 from rfl, of_le (by decide) (by omega)]
    omega

theorem op_sessionsByGoing {σ : St} {n : Nat} (iS : InvS σ) (i : Inv (zG σ) n) (a b : Int32) : OpI (fun X K => w_L_sessionsByGoing 1 a b 129 X K) (fun X K => w_X5_sessionsByGoing 123 a b X K) σ := by
  have hn := i.cn
  cases h0 : inS a
  · skip
    refine ⟨1, 0, σ, iS, fun X m o K w k => ?_, fun X d o K w k => ?_⟩
    · have q := w.1
      have h : TR X 2 (zG σ) := w.2.1.1
      simp only [w_L_sessionsByGoing, w_X4_sessionsByGoing, w_X4_checkPlan, q.t1, q.r1_0, q.r1_5, q.t2, q.t120, e_checkVoice, h0, hty_sI, hln_sI, hR_sI, cnd1, cnd2, b2i_0, b2i_1, b2i_z, if_true, if_false, true_and, and_true, true_implies, false_implies, ne_eq, not_false_eq_true, not_true_eq_false, eq_self, exIA, exIS, exAI, exAS, exSI, exSA, true_or, or_true, false_or, or_false, Nat.reduceEqDiff, Bool.true_and, Bool.and_true, Bool.false_and, Bool.and_false, Bool.true_eq_false, Bool.false_eq_true, i10, i20, i30, vp0, nc0]
      exact k _ _ w (fun e => absurd e (by decide))
    · have q := w.1
      have h := w.rr
      have q1 : Shp (sI X 123 7 0) := q
      have hh : RR (sI X 123 7 0) (zG σ) := h.thr
      simp only [w_X5_sessionsByGoing, w_X5_inSessions, w_X5_inSessions_27, q.t123, q.r123_0, q.t124, q.n124, x_isVoice, qS, qT, h0, rf0 q, rf1 q, rf2 q, rf3 q, hty_sI, hln_sI, hR_sI, cnd1, cnd2, b2i_0, b2i_1, b2i_z, if_true, if_false, true_and, and_true, true_implies, false_implies, ne_eq, not_false_eq_true, not_true_eq_false, eq_self, exIA, exIS, exAI, exAS, exSI, exSA, true_or, or_true, false_or, or_false, Nat.reduceEqDiff, Bool.true_and, Bool.and_true, Bool.false_and, Bool.and_false, Bool.true_eq_false, Bool.false_eq_true, i10, i20, i30, vp0, nc0]
      exact k _ _ w.thr (fun e => absurd e (by decide))
  · skip
    cases h1 : inT b
    · skip
      refine ⟨1, 0, σ, iS, fun X m o K w k => ?_, fun X d o K w k => ?_⟩
      · have q := w.1
        have h : TR X 2 (zG σ) := w.2.1.1
        simp only [w_L_sessionsByGoing, w_X4_sessionsByGoing, w_X4_checkPlan, q.t1, q.r1_0, q.r1_5, q.t2, q.t120, e_checkVoice, h0, h1, hty_sI, hln_sI, hR_sI, cnd1, cnd2, b2i_0, b2i_1, b2i_z, if_true, if_false, true_and, and_true, true_implies, false_implies, ne_eq, not_false_eq_true, not_true_eq_false, eq_self, exIA, exIS, exAI, exAS, exSI, exSA, true_or, or_true, false_or, or_false, Nat.reduceEqDiff, Bool.true_and, Bool.and_true, Bool.false_and, Bool.and_false, Bool.true_eq_false, Bool.false_eq_true, i10, i20, i30, vp0, nc0]
        exact k _ _ w (fun e => absurd e (by decide))
      · have q := w.1
        have h := w.rr
        have q1 : Shp (sI X 123 7 0) := q
        have hh : RR (sI X 123 7 0) (zG σ) := h.thr
        simp only [w_X5_sessionsByGoing, w_X5_inSessions, w_X5_inSessions_27, q.t123, q.r123_0, q.t124, q.n124, x_isVoice, qS, qT, h0, h1, rf0 q, rf1 q, rf2 q, rf3 q, hty_sI, hln_sI, hR_sI, cnd1, cnd2, b2i_0, b2i_1, b2i_z, if_true, if_false, true_and, and_true, true_implies, false_implies, ne_eq, not_false_eq_true, not_true_eq_false, eq_self, exIA, exIS, exAI, exAS, exSI, exSA, true_or, or_true, false_or, or_false, Nat.reduceEqDiff, Bool.true_and, Bool.and_true, Bool.false_and, Bool.and_false, Bool.true_eq_false, Bool.false_eq_true, i10, i20, i30, vp0, nc0]
        exact k _ _ w.thr (fun e => absurd e (by decide))
    · skip
      obtain ⟨s, hs, rfl⟩ := inS_ex h0
      obtain ⟨t, ht, rfl⟩ := inT_ex h1
      obtain ⟨v1, v2, v3, v4, v5⟩ := i.V hs ht
      have hm : rdM (zG σ) (Int32.ofNat s) t n ≤ 24 := Nat.le_trans (rdM_le _ _ _ _) hn.2
      have hb := rdB_le (a := Int32.ofNat s) i ht n (Nat.le_refl n)
      cases hp : pTL (zG σ) n s t
      · skip
        have hT : anyTo (fun k => !(decide (rdB (zG σ) (Int32.ofNat s) t n k ≤ gSA (zG σ) s t))) (rdM (zG σ) (Int32.ofNat s) t n) = false := hp
        have nn := gGo_nn (g := zG σ) (t := t) (s := s) hn.2
        refine ⟨0, gGo (zG σ) n s t, σ, iS, fun X m o K w k => ?_, fun X d o K w k => ?_⟩
        · have q := w.1
          have h : TR X 2 (zG σ) := w.2.1.1
          simp only [w_L_sessionsByGoing, w_X4_sessionsByGoing, w_X4_checkPlan, q.t1, q.r1_0, q.r1_5, q.t2, q.t120, e_checkVoice, h0, h1, hty_sI, hln_sI, hR_sI, cnd1, cnd2, b2i_0, b2i_1, b2i_z, if_true, if_false, true_and, and_true, true_implies, false_implies, ne_eq, not_false_eq_true, not_true_eq_false, eq_self, exIA, exIS, exAI, exAS, exSI, exSA, true_or, or_true, false_or, or_false, Nat.reduceEqDiff, Bool.true_and, Bool.and_true, Bool.false_and, Bool.and_false, Bool.true_eq_false, Bool.false_eq_true, i10, i20, i30, vp0, nc0]
          refine s_fillPlan q h i hs ht (fun X1 a p => ?_)
          have q2 := a.shp q
          simp only [q2.t1, q2.r1_5, q2.t120, hty_sI, hln_sI, hR_sI, cnd1, cnd2, b2i_0, b2i_1, b2i_z, if_true, if_false, true_and, and_true, true_implies, false_implies, ne_eq, not_false_eq_true, not_true_eq_false, eq_self, exIA, exIS, exAI, exAS, exSI, exSA, true_or, or_true, false_or, or_false, Nat.reduceEqDiff, Bool.true_and, Bool.and_true, Bool.false_and, Bool.and_false, Bool.true_eq_false, Bool.false_eq_true, i10, i20, i30, vp0, nc0]
          refine s_hasTooLong q2 p hm hb v3 ?_
          simp only [hT, q2.t1, q2.r1_5, q2.t120, hty_sI, hln_sI, hR_sI, cnd1, cnd2, b2i_0, b2i_1, b2i_z, if_true, if_false, true_and, and_true, true_implies, false_implies, ne_eq, not_false_eq_true, not_true_eq_false, eq_self, exIA, exIS, exAI, exAS, exSI, exSA, true_or, or_true, false_or, or_false, Nat.reduceEqDiff, Bool.true_and, Bool.and_true, Bool.false_and, Bool.and_false, Bool.true_eq_false, Bool.false_eq_true, i10, i20, i30, vp0, nc0]
          refine s_goThrough q2 p hm (pTL_b hp) v3 v4 ?_
          exact ⟨q2.t129, vpX q2, k _ _ (w.pl (a.fr q)).out (fun _ => rfl)⟩
        · have q := w.1
          have h := w.rr
          have q1 : Shp (sI X 123 7 0) := q
          have hh : RR (sI X 123 7 0) (zG σ) := h.thr
          simp only [w_X5_sessionsByGoing, w_X5_inSessions, w_X5_inSessions_27, q.t123, q.r123_0, q.t124, q.n124, x_isVoice, qS, qT, h0, h1, rf0 q, rf1 q, rf2 q, rf3 q, hty_sI, hln_sI, hR_sI, cnd1, cnd2, b2i_0, b2i_1, b2i_z, if_true, if_false, true_and, and_true, true_implies, false_implies, ne_eq, not_false_eq_true, not_true_eq_false, eq_self, exIA, exIS, exAI, exAS, exSI, exSA, true_or, or_true, false_or, or_false, Nat.reduceEqDiff, Bool.true_and, Bool.and_true, Bool.false_and, Bool.and_false, Bool.true_eq_false, Bool.false_eq_true, i10, i20, i30, vp0, nc0]
          refine s_sessions q h i hs ht ?_
          simp only [hp, nn, q.t123, rf0 q, rf2 q, hty_sI, hln_sI, hR_sI, cnd1, cnd2, b2i_0, b2i_1, b2i_z, if_true, if_false, true_and, and_true, true_implies, false_implies, ne_eq, not_false_eq_true, not_true_eq_false, eq_self, exIA, exIS, exAI, exAS, exSI, exSA, true_or, or_true, false_or, or_false, Nat.reduceEqDiff, Bool.true_and, Bool.and_true, Bool.false_and, Bool.and_false, Bool.true_eq_false, Bool.false_eq_true, i10, i20, i30, vp0, nc0]
          refine s_sessions q1 hh i hs ht ?_
          rw [hp]
          exact k _ _ w.thr (fun _ => rfl)
      · skip
        have hT : anyTo (fun k => !(decide (rdB (zG σ) (Int32.ofNat s) t n k ≤ gSA (zG σ) s t))) (rdM (zG σ) (Int32.ofNat s) t n) = true := hp
        refine ⟨2, 0, σ, iS, fun X m o K w k => ?_, fun X d o K w k => ?_⟩
        · have q := w.1
          have h : TR X 2 (zG σ) := w.2.1.1
          simp only [w_L_sessionsByGoing, w_X4_sessionsByGoing, w_X4_checkPlan, q.t1, q.r1_0, q.r1_5, q.t2, q.t120, e_checkVoice, h0, h1, hty_sI, hln_sI, hR_sI, cnd1, cnd2, b2i_0, b2i_1, b2i_z, if_true, if_false, true_and, and_true, true_implies, false_implies, ne_eq, not_false_eq_true, not_true_eq_false, eq_self, exIA, exIS, exAI, exAS, exSI, exSA, true_or, or_true, false_or, or_false, Nat.reduceEqDiff, Bool.true_and, Bool.and_true, Bool.false_and, Bool.and_false, Bool.true_eq_false, Bool.false_eq_true, i10, i20, i30, vp0, nc0]
          refine s_fillPlan q h i hs ht (fun X1 a p => ?_)
          have q2 := a.shp q
          simp only [q2.t1, q2.r1_5, q2.t120, hty_sI, hln_sI, hR_sI, cnd1, cnd2, b2i_0, b2i_1, b2i_z, if_true, if_false, true_and, and_true, true_implies, false_implies, ne_eq, not_false_eq_true, not_true_eq_false, eq_self, exIA, exIS, exAI, exAS, exSI, exSA, true_or, or_true, false_or, or_false, Nat.reduceEqDiff, Bool.true_and, Bool.and_true, Bool.false_and, Bool.and_false, Bool.true_eq_false, Bool.false_eq_true, i10, i20, i30, vp0, nc0]
          refine s_hasTooLong q2 p hm hb v3 ?_
          simp only [hT, q2.t1, q2.r1_5, q2.t120, hty_sI, hln_sI, hR_sI, cnd1, cnd2, b2i_0, b2i_1, b2i_z, if_true, if_false, true_and, and_true, true_implies, false_implies, ne_eq, not_false_eq_true, not_true_eq_false, eq_self, exIA, exIS, exAI, exAS, exSI, exSA, true_or, or_true, false_or, or_false, Nat.reduceEqDiff, Bool.true_and, Bool.and_true, Bool.false_and, Bool.and_false, Bool.true_eq_false, Bool.false_eq_true, i10, i20, i30, vp0, nc0]
          exact k _ _ (w.pl (a.fr q)) (fun e => absurd e (by decide))
        · have q := w.1
          have h := w.rr
          have q1 : Shp (sI X 123 7 0) := q
          have hh : RR (sI X 123 7 0) (zG σ) := h.thr
          simp only [w_X5_sessionsByGoing, w_X5_inSessions, w_X5_inSessions_27, q.t123, q.r123_0, q.t124, q.n124, x_isVoice, qS, qT, h0, h1, rf0 q, rf1 q, rf2 q, rf3 q, hty_sI, hln_sI, hR_sI, cnd1, cnd2, b2i_0, b2i_1, b2i_z, if_true, if_false, true_and, and_true, true_implies, false_implies, ne_eq, not_false_eq_true, not_true_eq_false, eq_self, exIA, exIS, exAI, exAS, exSI, exSA, true_or, or_true, false_or, or_false, Nat.reduceEqDiff, Bool.true_and, Bool.and_true, Bool.false_and, Bool.and_false, Bool.true_eq_false, Bool.false_eq_true, i10, i20, i30, vp0, nc0]
          refine s_sessions q h i hs ht ?_
          simp only [hp, show ((0 : Int32) ≤ -1) = False from by decide, q.t123, rf0 q, rf2 q, hty_sI, hln_sI, hR_sI, cnd1, cnd2, b2i_0, b2i_1, b2i_z, if_true, if_false, true_and, and_true, true_implies, false_implies, ne_eq, not_false_eq_true, not_true_eq_false, eq_self, exIA, exIS, exAI, exAS, exSI, exSA, true_or, or_true, false_or, or_false, Nat.reduceEqDiff, Bool.true_and, Bool.and_true, Bool.false_and, Bool.and_false, Bool.true_eq_false, Bool.false_eq_true, i10, i20, i30, vp0, nc0]
          exact k _ _ w.thr (fun e => absurd e (by decide))
theorem op_sessionsByTable {σ : St} {n : Nat} (iS : InvS σ) (i : Inv (zG σ) n) (a b : Int32) : OpI (fun X K => w_L_sessionsByTable 1 a b 129 X K) (fun X K => w_X5_sessionsByTable 123 a b X K) σ := by
  have hn := i.cn
  cases h0 : inS a
  · skip
    refine ⟨1, 0, σ, iS, fun X m o K w k => ?_, fun X d o K w k => ?_⟩
    · have q := w.1
      have h : TR X 2 (zG σ) := w.2.1.1
      simp only [w_L_sessionsByTable, w_X4_sessionsByTable, w_X4_checkPlan, q.t1, q.r1_0, q.r1_5, q.t2, q.t120, e_checkVoice, h0, hty_sI, hln_sI, hR_sI, cnd1, cnd2, b2i_0, b2i_1, b2i_z, if_true, if_false, true_and, and_true, true_implies, false_implies, ne_eq, not_false_eq_true, not_true_eq_false, eq_self, exIA, exIS, exAI, exAS, exSI, exSA, true_or, or_true, false_or, or_false, Nat.reduceEqDiff, Bool.true_and, Bool.and_true, Bool.false_and, Bool.and_false, Bool.true_eq_false, Bool.false_eq_true, i10, i20, i30, vp0, nc0]
      exact k _ _ w (fun e => absurd e (by decide))
    · have q := w.1
      have h := w.rr
      have q1 : Shp (sI X 123 7 0) := q
      have hh : RR (sI X 123 7 0) (zG σ) := h.thr
      simp only [w_X5_sessionsByTable, w_X5_inSessions, w_X5_inSessions_27, q.t123, q.r123_0, q.t124, q.n124, x_isVoice, qS, qT, h0, rf0 q, rf1 q, rf2 q, rf3 q, hty_sI, hln_sI, hR_sI, cnd1, cnd2, b2i_0, b2i_1, b2i_z, if_true, if_false, true_and, and_true, true_implies, false_implies, ne_eq, not_false_eq_true, not_true_eq_false, eq_self, exIA, exIS, exAI, exAS, exSI, exSA, true_or, or_true, false_or, or_false, Nat.reduceEqDiff, Bool.true_and, Bool.and_true, Bool.false_and, Bool.and_false, Bool.true_eq_false, Bool.false_eq_true, i10, i20, i30, vp0, nc0]
      exact k _ _ w.thr (fun e => absurd e (by decide))
  · skip
    cases h1 : inT b
    · skip
      refine ⟨1, 0, σ, iS, fun X m o K w k => ?_, fun X d o K w k => ?_⟩
      · have q := w.1
        have h : TR X 2 (zG σ) := w.2.1.1
        simp only [w_L_sessionsByTable, w_X4_sessionsByTable, w_X4_checkPlan, q.t1, q.r1_0, q.r1_5, q.t2, q.t120, e_checkVoice, h0, h1, hty_sI, hln_sI, hR_sI, cnd1, cnd2, b2i_0, b2i_1, b2i_z, if_true, if_false, true_and, and_true, true_implies, false_implies, ne_eq, not_false_eq_true, not_true_eq_false, eq_self, exIA, exIS, exAI, exAS, exSI, exSA, true_or, or_true, false_or, or_false, Nat.reduceEqDiff, Bool.true_and, Bool.and_true, Bool.false_and, Bool.and_false, Bool.true_eq_false, Bool.false_eq_true, i10, i20, i30, vp0, nc0]
        exact k _ _ w (fun e => absurd e (by decide))
      · have q := w.1
        have h := w.rr
        have q1 : Shp (sI X 123 7 0) := q
        have hh : RR (sI X 123 7 0) (zG σ) := h.thr
        simp only [w_X5_sessionsByTable, w_X5_inSessions, w_X5_inSessions_27, q.t123, q.r123_0, q.t124, q.n124, x_isVoice, qS, qT, h0, h1, rf0 q, rf1 q, rf2 q, rf3 q, hty_sI, hln_sI, hR_sI, cnd1, cnd2, b2i_0, b2i_1, b2i_z, if_true, if_false, true_and, and_true, true_implies, false_implies, ne_eq, not_false_eq_true, not_true_eq_false, eq_self, exIA, exIS, exAI, exAS, exSI, exSA, true_or, or_true, false_or, or_false, Nat.reduceEqDiff, Bool.true_and, Bool.and_true, Bool.false_and, Bool.and_false, Bool.true_eq_false, Bool.false_eq_true, i10, i20, i30, vp0, nc0]
        exact k _ _ w.thr (fun e => absurd e (by decide))
    · skip
      obtain ⟨s, hs, rfl⟩ := inS_ex h0
      obtain ⟨t, ht, rfl⟩ := inT_ex h1
      obtain ⟨v1, v2, v3, v4, v5⟩ := i.V hs ht
      have hm : rdM (zG σ) (Int32.ofNat s) t n ≤ 24 := Nat.le_trans (rdM_le _ _ _ _) hn.2
      have hb := rdB_le (a := Int32.ofNat s) i ht n (Nat.le_refl n)
      cases hp : pTL (zG σ) n s t
      · skip
        have hT : anyTo (fun k => !(decide (rdB (zG σ) (Int32.ofNat s) t n k ≤ gSA (zG σ) s t))) (rdM (zG σ) (Int32.ofNat s) t n) = false := hp
        have nn := gGo_nn (g := zG σ) (t := t) (s := s) hn.2
        refine ⟨0, gGo (zG σ) n s t, σ, iS, fun X m o K w k => ?_, fun X d o K w k => ?_⟩
        · have q := w.1
          have h : TR X 2 (zG σ) := w.2.1.1
          simp only [w_L_sessionsByTable, w_X4_sessionsByTable, w_X4_checkPlan, q.t1, q.r1_0, q.r1_5, q.t2, q.t120, e_checkVoice, h0, h1, hty_sI, hln_sI, hR_sI, cnd1, cnd2, b2i_0, b2i_1, b2i_z, if_true, if_false, true_and, and_true, true_implies, false_implies, ne_eq, not_false_eq_true, not_true_eq_false, eq_self, exIA, exIS, exAI, exAS, exSI, exSA, true_or, or_true, false_or, or_false, Nat.reduceEqDiff, Bool.true_and, Bool.and_true, Bool.false_and, Bool.and_false, Bool.true_eq_false, Bool.false_eq_true, i10, i20, i30, vp0, nc0]
          refine s_fillPlan q h i hs ht (fun X1 a p => ?_)
          have q2 := a.shp q
          simp only [q2.t1, q2.r1_5, q2.t120, hty_sI, hln_sI, hR_sI, cnd1, cnd2, b2i_0, b2i_1, b2i_z, if_true, if_false, true_and, and_true, true_implies, false_implies, ne_eq, not_false_eq_true, not_true_eq_false, eq_self, exIA, exIS, exAI, exAS, exSI, exSA, true_or, or_true, false_or, or_false, Nat.reduceEqDiff, Bool.true_and, Bool.and_true, Bool.false_and, Bool.and_false, Bool.true_eq_false, Bool.false_eq_true, i10, i20, i30, vp0, nc0]
          refine s_hasTooLong q2 p hm hb v3 ?_
          simp only [hT, q2.t1, q2.r1_5, q2.t120, hty_sI, hln_sI, hR_sI, cnd1, cnd2, b2i_0, b2i_1, b2i_z, if_true, if_false, true_and, and_true, true_implies, false_implies, ne_eq, not_false_eq_true, not_true_eq_false, eq_self, exIA, exIS, exAI, exAS, exSI, exSA, true_or, or_true, false_or, or_false, Nat.reduceEqDiff, Bool.true_and, Bool.and_true, Bool.false_and, Bool.and_false, Bool.true_eq_false, Bool.false_eq_true, i10, i20, i30, vp0, nc0]
          refine s_fillTable q2 p hm (pTL_b hp) v3 v4 (fun X2 a2 => ?_)
          have q3 := a2.shp q2
          exact ⟨q3.t129, vpX q3, k _ _ ((w.pl (a.fr q)).pl (a2.fr q2)).out (fun _ => rfl)⟩
        · have q := w.1
          have h := w.rr
          have q1 : Shp (sI X 123 7 0) := q
          have hh : RR (sI X 123 7 0) (zG σ) := h.thr
          simp only [w_X5_sessionsByTable, w_X5_inSessions, w_X5_inSessions_27, q.t123, q.r123_0, q.t124, q.n124, x_isVoice, qS, qT, h0, h1, rf0 q, rf1 q, rf2 q, rf3 q, hty_sI, hln_sI, hR_sI, cnd1, cnd2, b2i_0, b2i_1, b2i_z, if_true, if_false, true_and, and_true, true_implies, false_implies, ne_eq, not_false_eq_true, not_true_eq_false, eq_self, exIA, exIS, exAI, exAS, exSI, exSA, true_or, or_true, false_or, or_false, Nat.reduceEqDiff, Bool.true_and, Bool.and_true, Bool.false_and, Bool.and_false, Bool.true_eq_false, Bool.false_eq_true, i10, i20, i30, vp0, nc0]
          refine s_sessions q h i hs ht ?_
          simp only [hp, nn, q.t123, rf0 q, rf2 q, hty_sI, hln_sI, hR_sI, cnd1, cnd2, b2i_0, b2i_1, b2i_z, if_true, if_false, true_and, and_true, true_implies, false_implies, ne_eq, not_false_eq_true, not_true_eq_false, eq_self, exIA, exIS, exAI, exAS, exSI, exSA, true_or, or_true, false_or, or_false, Nat.reduceEqDiff, Bool.true_and, Bool.and_true, Bool.false_and, Bool.and_false, Bool.true_eq_false, Bool.false_eq_true, i10, i20, i30, vp0, nc0]
          refine s_sessions q1 hh i hs ht ?_
          rw [hp]
          exact k _ _ w.thr (fun _ => rfl)
      · skip
        have hT : anyTo (fun k => !(decide (rdB (zG σ) (Int32.ofNat s) t n k ≤ gSA (zG σ) s t))) (rdM (zG σ) (Int32.ofNat s) t n) = true := hp
        refine ⟨2, 0, σ, iS, fun X m o K w k => ?_, fun X d o K w k => ?_⟩
        · have q := w.1
          have h : TR X 2 (zG σ) := w.2.1.1
          simp only [w_L_sessionsByTable, w_X4_sessionsByTable, w_X4_checkPlan, q.t1, q.r1_0, q.r1_5, q.t2, q.t120, e_checkVoice, h0, h1, hty_sI, hln_sI, hR_sI, cnd1, cnd2, b2i_0, b2i_1, b2i_z, if_true, if_false, true_and, and_true, true_implies, false_implies, ne_eq, not_false_eq_true, not_true_eq_false, eq_self, exIA, exIS, exAI, exAS, exSI, exSA, true_or, or_true, false_or, or_false, Nat.reduceEqDiff, Bool.true_and, Bool.and_true, Bool.false_and, Bool.and_false, Bool.true_eq_false, Bool.false_eq_true, i10, i20, i30, vp0, nc0]
          refine s_fillPlan q h i hs ht (fun X1 a p => ?_)
          have q2 := a.shp q
          simp only [q2.t1, q2.r1_5, q2.t120, hty_sI, hln_sI, hR_sI, cnd1, cnd2, b2i_0, b2i_1, b2i_z, if_true, if_false, true_and, and_true, true_implies, false_implies, ne_eq, not_false_eq_true, not_true_eq_false, eq_self, exIA, exIS, exAI, exAS, exSI, exSA, true_or, or_true, false_or, or_false, Nat.reduceEqDiff, Bool.true_and, Bool.and_true, Bool.false_and, Bool.and_false, Bool.true_eq_false, Bool.false_eq_true, i10, i20, i30, vp0, nc0]
          refine s_hasTooLong q2 p hm hb v3 ?_
          simp only [hT, q2.t1, q2.r1_5, q2.t120, hty_sI, hln_sI, hR_sI, cnd1, cnd2, b2i_0, b2i_1, b2i_z, if_true, if_false, true_and, and_true, true_implies, false_implies, ne_eq, not_false_eq_true, not_true_eq_false, eq_self, exIA, exIS, exAI, exAS, exSI, exSA, true_or, or_true, false_or, or_false, Nat.reduceEqDiff, Bool.true_and, Bool.and_true, Bool.false_and, Bool.and_false, Bool.true_eq_false, Bool.false_eq_true, i10, i20, i30, vp0, nc0]
          exact k _ _ (w.pl (a.fr q)) (fun e => absurd e (by decide))
        · have q := w.1
          have h := w.rr
          have q1 : Shp (sI X 123 7 0) := q
          have hh : RR (sI X 123 7 0) (zG σ) := h.thr
          simp only [w_X5_sessionsByTable, w_X5_inSessions, w_X5_inSessions_27, q.t123, q.r123_0, q.t124, q.n124, x_isVoice, qS, qT, h0, h1, rf0 q, rf1 q, rf2 q, rf3 q, hty_sI, hln_sI, hR_sI, cnd1, cnd2, b2i_0, b2i_1, b2i_z, if_true, if_false, true_and, and_true, true_implies, false_implies, ne_eq, not_false_eq_true, not_true_eq_false, eq_self, exIA, exIS, exAI, exAS, exSI, exSA, true_or, or_true, false_or, or_false, Nat.reduceEqDiff, Bool.true_and, Bool.and_true, Bool.false_and, Bool.and_false, Bool.true_eq_false, Bool.false_eq_true, i10, i20, i30, vp0, nc0]
          refine s_sessions q h i hs ht ?_
          simp only [hp, show ((0 : Int32) ≤ -1) = False from by decide, q.t123, rf0 q, rf2 q, hty_sI, hln_sI, hR_sI, cnd1, cnd2, b2i_0, b2i_1, b2i_z, if_true, if_false, true_and, and_true, true_implies, false_implies, ne_eq, not_false_eq_true, not_true_eq_false, eq_self, exIA, exIS, exAI, exAS, exSI, exSA, true_or, or_true, false_or, or_false, Nat.reduceEqDiff, Bool.true_and, Bool.and_true, Bool.false_and, Bool.and_false, Bool.true_eq_false, Bool.false_eq_true, i10, i20, i30, vp0, nc0]
          exact k _ _ w.thr (fun e => absurd e (by decide))
theorem op_longestSigh {σ : St} {n : Nat} (iS : InvS σ) (i : Inv (zG σ) n) (a : Int32) : OpI (fun X K => w_L_longestSigh 1 a 129 X K) (fun X K => w_X5_longestSigh 123 a X K) σ := by
  have hn := i.cn
  cases h0 : inC (zG σ 366) a
  · skip
    refine ⟨1, 0, σ, iS, fun X m o K w k => ?_, fun X d o K w k => ?_⟩
    · have q := w.1
      have h : TR X 2 (zG σ) := w.2.1.1
      simp only [w_L_longestSigh, w_X4_longestSigh, w_X4_checkPlan, q.t1, q.r1_0, q.r1_5, q.t2, q.t120, e_checkClause q h, h0, hty_sI, hln_sI, hR_sI, cnd1, cnd2, b2i_0, b2i_1, b2i_z, if_true, if_false, true_and, and_true, true_implies, false_implies, ne_eq, not_false_eq_true, not_true_eq_false, eq_self, exIA, exIS, exAI, exAS, exSI, exSA, true_or, or_true, false_or, or_false, Nat.reduceEqDiff, Bool.true_and, Bool.and_true, Bool.false_and, Bool.and_false, Bool.true_eq_false, Bool.false_eq_true, i10, i20, i30, vp0, nc0]
      exact k _ _ w (fun e => absurd e (by decide))
    · have q := w.1
      have h := w.rr
      have q1 : Shp (sI X 123 7 0) := q
      have hh : RR (sI X 123 7 0) (zG σ) := h.thr
      simp only [w_X5_longestSigh, w_X5_longestSigh_26, q.t123, q.r123_0, q.t124, q.n124, x_isClause q h, qC hn, h0, rf0 q, rf1 q, rf2 q, rf3 q, hty_sI, hln_sI, hR_sI, cnd1, cnd2, b2i_0, b2i_1, b2i_z, if_true, if_false, true_and, and_true, true_implies, false_implies, ne_eq, not_false_eq_true, not_true_eq_false, eq_self, exIA, exIS, exAI, exAS, exSI, exSA, true_or, or_true, false_or, or_false, Nat.reduceEqDiff, Bool.true_and, Bool.and_true, Bool.false_and, Bool.and_false, Bool.true_eq_false, Bool.false_eq_true, i10, i20, i30, vp0, nc0]
      exact k _ _ w.thr (fun e => absurd e (by decide))
  · skip
    obtain ⟨c, hc, rfl⟩ := inC_ex hn h0
    have hcn := hc
    replace hc : c < 24 := Nat.lt_of_lt_of_le hc hn.2
    rcases sgn_x (gLo_x (g := zG σ) (c := c)) with ⟨s1, s2⟩ | ⟨s1, s2⟩
    · skip
      refine ⟨0, gLo (zG σ) c, σ, iS, fun X m o K w k => ?_, fun X d o K w k => ?_⟩
      · have q := w.1
        have h : TR X 2 (zG σ) := w.2.1.1
        simp only [w_L_longestSigh, w_X4_longestSigh, w_X4_checkPlan, q.t1, q.r1_0, q.r1_5, q.t2, q.t120, e_checkClause q h, h0, hty_sI, hln_sI, hR_sI, cnd1, cnd2, b2i_0, b2i_1, b2i_z, if_true, if_false, true_and, and_true, true_implies, false_implies, ne_eq, not_false_eq_true, not_true_eq_false, eq_self, exIA, exIS, exAI, exAS, exSI, exSA, true_or, or_true, false_or, or_false, Nat.reduceEqDiff, Bool.true_and, Bool.and_true, Bool.false_and, Bool.and_false, Bool.true_eq_false, Bool.false_eq_true, i10, i20, i30, vp0, nc0]
        refine s_longestSighAt q h hc ?_
        simp only [s1, q.t1, q.r1_0, q.t2, q.t129, q.n129, hty_sI, hln_sI, hR_sI, cnd1, cnd2, b2i_0, b2i_1, b2i_z, if_true, if_false, true_and, and_true, true_implies, false_implies, ne_eq, not_false_eq_true, not_true_eq_false, eq_self, exIA, exIS, exAI, exAS, exSI, exSA, true_or, or_true, false_or, or_false, Nat.reduceEqDiff, Bool.true_and, Bool.and_true, Bool.false_and, Bool.and_false, Bool.true_eq_false, Bool.false_eq_true, i10, i20, i30, vp0, nc0]
        exact k _ _ w.out (fun _ => rfl)
      · have q := w.1
        have h := w.rr
        have q1 : Shp (sI X 123 7 0) := q
        have hh : RR (sI X 123 7 0) (zG σ) := h.thr
        simp only [w_X5_longestSigh, w_X5_longestSigh_26, q.t123, q.r123_0, q.t124, q.n124, x_isClause q h, qC hn, h0, rf0 q, rf1 q, rf2 q, rf3 q, hty_sI, hln_sI, hR_sI, cnd1, cnd2, b2i_0, b2i_1, b2i_z, if_true, if_false, true_and, and_true, true_implies, false_implies, ne_eq, not_false_eq_true, not_true_eq_false, eq_self, exIA, exIS, exAI, exAS, exSI, exSA, true_or, or_true, false_or, or_false, Nat.reduceEqDiff, Bool.true_and, Bool.and_true, Bool.false_and, Bool.and_false, Bool.true_eq_false, Bool.false_eq_true, i10, i20, i30, vp0, nc0]
        refine s_longest q h hc ?_
        simp only [s2, q.t123, rf0 q, rf2 q, hty_sI, hln_sI, hR_sI, cnd1, cnd2, b2i_0, b2i_1, b2i_z, if_true, if_false, true_and, and_true, true_implies, false_implies, ne_eq, not_false_eq_true, not_true_eq_false, eq_self, exIA, exIS, exAI, exAS, exSI, exSA, true_or, or_true, false_or, or_false, Nat.reduceEqDiff, Bool.true_and, Bool.and_true, Bool.false_and, Bool.and_false, Bool.true_eq_false, Bool.false_eq_true, i10, i20, i30, vp0, nc0]
        refine s_longest q1 hh hc ?_
        exact k _ _ w.thr (fun _ => rfl)
    · skip
      refine ⟨2, 0, σ, iS, fun X m o K w k => ?_, fun X d o K w k => ?_⟩
      · have q := w.1
        have h : TR X 2 (zG σ) := w.2.1.1
        simp only [w_L_longestSigh, w_X4_longestSigh, w_X4_checkPlan, q.t1, q.r1_0, q.r1_5, q.t2, q.t120, e_checkClause q h, h0, hty_sI, hln_sI, hR_sI, cnd1, cnd2, b2i_0, b2i_1, b2i_z, if_true, if_false, true_and, and_true, true_implies, false_implies, ne_eq, not_false_eq_true, not_true_eq_false, eq_self, exIA, exIS, exAI, exAS, exSI, exSA, true_or, or_true, false_or, or_false, Nat.reduceEqDiff, Bool.true_and, Bool.and_true, Bool.false_and, Bool.and_false, Bool.true_eq_false, Bool.false_eq_true, i10, i20, i30, vp0, nc0]
        refine s_longestSighAt q h hc ?_
        simp only [s1, q.t1, q.r1_0, q.t2, q.t129, q.n129, hty_sI, hln_sI, hR_sI, cnd1, cnd2, b2i_0, b2i_1, b2i_z, if_true, if_false, true_and, and_true, true_implies, false_implies, ne_eq, not_false_eq_true, not_true_eq_false, eq_self, exIA, exIS, exAI, exAS, exSI, exSA, true_or, or_true, false_or, or_false, Nat.reduceEqDiff, Bool.true_and, Bool.and_true, Bool.false_and, Bool.and_false, Bool.true_eq_false, Bool.false_eq_true, i10, i20, i30, vp0, nc0]
        exact k _ _ w (fun e => absurd e (by decide))
      · have q := w.1
        have h := w.rr
        have q1 : Shp (sI X 123 7 0) := q
        have hh : RR (sI X 123 7 0) (zG σ) := h.thr
        simp only [w_X5_longestSigh, w_X5_longestSigh_26, q.t123, q.r123_0, q.t124, q.n124, x_isClause q h, qC hn, h0, rf0 q, rf1 q, rf2 q, rf3 q, hty_sI, hln_sI, hR_sI, cnd1, cnd2, b2i_0, b2i_1, b2i_z, if_true, if_false, true_and, and_true, true_implies, false_implies, ne_eq, not_false_eq_true, not_true_eq_false, eq_self, exIA, exIS, exAI, exAS, exSI, exSA, true_or, or_true, false_or, or_false, Nat.reduceEqDiff, Bool.true_and, Bool.and_true, Bool.false_and, Bool.and_false, Bool.true_eq_false, Bool.false_eq_true, i10, i20, i30, vp0, nc0]
        refine s_longest q h hc ?_
        simp only [s2, q.t123, rf0 q, rf2 q, hty_sI, hln_sI, hR_sI, cnd1, cnd2, b2i_0, b2i_1, b2i_z, if_true, if_false, true_and, and_true, true_implies, false_implies, ne_eq, not_false_eq_true, not_true_eq_false, eq_self, exIA, exIS, exAI, exAS, exSI, exSA, true_or, or_true, false_or, or_false, Nat.reduceEqDiff, Bool.true_and, Bool.and_true, Bool.false_and, Bool.and_false, Bool.true_eq_false, Bool.false_eq_true, i10, i20, i30, vp0, nc0]
        exact k _ _ w.thr (fun e => absurd e (by decide))
theorem op_nextClause {σ : St} {n : Nat} (iS : InvS σ) (i : Inv (zG σ) n) (a : Int32) : OpI (fun X K => w_L_nextClause 1 a 129 X K) (fun X K => w_X5_nextClause 123 a X K) σ := by
  have hn := i.cn
  cases h0 : inT a
  · skip
    refine ⟨1, 0, σ, iS, fun X m o K w k => ?_, fun X d o K w k => ?_⟩
    · have q := w.1
      have h : TR X 2 (zG σ) := w.2.1.1
      simp only [w_L_nextClause, w_X4_nextClause, w_X4_checkPlan, q.t1, q.r1_0, q.r1_5, q.t2, q.t120, e_checkTongue, h0, hty_sI, hln_sI, hR_sI, cnd1, cnd2, b2i_0, b2i_1, b2i_z, if_true, if_false, true_and, and_true, true_implies, false_implies, ne_eq, not_false_eq_true, not_true_eq_false, eq_self, exIA, exIS, exAI, exAS, exSI, exSA, true_or, or_true, false_or, or_false, Nat.reduceEqDiff, Bool.true_and, Bool.and_true, Bool.false_and, Bool.and_false, Bool.true_eq_false, Bool.false_eq_true, i10, i20, i30, vp0, nc0]
      exact k _ _ w (fun e => absurd e (by decide))
    · have q := w.1
      have h := w.rr
      have q1 : Shp (sI X 123 7 0) := q
      have hh : RR (sI X 123 7 0) (zG σ) := h.thr
      simp only [w_X5_nextClause, w_X5_nextClause_25, q.t123, q.r123_0, q.t124, q.n124, x_isTongue, qT, h0, rf0 q, rf1 q, rf2 q, rf3 q, hty_sI, hln_sI, hR_sI, cnd1, cnd2, b2i_0, b2i_1, b2i_z, if_true, if_false, true_and, and_true, true_implies, false_implies, ne_eq, not_false_eq_true, not_true_eq_false, eq_self, exIA, exIS, exAI, exAS, exSI, exSA, true_or, or_true, false_or, or_false, Nat.reduceEqDiff, Bool.true_and, Bool.and_true, Bool.false_and, Bool.and_false, Bool.true_eq_false, Bool.false_eq_true, i10, i20, i30, vp0, nc0]
      exact k _ _ w.thr (fun e => absurd e (by decide))
  · skip
    obtain ⟨t, ht, rfl⟩ := inT_ex h0
    rcases sgn_x (nx_x (g := zG σ) (t := t) hn.2) with ⟨s1, s2⟩ | ⟨s1, s2⟩
    · skip
      refine ⟨0, encO (nxTo (zG σ) t n), σ, iS, fun X m o K w k => ?_, fun X d o K w k => ?_⟩
      · have q := w.1
        have h : TR X 2 (zG σ) := w.2.1.1
        simp only [w_L_nextClause, w_X4_nextClause, w_X4_checkPlan, q.t1, q.r1_0, q.r1_5, q.t2, q.t120, e_checkTongue, h0, hty_sI, hln_sI, hR_sI, cnd1, cnd2, b2i_0, b2i_1, b2i_z, if_true, if_false, true_and, and_true, true_implies, false_implies, ne_eq, not_false_eq_true, not_true_eq_false, eq_self, exIA, exIS, exAI, exAS, exSI, exSA, true_or, or_true, false_or, or_false, Nat.reduceEqDiff, Bool.true_and, Bool.and_true, Bool.false_and, Bool.and_false, Bool.true_eq_false, Bool.false_eq_true, i10, i20, i30, vp0, nc0]
        refine s_longestToTake q h hn i.S ht ?_
        simp only [s1, q.t1, q.r1_0, q.t2, q.t129, q.n129, hty_sI, hln_sI, hR_sI, cnd1, cnd2, b2i_0, b2i_1, b2i_z, if_true, if_false, true_and, and_true, true_implies, false_implies, ne_eq, not_false_eq_true, not_true_eq_false, eq_self, exIA, exIS, exAI, exAS, exSI, exSA, true_or, or_true, false_or, or_false, Nat.reduceEqDiff, Bool.true_and, Bool.and_true, Bool.false_and, Bool.and_false, Bool.true_eq_false, Bool.false_eq_true, i10, i20, i30, vp0, nc0]
        exact k _ _ w.out (fun _ => rfl)
      · have q := w.1
        have h := w.rr
        have q1 : Shp (sI X 123 7 0) := q
        have hh : RR (sI X 123 7 0) (zG σ) := h.thr
        simp only [w_X5_nextClause, w_X5_nextClause_25, q.t123, q.r123_0, q.t124, q.n124, x_isTongue, qT, h0, rf0 q, rf1 q, rf2 q, rf3 q, hty_sI, hln_sI, hR_sI, cnd1, cnd2, b2i_0, b2i_1, b2i_z, if_true, if_false, true_and, and_true, true_implies, false_implies, ne_eq, not_false_eq_true, not_true_eq_false, eq_self, exIA, exIS, exAI, exAS, exSI, exSA, true_or, or_true, false_or, or_false, Nat.reduceEqDiff, Bool.true_and, Bool.and_true, Bool.false_and, Bool.and_false, Bool.true_eq_false, Bool.false_eq_true, i10, i20, i30, vp0, nc0]
        refine s_nextOne q h hn i.S (i.F ht) ht ?_
        simp only [s2, q.t123, rf0 q, rf2 q, hty_sI, hln_sI, hR_sI, cnd1, cnd2, b2i_0, b2i_1, b2i_z, if_true, if_false, true_and, and_true, true_implies, false_implies, ne_eq, not_false_eq_true, not_true_eq_false, eq_self, exIA, exIS, exAI, exAS, exSI, exSA, true_or, or_true, false_or, or_false, Nat.reduceEqDiff, Bool.true_and, Bool.and_true, Bool.false_and, Bool.and_false, Bool.true_eq_false, Bool.false_eq_true, i10, i20, i30, vp0, nc0]
        refine s_nextOne q1 hh hn i.S (i.F ht) ht ?_
        exact k _ _ w.thr (fun _ => rfl)
    · skip
      refine ⟨2, 0, σ, iS, fun X m o K w k => ?_, fun X d o K w k => ?_⟩
      · have q := w.1
        have h : TR X 2 (zG σ) := w.2.1.1
        simp only [w_L_nextClause, w_X4_nextClause, w_X4_checkPlan, q.t1, q.r1_0, q.r1_5, q.t2, q.t120, e_checkTongue, h0, hty_sI, hln_sI, hR_sI, cnd1, cnd2, b2i_0, b2i_1, b2i_z, if_true, if_false, true_and, and_true, true_implies, false_implies, ne_eq, not_false_eq_true, not_true_eq_false, eq_self, exIA, exIS, exAI, exAS, exSI, exSA, true_or, or_true, false_or, or_false, Nat.reduceEqDiff, Bool.true_and, Bool.and_true, Bool.false_and, Bool.and_false, Bool.true_eq_false, Bool.false_eq_true, i10, i20, i30, vp0, nc0]
        refine s_longestToTake q h hn i.S ht ?_
        simp only [s1, q.t1, q.r1_0, q.t2, q.t129, q.n129, hty_sI, hln_sI, hR_sI, cnd1, cnd2, b2i_0, b2i_1, b2i_z, if_true, if_false, true_and, and_true, true_implies, false_implies, ne_eq, not_false_eq_true, not_true_eq_false, eq_self, exIA, exIS, exAI, exAS, exSI, exSA, true_or, or_true, false_or, or_false, Nat.reduceEqDiff, Bool.true_and, Bool.and_true, Bool.false_and, Bool.and_false, Bool.true_eq_false, Bool.false_eq_true, i10, i20, i30, vp0, nc0]
        exact k _ _ w (fun e => absurd e (by decide))
      · have q := w.1
        have h := w.rr
        have q1 : Shp (sI X 123 7 0) := q
        have hh : RR (sI X 123 7 0) (zG σ) := h.thr
        simp only [w_X5_nextClause, w_X5_nextClause_25, q.t123, q.r123_0, q.t124, q.n124, x_isTongue, qT, h0, rf0 q, rf1 q, rf2 q, rf3 q, hty_sI, hln_sI, hR_sI, cnd1, cnd2, b2i_0, b2i_1, b2i_z, if_true, if_false, true_and, and_true, true_implies, false_implies, ne_eq, not_false_eq_true, not_true_eq_false, eq_self, exIA, exIS, exAI, exAS, exSI, exSA, true_or, or_true, false_or, or_false, Nat.reduceEqDiff, Bool.true_and, Bool.and_true, Bool.false_and, Bool.and_false, Bool.true_eq_false, Bool.false_eq_true, i10, i20, i30, vp0, nc0]
        refine s_nextOne q h hn i.S (i.F ht) ht ?_
        simp only [s2, q.t123, rf0 q, rf2 q, hty_sI, hln_sI, hR_sI, cnd1, cnd2, b2i_0, b2i_1, b2i_z, if_true, if_false, true_and, and_true, true_implies, false_implies, ne_eq, not_false_eq_true, not_true_eq_false, eq_self, exIA, exIS, exAI, exAS, exSI, exSA, true_or, or_true, false_or, or_false, Nat.reduceEqDiff, Bool.true_and, Bool.and_true, Bool.false_and, Bool.and_false, Bool.true_eq_false, Bool.false_eq_true, i10, i20, i30, vp0, nc0]
        exact k _ _ w.thr (fun e => absurd e (by decide))
theorem op_leastAnnex {σ : St} {n : Nat} (iS : InvS σ) (i : Inv (zG σ) n) (a b : Int32) : OpI (fun X K => w_L_leastAnnex 1 a b 129 X K) (fun X K => w_X5_leastAnnex 123 a b X K) σ := by
  have hn := i.cn
  cases h0 : inC (zG σ 366) a
  · skip
    refine ⟨1, 0, σ, iS, fun X m o K w k => ?_, fun X d o K w k => ?_⟩
    · have q := w.1
      have h : TR X 2 (zG σ) := w.2.1.1
      simp only [w_L_leastAnnex, w_X4_leastAnnex, w_X4_checkPlan, q.t1, q.r1_0, q.r1_5, q.t2, q.t120, e_checkTranslation q h, h0, hty_sI, hln_sI, hR_sI, cnd1, cnd2, b2i_0, b2i_1, b2i_z, if_true, if_false, true_and, and_true, true_implies, false_implies, ne_eq, not_false_eq_true, not_true_eq_false, eq_self, exIA, exIS, exAI, exAS, exSI, exSA, true_or, or_true, false_or, or_false, Nat.reduceEqDiff, Bool.true_and, Bool.and_true, Bool.false_and, Bool.and_false, Bool.true_eq_false, Bool.false_eq_true, i10, i20, i30, vp0, nc0]
      exact k _ _ w (fun e => absurd e (by decide))
    · have q := w.1
      have h := w.rr
      have q1 : Shp (sI X 123 7 0) := q
      have hh : RR (sI X 123 7 0) (zG σ) := h.thr
      simp only [w_X5_leastAnnex, w_X5_leastAnnex_30, q.t123, q.r123_0, q.t124, q.n124, x_are q h, qC hn, qT, h0, x_badF q h hn (show (inC (zG σ 366) a && inT b) = false by simp [h0]), show ((1 : Int32) ≤ 0) = False from by decide, rf0 q, rf1 q, rf2 q, rf3 q, hty_sI, hln_sI, hR_sI, cnd1, cnd2, b2i_0, b2i_1, b2i_z, if_true, if_false, true_and, and_true, true_implies, false_implies, ne_eq, not_false_eq_true, not_true_eq_false, eq_self, exIA, exIS, exAI, exAS, exSI, exSA, true_or, or_true, false_or, or_false, Nat.reduceEqDiff, Bool.true_and, Bool.and_true, Bool.false_and, Bool.and_false, Bool.true_eq_false, Bool.false_eq_true, i10, i20, i30, vp0, nc0]
      exact k _ _ w.thr (fun e => absurd e (by decide))
  · skip
    cases h1 : inT b
    · skip
      refine ⟨1, 0, σ, iS, fun X m o K w k => ?_, fun X d o K w k => ?_⟩
      · have q := w.1
        have h : TR X 2 (zG σ) := w.2.1.1
        simp only [w_L_leastAnnex, w_X4_leastAnnex, w_X4_checkPlan, q.t1, q.r1_0, q.r1_5, q.t2, q.t120, e_checkTranslation q h, h0, h1, hty_sI, hln_sI, hR_sI, cnd1, cnd2, b2i_0, b2i_1, b2i_z, if_true, if_false, true_and, and_true, true_implies, false_implies, ne_eq, not_false_eq_true, not_true_eq_false, eq_self, exIA, exIS, exAI, exAS, exSI, exSA, true_or, or_true, false_or, or_false, Nat.reduceEqDiff, Bool.true_and, Bool.and_true, Bool.false_and, Bool.and_false, Bool.true_eq_false, Bool.false_eq_true, i10, i20, i30, vp0, nc0]
        exact k _ _ w (fun e => absurd e (by decide))
      · have q := w.1
        have h := w.rr
        have q1 : Shp (sI X 123 7 0) := q
        have hh : RR (sI X 123 7 0) (zG σ) := h.thr
        simp only [w_X5_leastAnnex, w_X5_leastAnnex_30, q.t123, q.r123_0, q.t124, q.n124, x_are q h, qC hn, qT, h0, h1, x_badF q h hn (show (inC (zG σ 366) a && inT b) = false by simp [h0, h1]), show ((1 : Int32) ≤ 0) = False from by decide, rf0 q, rf1 q, rf2 q, rf3 q, hty_sI, hln_sI, hR_sI, cnd1, cnd2, b2i_0, b2i_1, b2i_z, if_true, if_false, true_and, and_true, true_implies, false_implies, ne_eq, not_false_eq_true, not_true_eq_false, eq_self, exIA, exIS, exAI, exAS, exSI, exSA, true_or, or_true, false_or, or_false, Nat.reduceEqDiff, Bool.true_and, Bool.and_true, Bool.false_and, Bool.and_false, Bool.true_eq_false, Bool.false_eq_true, i10, i20, i30, vp0, nc0]
        exact k _ _ w.thr (fun e => absurd e (by decide))
    · skip
      obtain ⟨c, hc, rfl⟩ := inC_ex hn h0
      obtain ⟨t, ht, rfl⟩ := inT_ex h1
      have hcn := hc
      replace hc : c < 24 := Nat.lt_of_lt_of_le hc hn.2
      cases hp : pHas (zG σ) c t
      · skip
        refine ⟨2, 0, σ, iS, fun X m o K w k => ?_, fun X d o K w k => ?_⟩
        · have q := w.1
          have h : TR X 2 (zG σ) := w.2.1.1
          simp only [w_L_leastAnnex, w_X4_leastAnnex, w_X4_checkPlan, q.t1, q.r1_0, q.r1_5, q.t2, q.t120, e_checkTranslation q h, h0, h1, hp, e_checkTranslated q h hc ht, hty_sI, hln_sI, hR_sI, cnd1, cnd2, b2i_0, b2i_1, b2i_z, if_true, if_false, true_and, and_true, true_implies, false_implies, ne_eq, not_false_eq_true, not_true_eq_false, eq_self, exIA, exIS, exAI, exAS, exSI, exSA, true_or, or_true, false_or, or_false, Nat.reduceEqDiff, Bool.true_and, Bool.and_true, Bool.false_and, Bool.and_false, Bool.true_eq_false, Bool.false_eq_true, i10, i20, i30, vp0, nc0]
          exact k _ _ w (fun e => absurd e (by decide))
        · have q := w.1
          have h := w.rr
          have q1 : Shp (sI X 123 7 0) := q
          have hh : RR (sI X 123 7 0) (zG σ) := h.thr
          simp only [w_X5_leastAnnex, w_X5_leastAnnex_30, q.t123, q.r123_0, q.t124, q.n124, x_are q h, qC hn, qT, h0, h1, hp, x_badT q h hn h0 h1 hc ht, show ((0 : Int32) ≤ 0) = True from by decide, show ((2 : Int32) ≤ 0) = False from by decide, rf0 q, rf1 q, rf2 q, rf3 q, hty_sI, hln_sI, hR_sI, cnd1, cnd2, b2i_0, b2i_1, b2i_z, if_true, if_false, true_and, and_true, true_implies, false_implies, ne_eq, not_false_eq_true, not_true_eq_false, eq_self, exIA, exIS, exAI, exAS, exSI, exSA, true_or, or_true, false_or, or_false, Nat.reduceEqDiff, Bool.true_and, Bool.and_true, Bool.false_and, Bool.and_false, Bool.true_eq_false, Bool.false_eq_true, i10, i20, i30, vp0, nc0]
          exact k _ _ w.thr (fun e => absurd e (by decide))
      · skip
        rcases sgn_x (gLA_x (g := zG σ) (c := c) (t := t)) with ⟨s1, s2⟩ | ⟨s1, s2⟩
        · skip
          refine ⟨0, gLA (zG σ) c t, σ, iS, fun X m o K w k => ?_, fun X d o K w k => ?_⟩
          · have q := w.1
            have h : TR X 2 (zG σ) := w.2.1.1
            simp only [w_L_leastAnnex, w_X4_leastAnnex, w_X4_checkPlan, q.t1, q.r1_0, q.r1_5, q.t2, q.t120, e_checkTranslation q h, h0, h1, hp, e_checkTranslated q h hc ht, e_leastAnnexAt q h hc ht, hty_sI, hln_sI, hR_sI, cnd1, cnd2, b2i_0, b2i_1, b2i_z, if_true, if_false, true_and, and_true, true_implies, false_implies, ne_eq, not_false_eq_true, not_true_eq_false, eq_self, exIA, exIS, exAI, exAS, exSI, exSA, true_or, or_true, false_or, or_false, Nat.reduceEqDiff, Bool.true_and, Bool.and_true, Bool.false_and, Bool.and_false, Bool.true_eq_false, Bool.false_eq_true, i10, i20, i30, vp0, nc0]
            simp only [s1, q.t1, q.r1_0, q.t2, q.t129, q.n129, hty_sI, hln_sI, hR_sI, cnd1, cnd2, b2i_0, b2i_1, b2i_z, if_true, if_false, true_and, and_true, true_implies, false_implies, ne_eq, not_false_eq_true, not_true_eq_false, eq_self, exIA, exIS, exAI, exAS, exSI, exSA, true_or, or_true, false_or, or_false, Nat.reduceEqDiff, Bool.true_and, Bool.and_true, Bool.false_and, Bool.and_false, Bool.true_eq_false, Bool.false_eq_true, i10, i20, i30, vp0, nc0]
            exact k _ _ w.out (fun _ => rfl)
          · have q := w.1
            have h := w.rr
            have q1 : Shp (sI X 123 7 0) := q
            have hh : RR (sI X 123 7 0) (zG σ) := h.thr
            simp only [w_X5_leastAnnex, w_X5_leastAnnex_30, q.t123, q.r123_0, q.t124, q.n124, x_are q h, qC hn, qT, h0, h1, hp, x_badT q h hn h0 h1 hc ht, show ((0 : Int32) ≤ 0) = True from by decide, show ((2 : Int32) ≤ 0) = False from by decide, rf0 q, rf1 q, rf2 q, rf3 q, hty_sI, hln_sI, hR_sI, cnd1, cnd2, b2i_0, b2i_1, b2i_z, if_true, if_false, true_and, and_true, true_implies, false_implies, ne_eq, not_false_eq_true, not_true_eq_false, eq_self, exIA, exIS, exAI, exAS, exSI, exSA, true_or, or_true, false_or, or_false, Nat.reduceEqDiff, Bool.true_and, Bool.and_true, Bool.false_and, Bool.and_false, Bool.true_eq_false, Bool.false_eq_true, i10, i20, i30, vp0, nc0]
            refine s_needed q h hc ht (i.2.1 c hcn) hp ?_
            simp only [s2, q.t123, rf0 q, rf2 q, hty_sI, hln_sI, hR_sI, cnd1, cnd2, b2i_0, b2i_1, b2i_z, if_true, if_false, true_and, and_true, true_implies, false_implies, ne_eq, not_false_eq_true, not_true_eq_false, eq_self, exIA, exIS, exAI, exAS, exSI, exSA, true_or, or_true, false_or, or_false, Nat.reduceEqDiff, Bool.true_and, Bool.and_true, Bool.false_and, Bool.and_false, Bool.true_eq_false, Bool.false_eq_true, i10, i20, i30, vp0, nc0]
            refine s_needed q1 hh hc ht (i.2.1 c hcn) hp ?_
            exact k _ _ w.thr (fun _ => rfl)
        · skip
          refine ⟨2, 0, σ, iS, fun X m o K w k => ?_, fun X d o K w k => ?_⟩
          · have q := w.1
            have h : TR X 2 (zG σ) := w.2.1.1
            simp only [w_L_leastAnnex, w_X4_leastAnnex, w_X4_checkPlan, q.t1, q.r1_0, q.r1_5, q.t2, q.t120, e_checkTranslation q h, h0, h1, hp, e_checkTranslated q h hc ht, e_leastAnnexAt q h hc ht, hty_sI, hln_sI, hR_sI, cnd1, cnd2, b2i_0, b2i_1, b2i_z, if_true, if_false, true_and, and_true, true_implies, false_implies, ne_eq, not_false_eq_true, not_true_eq_false, eq_self, exIA, exIS, exAI, exAS, exSI, exSA, true_or, or_true, false_or, or_false, Nat.reduceEqDiff, Bool.true_and, Bool.and_true, Bool.false_and, Bool.and_false, Bool.true_eq_false, Bool.false_eq_true, i10, i20, i30, vp0, nc0]
            simp only [s1, q.t1, q.r1_0, q.t2, q.t129, q.n129, hty_sI, hln_sI, hR_sI, cnd1, cnd2, b2i_0, b2i_1, b2i_z, if_true, if_false, true_and, and_true, true_implies, false_implies, ne_eq, not_false_eq_true, not_true_eq_false, eq_self, exIA, exIS, exAI, exAS, exSI, exSA, true_or, or_true, false_or, or_false, Nat.reduceEqDiff, Bool.true_and, Bool.and_true, Bool.false_and, Bool.and_false, Bool.true_eq_false, Bool.false_eq_true, i10, i20, i30, vp0, nc0]
            exact k _ _ w (fun e => absurd e (by decide))
          · have q := w.1
            have h := w.rr
            have q1 : Shp (sI X 123 7 0) := q
            have hh : RR (sI X 123 7 0) (zG σ) := h.thr
            simp only [w_X5_leastAnnex, w_X5_leastAnnex_30, q.t123, q.r123_0, q.t124, q.n124, x_are q h, qC hn, qT, h0, h1, hp, x_badT q h hn h0 h1 hc ht, show ((0 : Int32) ≤ 0) = True from by decide, show ((2 : Int32) ≤ 0) = False from by decide, rf0 q, rf1 q, rf2 q, rf3 q, hty_sI, hln_sI, hR_sI, cnd1, cnd2, b2i_0, b2i_1, b2i_z, if_true, if_false, true_and, and_true, true_implies, false_implies, ne_eq, not_false_eq_true, not_true_eq_false, eq_self, exIA, exIS, exAI, exAS, exSI, exSA, true_or, or_true, false_or, or_false, Nat.reduceEqDiff, Bool.true_and, Bool.and_true, Bool.false_and, Bool.and_false, Bool.true_eq_false, Bool.false_eq_true, i10, i20, i30, vp0, nc0]
            refine s_needed q h hc ht (i.2.1 c hcn) hp ?_
            simp only [s2, q.t123, rf0 q, rf2 q, hty_sI, hln_sI, hR_sI, cnd1, cnd2, b2i_0, b2i_1, b2i_z, if_true, if_false, true_and, and_true, true_implies, false_implies, ne_eq, not_false_eq_true, not_true_eq_false, eq_self, exIA, exIS, exAI, exAS, exSI, exSA, true_or, or_true, false_or, or_false, Nat.reduceEqDiff, Bool.true_and, Bool.and_true, Bool.false_and, Bool.and_false, Bool.true_eq_false, Bool.false_eq_true, i10, i20, i30, vp0, nc0]
            exact k _ _ w.thr (fun e => absurd e (by decide))
theorem op_readyByVoices {σ : St} {n : Nat} (iS : InvS σ) (i : Inv (zG σ) n) (a : Int32) : OpI (fun X K => w_L_readyByVoices 1 a 129 X K) (fun X K => w_X5_readyByVoices 123 a X K) σ := by
  have hn := i.cn
  cases h0 : inT a
  · skip
    refine ⟨1, 0, σ, iS, fun X m o K w k => ?_, fun X d o K w k => ?_⟩
    · have q := w.1
      have h : TR X 2 (zG σ) := w.2.1.1
      simp only [w_L_readyByVoices, w_X4_readyByVoices, w_X4_checkPlan, q.t1, q.r1_0, q.r1_5, q.t2, q.t120, e_checkTongue, h0, hty_sI, hln_sI, hR_sI, cnd1, cnd2, b2i_0, b2i_1, b2i_z, if_true, if_false, true_and, and_true, true_implies, false_implies, ne_eq, not_false_eq_true, not_true_eq_false, eq_self, exIA, exIS, exAI, exAS, exSI, exSA, true_or, or_true, false_or, or_false, Nat.reduceEqDiff, Bool.true_and, Bool.and_true, Bool.false_and, Bool.and_false, Bool.true_eq_false, Bool.false_eq_true, i10, i20, i30, vp0, nc0]
      exact k _ _ w (fun e => absurd e (by decide))
    · have q := w.1
      have h := w.rr
      have q1 : Shp (sI X 123 7 0) := q
      have hh : RR (sI X 123 7 0) (zG σ) := h.thr
      simp only [w_X5_readyByVoices, w_X5_readyByVoices_13, q.t123, q.r123_0, q.t124, q.n124, x_isTongue, qT, h0, rf0 q, rf1 q, rf2 q, rf3 q, hty_sI, hln_sI, hR_sI, cnd1, cnd2, b2i_0, b2i_1, b2i_z, if_true, if_false, true_and, and_true, true_implies, false_implies, ne_eq, not_false_eq_true, not_true_eq_false, eq_self, exIA, exIS, exAI, exAS, exSI, exSA, true_or, or_true, false_or, or_false, Nat.reduceEqDiff, Bool.true_and, Bool.and_true, Bool.false_and, Bool.and_false, Bool.true_eq_false, Bool.false_eq_true, i10, i20, i30, vp0, nc0]
      exact k _ _ w.thr (fun e => absurd e (by decide))
  · skip
    obtain ⟨t, ht, rfl⟩ := inT_ex h0
    refine ⟨0, sReady (zG σ) n t, σ, iS, fun X m o K w k => ?_, fun X d o K w k => ?_⟩
    · have q := w.1
      have h : TR X 2 (zG σ) := w.2.1.1
      simp only [w_L_readyByVoices, w_X4_readyByVoices, w_X4_checkPlan, q.t1, q.r1_0, q.r1_5, q.t2, q.t120, e_checkTongue, h0, hty_sI, hln_sI, hR_sI, cnd1, cnd2, b2i_0, b2i_1, b2i_z, if_true, if_false, true_and, and_true, true_implies, false_implies, ne_eq, not_false_eq_true, not_true_eq_false, eq_self, exIA, exIS, exAI, exAS, exSI, exSA, true_or, or_true, false_or, or_false, Nat.reduceEqDiff, Bool.true_and, Bool.and_true, Bool.false_and, Bool.and_false, Bool.true_eq_false, Bool.false_eq_true, i10, i20, i30, vp0, nc0]
      refine s_readyOfAllVoices q h hn ht ?_
      rw [rdAll_eq i.S]
      exact ⟨q.t129, vpX q, k _ _ w.out (fun _ => rfl)⟩
    · have q := w.1
      have h := w.rr
      have q1 : Shp (sI X 123 7 0) := q
      have hh : RR (sI X 123 7 0) (zG σ) := h.thr
      simp only [w_X5_readyByVoices, w_X5_readyByVoices_13, q.t123, q.r123_0, q.t124, q.n124, x_isTongue, qT, h0, rf0 q, rf1 q, rf2 q, rf3 q, hty_sI, hln_sI, hR_sI, cnd1, cnd2, b2i_0, b2i_1, b2i_z, if_true, if_false, true_and, and_true, true_implies, false_implies, ne_eq, not_false_eq_true, not_true_eq_false, eq_self, exIA, exIS, exAI, exAS, exSI, exSA, true_or, or_true, false_or, or_false, Nat.reduceEqDiff, Bool.true_and, Bool.and_true, Bool.false_and, Bool.and_false, Bool.true_eq_false, Bool.false_eq_true, i10, i20, i30, vp0, nc0]
      refine s_ready q1 hh hn ht i.S (i.F ht) ?_
      exact k _ _ w.thr (fun _ => rfl)
end PQ
