/-! load -/
section PY
variable {X : XH} {c m d σ : St} {o : Ou}
theorem nd_36 {K : Int32 → XH → Prop} (q : Shp X) (h : ND X) (k : K 0 X) : (¬ hI X 114 7 = 2 → w_X0_readWhole_36 114 X K) ∧ (hI X 114 7 = 2 → (hR X 114 4 ≠ 0) ∧ w_X4_at (hR X 114 4) (hI X 114 6) X (fun v X8 => ((4 : Int32) ≤ v → K 1 X8) ∧ (¬ ((4 : Int32) ≤ v) → w_X0_readWhole_36 114 X8 K))) := by
  obtain ⟨p, hp, e6, h⟩ := h
  rcases h with h | h | ⟨h, l, hl, el⟩ | ⟨h, ey⟩
  · refine ⟨fun _ => ?_, fun e => absurd (h.symm.trans e) (by decide)⟩
    unfold w_X0_readWhole_36
    rw [h]
    exact ⟨q.t114, fun _ => k, fun e => absurd e (by decide)⟩
  · refine ⟨fun _ => ?_, fun e => absurd (h.symm.trans e) (by decide)⟩
    unfold w_X0_readWhole_36
    rw [h]
    exact ⟨q.t114, fun _ => k, fun e => absurd e (by decide)⟩
  · refine ⟨fun e => absurd h e, fun _ => ?_⟩
    rw [e6, q.r114_4, at_eq q.t118 q.n118 hp (by decide), el]
    have e4 : ((4 : Int32) ≤ Int32.ofNat l) = (4 ≤ l) := of_le (i := 4) (by decide) (by omega)
    refine ⟨by decide, fun h4 => absurd (e4 ▸ h4) (by omega), fun _ => ?_⟩
    unfold w_X0_readWhole_36
    rw [h]
    exact ⟨q.t114, fun _ => k, fun e => absurd e (by decide)⟩
  · refine ⟨fun _ => ?_, fun e => absurd (h.symm.trans e) (by decide)⟩
    unfold w_X0_readWhole_36
    rw [h, e6, q.r114_5, at_eq q.t119 q.n119 hp (by decide), ey]
    exact ⟨q.t114, fun e => absurd rfl e, fun _ => ⟨by decide, fun _ => k, fun e => absurd (show (0 : Int32) < 1 by decide) e⟩⟩
theorem es_36 {K : Int32 → XH → Prop} {pL : Nat} (q : Shp X) (h : EndS X pL) (k : K 1 X) : (¬ hI X 114 7 = 2 → w_X0_readWhole_36 114 X K) ∧ (hI X 114 7 = 2 → (hR X 114 4 ≠ 0) ∧ w_X4_at (hR X 114 4) (hI X 114 6) X (fun v X8 => ((4 : Int32) ≤ v → K 1 X8) ∧ (¬ ((4 : Int32) ≤ v) → w_X0_readWhole_36 114 X8 K))) := by
  obtain ⟨hp, e6, h⟩ := h
  rcases h with ⟨h, l, h1, h2, el⟩ | ⟨h, l, h1, h2, el⟩
  · refine ⟨fun e => absurd h e, fun _ => ?_⟩
    rw [e6, q.r114_4, at_eq q.t118 q.n118 hp (by decide), el]
    have e4 : ((4 : Int32) ≤ Int32.ofNat l) = (4 ≤ l) := of_le (i := 4) (by decide) (by omega)
    exact ⟨by decide, fun _ => k, fun h4 => absurd (e4.symm ▸ h1) h4⟩
  · refine ⟨fun _ => ?_, fun e => absurd (h.symm.trans e) (by decide)⟩
    unfold w_X0_readWhole_36
    rw [h, e6, q.r114_5, at_eq q.t119 q.n119 hp (by decide), el]
    have e4 : (Int32.ofNat l < (1 : Int32)) = (l < 1) := ltk (k := 1) (by omega) (by decide)
    exact ⟨q.t114, fun e => absurd rfl e, fun _ => ⟨by decide, fun h4 => absurd (e4 ▸ h4) (by omega), fun _ => k⟩⟩
theorem c_rw {K : Int32 → XH → Prop} (w : Wd X σ m o) (iS : InvS σ) (kn : (whR (zN σ) (uT σ) 61 0).2 = none → ∀ X1, AgT X X1 → K 0 X1) (ks : ∀ l X1, (whR (zN σ) (uT σ) 61 0).2 = some l → Fin X X1 0 rw0 l → K 1 X1) : w_X0_readWhole 114 X K := by
  have q := w.1
  obtain ⟨h1, h2, h3⟩ := w.2.1.2.2.2
  unfold w_X0_readWhole
  refine ⟨q.t114, R2E w iS (fun X1 e a hnd => ?_) (fun l X1 e fn => ?_)⟩
  · have q1 := a.1.shp q
    have e1 : hI X1 114 1 = Int32.ofNat (zN σ) := a.2.1.trans h1
    rw [e1]
    refine ⟨q1.t114, fun hle => ?_, fun _ => kn e X1 a⟩
    rcases hnd with hnd | hnd
    · rw [of_le (show zN σ < 4096 by omega) (by omega)] at hle
      omega
    · exact nd_36 q1 hnd (kn e X1 a)
  · have q1 := fn.1.1.shp q
    have e1 : hI X1 114 1 = Int32.ofNat (zN σ) := fn.1.2.1.trans h1
    rw [e1]
    obtain ⟨pL, -, hE⟩ := fn.2.1
    refine ⟨q1.t114, fun _ => es_36 q1 hE (ks l X1 e fn), fun hne => ?_⟩
    rw [of_le (show zN σ < 4096 by omega) (show zN σ < 4096 by omega)] at hne
    omega
theorem c_hs {K : Int32 → XH → Prop} {l : List R4} (q : Shp X) (h60 : l.length ≤ 60) (hr : rowsAt X 0 l) (ho : okL l) (k : K (b2i (!(sgOk l))) X) : w_X0_hasSighBeyondLips 114 (Int32.ofNat l.length) X K := by
  unfold w_X0_hasSighBeyondLips
  try simp only [q.t114, hty_sI, hln_sI, hR_sI, cnd1, cnd2, b2i_0, b2i_1, b2i_z, if_true, if_false, true_and, and_true, true_implies, false_implies, ne_eq, not_false_eq_true, not_true_eq_false, eq_self, exIA, exIS, exAI, exAS, exSI, exSA, true_or, or_true, false_or, or_false, Nat.reduceEqDiff, Bool.true_and, Bool.and_true, Bool.false_and, Bool.and_false, Bool.true_eq_false, Bool.false_eq_true, i10, i20, i30, vp0, nc0]
  intro P hP
  refine c_sbl (cnt := l.length) q h60 (fun j v1 v2 hj e1 e2 h1 h2 kk => hP _ _ _ _ ?_) (fun kk => hP _ _ _ _ ?_) l 0 (by omega) hr ho k
  · simp only [q.t114, q.r114_4, q.r114_5, ltl hj (show l.length < 4096 by omega), at_eq q.t119 q.n119 (show j < 60 by omega) (show 60 < 4096 by decide), at_eq q.t118 q.n118 (show j < 60 by omega) (show 60 < 4096 by decide), e1, e2, of_le h1 h2, of_s, hty_sI, hln_sI, hR_sI, cnd1, cnd2, b2i_0, b2i_1, b2i_z, if_true, if_false, true_and, and_true, true_implies, false_implies, ne_eq, not_false_eq_true, not_true_eq_false, eq_self, exIA, exIS, exAI, exAS, exSI, exSA, true_or, or_true, false_or, or_false, Nat.reduceEqDiff, Bool.true_and, Bool.and_true, Bool.false_and, Bool.and_false, Bool.true_eq_false, Bool.false_eq_true, i10, i20, i30, vp0, nc0]
    exact kk
  · simp only [q.t114, ltt (show l.length < 4096 by omega), hty_sI, hln_sI, hR_sI, cnd1, cnd2, b2i_0, b2i_1, b2i_z, if_true, if_false, true_and, and_true, true_implies, false_implies, ne_eq, not_false_eq_true, not_true_eq_false, eq_self, exIA, exIS, exAI, exAS, exSI, exSA, true_or, or_true, false_or, or_false, Nat.reduceEqDiff, Bool.true_and, Bool.and_true, Bool.false_and, Bool.and_false, Bool.true_eq_false, Bool.false_eq_true, i10, i20, i30, vp0, nc0]
    exact kk
theorem op_load {n : Nat} (iS : InvS σ) (i : Inv (zG σ) n) : OpI (fun X K => w_L_load 1 129 X K) (fun X K => w_X5_load 123 X K) σ := by
  have hn := i.cn
  have hn2 := hn.2
  cases hw : (whR (zN σ) (uT σ) 61 0).2 with
  | none =>
    refine ⟨1, 0, σ, iS, fun X m o K w k => ?_, fun X d o K w k => ?_⟩
    · have q := w.1
      simp only [w_L_load, w_X4_load, q.t1, q.r1_4, q.t114, hty_sI, hln_sI, hR_sI, cnd1, cnd2, b2i_0, b2i_1, b2i_z, if_true, if_false, true_and, and_true, true_implies, false_implies, ne_eq, not_false_eq_true, not_true_eq_false, eq_self, exIA, exIS, exAI, exAS, exSI, exSA, true_or, or_true, false_or, or_false, Nat.reduceEqDiff, Bool.true_and, Bool.and_true, Bool.false_and, Bool.and_false, Bool.true_eq_false, Bool.false_eq_true, i10, i20, i30, vp0, nc0]
      refine c_rw w iS (fun e X1 a => ?_) (fun l X1 e => absurd (hw.symm.trans e) (fun h => nomatch h))
      simp only [(w.agT a).1.t1, hty_sI, hln_sI, hR_sI, cnd1, cnd2, b2i_0, b2i_1, b2i_z, if_true, if_false, true_and, and_true, true_implies, false_implies, ne_eq, not_false_eq_true, not_true_eq_false, eq_self, exIA, exIS, exAI, exAS, exSI, exSA, true_or, or_true, false_or, or_false, Nat.reduceEqDiff, Bool.true_and, Bool.and_true, Bool.false_and, Bool.and_false, Bool.true_eq_false, Bool.false_eq_true, i10, i20, i30, vp0, nc0]
      exact k _ _ (w.agT a) (fun e => absurd e (by decide))
    · have q := w.1
      have tm := w.txM iS
      simp only [w_X5_load, w_X5_load_24, w_X5_isWhole, q.t123, hty_sI, hln_sI, hR_sI, cnd1, cnd2, b2i_0, b2i_1, b2i_z, if_true, if_false, true_and, and_true, true_implies, false_implies, ne_eq, not_false_eq_true, not_true_eq_false, eq_self, exIA, exIS, exAI, exAS, exSI, exSA, true_or, or_true, false_or, or_false, Nat.reduceEqDiff, Bool.true_and, Bool.and_true, Bool.false_and, Bool.and_false, Bool.true_eq_false, Bool.false_eq_true, i10, i20, i30, vp0, nc0]
      refine M_iw tm (X := sI (sI X 123 8 0) 123 9 0) ⟨(AgM.rf.f (by decide) (by decide)).f (by decide) (by decide), by rw [sI_nk (by decide)]; exact sI_at, sI_at⟩ (fun X1 e m1 => ?_) (fun l X1 e => absurd (hw.symm.trans e) (fun h => nomatch h))
      have q1 := m1.q tm
      simp only [q1.t123, rf1 q1, hty_sI, hln_sI, hR_sI, cnd1, cnd2, b2i_0, b2i_1, b2i_z, if_true, if_false, true_and, and_true, true_implies, false_implies, ne_eq, not_false_eq_true, not_true_eq_false, eq_self, exIA, exIS, exAI, exAS, exSI, exSA, true_or, or_true, false_or, or_false, Nat.reduceEqDiff, Bool.true_and, Bool.and_true, Bool.false_and, Bool.and_false, Bool.true_eq_false, Bool.false_eq_true, i10, i20, i30, vp0, nc0]
      exact k _ _ (w.agM m1.1).thr (fun e => absurd e (by decide))
  | some l =>
    obtain ⟨hok, hlen, hpos⟩ := wh_ok 61 0 l (Nat.zero_le _) hw
    have cls : ∀ (X : XH) (m : St) (o : Ou) (KK : Int32 → XH → Prop), Wd X σ m o → (∀ X1, Wd X1 σ m o → rowsAt X1 0 l → hI X1 114 6 + 1 = Int32.ofNat l.length → l.length ≤ 60 → KK 1 X1) → w_X0_readWhole 114 X KK := fun X m o KK w kk => c_rw w iS (fun e => absurd (hw.symm.trans e) (fun h => nomatch h)) (fun l' X1 e fn => by
      have el : l = l' := Option.some.inj (hw.symm.trans e)
      subst el
      obtain ⟨pL, g1, g2⟩ := fn.2.1
      refine kk X1 (w.agT fn.1) (rows_of l rw0 0 fn.2.2) ?_ ?_
      · rw [g2.2.1, of_s, g1, Nat.zero_add]
      · have := g2.1
        omega)
    have es : Int32.ofNat n + Int32.ofNat l.length = Int32.ofNat (n + l.length) := (Int32.ofNat_add _ _).symm
    by_cases hb : n + l.length ≤ 24
    rotate_left
    · refine ⟨2, 0, σ, iS, fun X m o K w k => ?_, fun X d o K w k => ?_⟩
      · have q := w.1
        simp only [w_L_load, w_X4_load, q.t1, q.r1_4, q.t114, hty_sI, hln_sI, hR_sI, cnd1, cnd2, b2i_0, b2i_1, b2i_z, if_true, if_false, true_and, and_true, true_implies, false_implies, ne_eq, not_false_eq_true, not_true_eq_false, eq_self, exIA, exIS, exAI, exAS, exSI, exSA, true_or, or_true, false_or, or_false, Nat.reduceEqDiff, Bool.true_and, Bool.and_true, Bool.false_and, Bool.and_false, Bool.true_eq_false, Bool.false_eq_true, i10, i20, i30, vp0, nc0]
        refine cls X m o _ w (fun X1 w1 hr ec h60 => ?_)
        have q1 := w1.1
        have e2 : hI X1 2 0 = Int32.ofNat n := w1.2.1.1.cn hn
        have e24 : ((24 : Int32) < Int32.ofNat (n + l.length)) = (24 < n + l.length) := ltk (i := 24) (by decide) (by omega)
        have hb24 : (24 < n + l.length) = True := by simp only [eq_iff_iff, iff_true, iff_false]; omega
        simp only [q1.t1, q1.r1_0, q1.r1_4, q1.t2, q1.t114, e2, ec, es, e24, hb24, hty_sI, hln_sI, hR_sI, cnd1, cnd2, b2i_0, b2i_1, b2i_z, if_true, if_false, true_and, and_true, true_implies, false_implies, ne_eq, not_false_eq_true, not_true_eq_false, eq_self, exIA, exIS, exAI, exAS, exSI, exSA, true_or, or_true, false_or, or_false, Nat.reduceEqDiff, Bool.true_and, Bool.and_true, Bool.false_and, Bool.and_false, Bool.true_eq_false, Bool.false_eq_true, i10, i20, i30, vp0, nc0]
        exact k _ _ w1 (fun e => absurd e (by decide))
      · have q := w.1
        have tm := w.txM iS
        simp only [w_X5_load, w_X5_isWhole, q.t123, hty_sI, hln_sI, hR_sI, cnd1, cnd2, b2i_0, b2i_1, b2i_z, if_true, if_false, true_and, and_true, true_implies, false_implies, ne_eq, not_false_eq_true, not_true_eq_false, eq_self, exIA, exIS, exAI, exAS, exSI, exSA, true_or, or_true, false_or, or_false, Nat.reduceEqDiff, Bool.true_and, Bool.and_true, Bool.false_and, Bool.and_false, Bool.true_eq_false, Bool.false_eq_true, i10, i20, i30, vp0, nc0]
        refine M_iw tm (X := sI (sI X 123 8 0) 123 9 0) ⟨(AgM.rf.f (by decide) (by decide)).f (by decide) (by decide), by rw [sI_nk (by decide)]; exact sI_at, sI_at⟩ (fun X1 e => absurd (hw.symm.trans e) (fun h => nomatch h)) (fun l' X1 e m1 => ?_)
        have q1 := m1.q tm
        have w1 := w.agM m1.1
        have e0 : hI X1 124 366 = Int32.ofNat n := (w1.rr 366 (by decide)).trans hn.1
        have hb' : (sgOk l && decide (n + l.length ≤ 24)) = false := by rw [decide_eq_false hb, Bool.and_false]
        simp only [w_X5_canLoad, w_X5_load_24, q1.t123, q1.r123_0, q1.t124, q1.n124, vp366, nc366, e0, hty_sI, hln_sI, hR_sI, cnd1, cnd2, b2i_0, b2i_1, b2i_z, if_true, if_false, true_and, and_true, true_implies, false_implies, ne_eq, not_false_eq_true, not_true_eq_false, eq_self, exIA, exIS, exAI, exAS, exSI, exSA, true_or, or_true, false_or, or_false, Nat.reduceEqDiff, Bool.true_and, Bool.and_true, Bool.false_and, Bool.and_false, Bool.true_eq_false, Bool.false_eq_true, i10, i20, i30, vp0, nc0]
        refine m_cl16 tm l n hn2 hw (m1.sp (j := 0)) (fun X2 j m2 => ?_)
        have q2 := m2.q tm
        have w2 := w.agM m2.1
        simp only [hb', q2.t123, rf0 q2, rf2 q2, hty_sI, hln_sI, hR_sI, cnd1, cnd2, b2i_0, b2i_1, b2i_z, if_true, if_false, true_and, and_true, true_implies, false_implies, ne_eq, not_false_eq_true, not_true_eq_false, eq_self, exIA, exIS, exAI, exAS, exSI, exSA, true_or, or_true, false_or, or_false, Nat.reduceEqDiff, Bool.true_and, Bool.and_true, Bool.false_and, Bool.and_false, Bool.true_eq_false, Bool.false_eq_true, i10, i20, i30, vp0, nc0]
        exact k _ _ w2.thr (fun e => absurd e (by decide))
    cases hs : sgOk l
    · refine ⟨2, 0, σ, iS, fun X m o K w k => ?_, fun X d o K w k => ?_⟩
      · have q := w.1
        simp only [w_L_load, w_X4_load, q.t1, q.r1_4, q.t114, hty_sI, hln_sI, hR_sI, cnd1, cnd2, b2i_0, b2i_1, b2i_z, if_true, if_false, true_and, and_true, true_implies, false_implies, ne_eq, not_false_eq_true, not_true_eq_false, eq_self, exIA, exIS, exAI, exAS, exSI, exSA, true_or, or_true, false_or, or_false, Nat.reduceEqDiff, Bool.true_and, Bool.and_true, Bool.false_and, Bool.and_false, Bool.true_eq_false, Bool.false_eq_true, i10, i20, i30, vp0, nc0]
        refine cls X m o _ w (fun X1 w1 hr ec h60 => ?_)
        have q1 := w1.1
        have e2 : hI X1 2 0 = Int32.ofNat n := w1.2.1.1.cn hn
        have e24 : ((24 : Int32) < Int32.ofNat (n + l.length)) = (24 < n + l.length) := ltk (i := 24) (by decide) (by omega)
        have hb24 : (24 < n + l.length) = False := by simp only [eq_iff_iff, iff_true, iff_false]; omega
        simp only [q1.t1, q1.r1_0, q1.r1_4, q1.t2, q1.t114, e2, ec, es, e24, hb24, hty_sI, hln_sI, hR_sI, cnd1, cnd2, b2i_0, b2i_1, b2i_z, if_true, if_false, true_and, and_true, true_implies, false_implies, ne_eq, not_false_eq_true, not_true_eq_false, eq_self, exIA, exIS, exAI, exAS, exSI, exSA, true_or, or_true, false_or, or_false, Nat.reduceEqDiff, Bool.true_and, Bool.and_true, Bool.false_and, Bool.and_false, Bool.true_eq_false, Bool.false_eq_true, i10, i20, i30, vp0, nc0]
        refine c_hs q1 h60 hr hok ?_
        simp only [hs, Bool.not_false, q1.t1, hty_sI, hln_sI, hR_sI, cnd1, cnd2, b2i_0, b2i_1, b2i_z, if_true, if_false, true_and, and_true, true_implies, false_implies, ne_eq, not_false_eq_true, not_true_eq_false, eq_self, exIA, exIS, exAI, exAS, exSI, exSA, true_or, or_true, false_or, or_false, Nat.reduceEqDiff, Bool.true_and, Bool.and_true, Bool.false_and, Bool.and_false, Bool.true_eq_false, Bool.false_eq_true, i10, i20, i30, vp0, nc0]
        exact k _ _ w1 (fun e => absurd e (by decide))
      · have q := w.1
        have tm := w.txM iS
        simp only [w_X5_load, w_X5_isWhole, q.t123, hty_sI, hln_sI, hR_sI, cnd1, cnd2, b2i_0, b2i_1, b2i_z, if_true, if_false, true_and, and_true, true_implies, false_implies, ne_eq, not_false_eq_true, not_true_eq_false, eq_self, exIA, exIS, exAI, exAS, exSI, exSA, true_or, or_true, false_or, or_false, Nat.reduceEqDiff, Bool.true_and, Bool.and_true, Bool.false_and, Bool.and_false, Bool.true_eq_false, Bool.false_eq_true, i10, i20, i30, vp0, nc0]
        refine M_iw tm (X := sI (sI X 123 8 0) 123 9 0) ⟨(AgM.rf.f (by decide) (by decide)).f (by decide) (by decide), by rw [sI_nk (by decide)]; exact sI_at, sI_at⟩ (fun X1 e => absurd (hw.symm.trans e) (fun h => nomatch h)) (fun l' X1 e m1 => ?_)
        have q1 := m1.q tm
        have w1 := w.agM m1.1
        have e0 : hI X1 124 366 = Int32.ofNat n := (w1.rr 366 (by decide)).trans hn.1
        have hb' : (sgOk l && decide (n + l.length ≤ 24)) = false := by rw [hs, Bool.false_and]
        simp only [w_X5_canLoad, w_X5_load_24, q1.t123, q1.r123_0, q1.t124, q1.n124, vp366, nc366, e0, hty_sI, hln_sI, hR_sI, cnd1, cnd2, b2i_0, b2i_1, b2i_z, if_true, if_false, true_and, and_true, true_implies, false_implies, ne_eq, not_false_eq_true, not_true_eq_false, eq_self, exIA, exIS, exAI, exAS, exSI, exSA, true_or, or_true, false_or, or_false, Nat.reduceEqDiff, Bool.true_and, Bool.and_true, Bool.false_and, Bool.and_false, Bool.true_eq_false, Bool.false_eq_true, i10, i20, i30, vp0, nc0]
        refine m_cl16 tm l n hn2 hw (m1.sp (j := 0)) (fun X2 j m2 => ?_)
        have q2 := m2.q tm
        have w2 := w.agM m2.1
        simp only [hb', q2.t123, rf0 q2, rf2 q2, hty_sI, hln_sI, hR_sI, cnd1, cnd2, b2i_0, b2i_1, b2i_z, if_true, if_false, true_and, and_true, true_implies, false_implies, ne_eq, not_false_eq_true, not_true_eq_false, eq_self, exIA, exIS, exAI, exAS, exSI, exSA, true_or, or_true, false_or, or_false, Nat.reduceEqDiff, Bool.true_and, Bool.and_true, Bool.false_and, Bool.and_false, Bool.true_eq_false, Bool.false_eq_true, i10, i20, i30, vp0, nc0]
        exact k _ _ w2.thr (fun e => absurd e (by decide))
    · have iA := addL_inv l _ n i hb hok hs
      refine ⟨0, Int32.ofNat (n + l.length), clrS (addL (zG σ) n l, (pushS σ).2), (iS.push iA).clr, fun X m o K w k => ?_, fun X d o K w k => ?_⟩
      · have q := w.1
        simp only [w_L_load, w_X4_load, q.t1, q.r1_4, q.t114, hty_sI, hln_sI, hR_sI, cnd1, cnd2, b2i_0, b2i_1, b2i_z, if_true, if_false, true_and, and_true, true_implies, false_implies, ne_eq, not_false_eq_true, not_true_eq_false, eq_self, exIA, exIS, exAI, exAS, exSI, exSA, true_or, or_true, false_or, or_false, Nat.reduceEqDiff, Bool.true_and, Bool.and_true, Bool.false_and, Bool.and_false, Bool.true_eq_false, Bool.false_eq_true, i10, i20, i30, vp0, nc0]
        refine cls X m o _ w (fun X1 w1 hr ec h60 => ?_)
        have q1 := w1.1
        have e2 : hI X1 2 0 = Int32.ofNat n := w1.2.1.1.cn hn
        have e24 : ((24 : Int32) < Int32.ofNat (n + l.length)) = (24 < n + l.length) := ltk (i := 24) (by decide) (by omega)
        have hb24 : (24 < n + l.length) = False := by simp only [eq_iff_iff, iff_true, iff_false]; omega
        simp only [q1.t1, q1.r1_0, q1.r1_4, q1.t2, q1.t114, e2, ec, es, e24, hb24, hty_sI, hln_sI, hR_sI, cnd1, cnd2, b2i_0, b2i_1, b2i_z, if_true, if_false, true_and, and_true, true_implies, false_implies, ne_eq, not_false_eq_true, not_true_eq_false, eq_self, exIA, exIS, exAI, exAS, exSI, exSA, true_or, or_true, false_or, or_false, Nat.reduceEqDiff, Bool.true_and, Bool.and_true, Bool.false_and, Bool.and_false, Bool.true_eq_false, Bool.false_eq_true, i10, i20, i30, vp0, nc0]
        refine c_hs q1 h60 hr hok ?_
        simp only [hs, Bool.not_true, q1.t1, q1.r1_0, q1.r1_1, q1.t14, q1.t2, hty_sI, hln_sI, hR_sI, cnd1, cnd2, b2i_0, b2i_1, b2i_z, if_true, if_false, true_and, and_true, true_implies, false_implies, ne_eq, not_false_eq_true, not_true_eq_false, eq_self, exIA, exIS, exAI, exAS, exSI, exSA, true_or, or_true, false_or, or_false, Nat.reduceEqDiff, Bool.true_and, Bool.and_true, Bool.false_and, Bool.and_false, Bool.true_eq_false, Bool.false_eq_true, i10, i20, i30, vp0, nc0]
        refine s_pushF w1 (fun X2 w2 g2 => ?_)
        have q2 := w2.1
        try simp only [q2.t1, hty_sI, hln_sI, hR_sI, cnd1, cnd2, b2i_0, b2i_1, b2i_z, if_true, if_false, true_and, and_true, true_implies, false_implies, ne_eq, not_false_eq_true, not_true_eq_false, eq_self, exIA, exIS, exAI, exAS, exSI, exSA, true_or, or_true, false_or, or_false, Nat.reduceEqDiff, Bool.true_and, Bool.and_true, Bool.false_and, Bool.and_false, Bool.true_eq_false, Bool.false_eq_true, i10, i20, i30, vp0, nc0]
        refine c_ld (c := pushS σ) h60 l w2 i rfl hb (rowsAt.cg g2 l 0 hr) hok hs (fun X3 w3 => ?_)
        have q3 := w3.1
        simp only [q3.t129, q3.n129, hty_sI, hln_sI, hR_sI, cnd1, cnd2, b2i_0, b2i_1, b2i_z, if_true, if_false, true_and, and_true, true_implies, false_implies, ne_eq, not_false_eq_true, not_true_eq_false, eq_self, exIA, exIS, exAI, exAS, exSI, exSA, true_or, or_true, false_or, or_false, Nat.reduceEqDiff, Bool.true_and, Bool.and_true, Bool.false_and, Bool.and_false, Bool.true_eq_false, Bool.false_eq_true, i10, i20, i30, vp0, nc0]
        exact k _ _ w3.out (fun _ => rfl)
      · have q := w.1
        have tm := w.txM iS
        simp only [w_X5_load, w_X5_isWhole, q.t123, hty_sI, hln_sI, hR_sI, cnd1, cnd2, b2i_0, b2i_1, b2i_z, if_true, if_false, true_and, and_true, true_implies, false_implies, ne_eq, not_false_eq_true, not_true_eq_false, eq_self, exIA, exIS, exAI, exAS, exSI, exSA, true_or, or_true, false_or, or_false, Nat.reduceEqDiff, Bool.true_and, Bool.and_true, Bool.false_and, Bool.and_false, Bool.true_eq_false, Bool.false_eq_true, i10, i20, i30, vp0, nc0]
        refine M_iw tm (X := sI (sI X 123 8 0) 123 9 0) ⟨(AgM.rf.f (by decide) (by decide)).f (by decide) (by decide), by rw [sI_nk (by decide)]; exact sI_at, sI_at⟩ (fun X1 e => absurd (hw.symm.trans e) (fun h => nomatch h)) (fun l' X1 e m1 => ?_)
        have q1 := m1.q tm
        have w1 := w.agM m1.1
        have e0 : hI X1 124 366 = Int32.ofNat n := (w1.rr 366 (by decide)).trans hn.1
        have hb' : (sgOk l && decide (n + l.length ≤ 24)) = true := by rw [hs, decide_eq_true hb]; rfl
        simp only [w_X5_canLoad, w_X5_load_24, q1.t123, q1.r123_0, q1.t124, q1.n124, vp366, nc366, e0, hty_sI, hln_sI, hR_sI, cnd1, cnd2, b2i_0, b2i_1, b2i_z, if_true, if_false, true_and, and_true, true_implies, false_implies, ne_eq, not_false_eq_true, not_true_eq_false, eq_self, exIA, exIS, exAI, exAS, exSI, exSA, true_or, or_true, false_or, or_false, Nat.reduceEqDiff, Bool.true_and, Bool.and_true, Bool.false_and, Bool.and_false, Bool.true_eq_false, Bool.false_eq_true, i10, i20, i30, vp0, nc0]
        refine m_cl16 tm l n hn2 hw (m1.sp (j := 0)) (fun X2 j m2 => ?_)
        have q2 := m2.q tm
        have w2 := w.agM m2.1
        simp only [hb', q2.t123, rf0 q2, rf2 q2, hty_sI, hln_sI, hR_sI, cnd1, cnd2, b2i_0, b2i_1, b2i_z, if_true, if_false, true_and, and_true, true_implies, false_implies, ne_eq, not_false_eq_true, not_true_eq_false, eq_self, exIA, exIS, exAI, exAS, exSI, exSA, true_or, or_true, false_or, or_false, Nat.reduceEqDiff, Bool.true_and, Bool.and_true, Bool.false_and, Bool.and_false, Bool.true_eq_false, Bool.false_eq_true, i10, i20, i30, vp0, nc0]
        refine s_savesF w2.thr (fun X3 w3 gm => ?_)
        have q3 := w3.1
        try simp only [q3.t123, hty_sI, hln_sI, hR_sI, cnd1, cnd2, b2i_0, b2i_1, b2i_z, if_true, if_false, true_and, and_true, true_implies, false_implies, ne_eq, not_false_eq_true, not_true_eq_false, eq_self, exIA, exIS, exAI, exAS, exSI, exSA, true_or, or_true, false_or, or_false, Nat.reduceEqDiff, Bool.true_and, Bool.and_true, Bool.false_and, Bool.and_false, Bool.true_eq_false, Bool.false_eq_true, i10, i20, i30, vp0, nc0]
        have w4 : Wd (sI X3 123 8 0) d (zG σ, (pushS σ).2) (o.1, o.2.1, 0) := w3.agM (AgM.rf.f (by decide) (by decide))
        exact m_l41 iS (pushS σ).2 rfl rfl l (zG σ) n w4 sI_at ((sI_nk (by decide)).trans (gm.2.trans ((sI_nk (by decide)).trans m2.2.2))) i hw hb hs (fun X5 w5 => k _ _ w5 (fun _ => rfl))
end PY
