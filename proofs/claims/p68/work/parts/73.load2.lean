/-! load -/
section PY
variable {X : XH} {c σ : St} {Zz : XH}
theorem nd_36 {K : Int32 → XH → Prop} (q : Shp X) (h : ND X) (k : K 0 X) : (¬ hI X 114 7 = 2 → w_X0_readWhole_36 114 X K) ∧ (hI X 114 7 = 2 → (hR X 114 4 ≠ 0) ∧ w_X4_at (hR X 114 4) (hI X 114 6) X (fun v X8 => ((4 : Int32) ≤ v → K 1 X8) ∧ (¬ ((4 : Int32) ≤ v) → w_X0_readWhole_36 114 X8 K))) := by
  obtain ⟨p, hp, e6, h⟩ := h
  rcases h with h | h | ⟨h, l, hl, el⟩ | ⟨h, ey⟩
  · refine ⟨fun _ => ?_, fun e => absurd (h.symm.trans e) (by decide)⟩
    unfold w_X0_readWhole_36
    rw [h]
    exact ⟨q.t114, fun _ => k, fun e => absurd e (by decide)⟩
  · refine ⟨fun _ => ?_, fun e => absurd (h.symm.trans e) (by decide)⟩
    unfold w_X0_readWhole_36
    rw [h]
    exact ⟨q.t114, fun _ => k, fun e => absurd e (by decide)⟩
  · refine ⟨fun e => absurd h e, fun _ => ?_⟩
    rw [e6, q.r114_4, at_eq q.t118 q.n118 hp (by decide), el]
    have e4 : ((4 : Int32) ≤ Int32.ofNat l) = (4 ≤ l) := of_le (i := 4) (by decide) (by omega)
    refine ⟨by decide, fun h4 => absurd (e4 ▸ h4) (by omega), fun _ => ?_⟩
    unfold w_X0_readWhole_36
    rw [h]
    exact ⟨q.t114, fun _ => k, fun e => absurd e (by decide)⟩
  · refine ⟨fun _ => ?_, fun e => absurd (h.symm.trans e) (by decide)⟩
    unfold w_X0_readWhole_36
    rw [h, e6, q.r114_5, at_eq q.t119 q.n119 hp (by decide), ey]
    exact ⟨q.t114, fun e => absurd rfl e, fun _ => ⟨by decide, fun _ => k, fun e => absurd (show (0 : Int32) < 1 by decide) e⟩⟩
theorem es_36 {K : Int32 → XH → Prop} {pL : Nat} (q : Shp X) (h : EndS X pL) (k : K 1 X) : (¬ hI X 114 7 = 2 → w_X0_readWhole_36 114 X K) ∧ (hI X 114 7 = 2 → (hR X 114 4 ≠ 0) ∧ w_X4_at (hR X 114 4) (hI X 114 6) X (fun v X8 => ((4 : Int32) ≤ v → K 1 X8) ∧ (¬ ((4 : Int32) ≤ v) → w_X0_readWhole_36 114 X8 K))) := by
  obtain ⟨hp, e6, h⟩ := h
  rcases h with ⟨h, l, h1, h2, el⟩ | ⟨h, l, h1, h2, el⟩
  · refine ⟨fun e => absurd h e, fun _ => ?_⟩
    rw [e6, q.r114_4, at_eq q.t118 q.n118 hp (by decide), el]
    have e4 : ((4 : Int32) ≤ Int32.ofNat l) = (4 ≤ l) := of_le (i := 4) (by decide) (by omega)
    exact ⟨by decide, fun _ => k, fun h4 => absurd (e4.symm ▸ h1) h4⟩
  · refine ⟨fun _ => ?_, fun e => absurd (h.symm.trans e) (by decide)⟩
    unfold w_X0_readWhole_36
    rw [h, e6, q.r114_5, at_eq q.t119 q.n119 hp (by decide), el]
    have e4 : (Int32.ofNat l < (1 : Int32)) = (l < 1) := ltk (k := 1) (by omega) (by decide)
    exact ⟨q.t114, fun e => absurd rfl e, fun _ => ⟨by decide, fun h4 => absurd (e4 ▸ h4) (by omega), fun _ => k⟩⟩
theorem c_rw {K : Int32 → XH → Prop} (w : Wd X σ Zz) {B : Nat} (iS : InvS B σ) (kn : (whR (zN σ) (uT σ) 61 0).2 = none → ∀ X1, AgT X X1 → K 0 X1) (ks : ∀ l X1, (whR (zN σ) (uT σ) 61 0).2 = some l → Fin X X1 0 rw0 l → K 1 X1) : w_X0_readWhole 114 X K := by
  have q := w.1
  obtain ⟨h1, h2, h3⟩ := w.2.1.2.2.2
  unfold w_X0_readWhole
  refine ⟨q.t114, R2E w iS (fun X1 e a hnd => ?_) (fun l X1 e fn => ?_)⟩
  · have q1 := a.1.shp q
    have e1 : hI X1 114 1 = Int32.ofNat (zN σ) := a.2.1.trans h1
    rw [e1]
    refine ⟨q1.t114, fun hle => ?_, fun _ => kn e X1 a⟩
    rcases hnd with hnd | hnd
    · rw [of_le (show zN σ < 4096 by omega) (by omega)] at hle
      omega
    · exact nd_36 q1 hnd (kn e X1 a)
  · have q1 := fn.1.1.shp q
    have e1 : hI X1 114 1 = Int32.ofNat (zN σ) := fn.1.2.1.trans h1
    rw [e1]
    obtain ⟨pL, -, hE⟩ := fn.2.1
    refine ⟨q1.t114, fun _ => es_36 q1 hE (ks l X1 e fn), fun hne => ?_⟩
    rw [of_le (show zN σ < 4096 by omega) (show zN σ < 4096 by omega)] at hne
    omega
theorem c_hs {K : Int32 → XH → Prop} {l : List R4} (q : Shp X) (h60 : l.length ≤ 60) (hr : rowsAt X 0 l) (ho : okL l) (k : K (b2i (!(sgOk l))) X) : w_X0_hasSighBeyondLips 114 (Int32.ofNat l.length) X K := by
  unfold w_X0_hasSighBeyondLips
  try simp only [q.t114, hty_sI, hln_sI, hR_sI, cnd1, cnd2, b2i_0, b2i_1, b2i_z, if_true, if_false, true_and, and_true, true_implies, false_implies, ne_eq, not_false_eq_true, not_true_eq_false, eq_self, exIA, exIS, exAI, exAS, exSI, exSA, true_or, or_true, false_or, or_false, Nat.reduceEqDiff, Bool.true_and, Bool.and_true, Bool.false_and, Bool.and_false, Bool.true_eq_false, Bool.false_eq_true, i10, i20, i30, vp0, nc0]
  intro P hP
  refine c_sbl (cnt := l.length) q h60 (fun j v1 v2 hj e1 e2 h1 h2 kk => hP _ _ _ _ ?_) (fun kk => hP _ _ _ _ ?_) l 0 (by omega) hr ho k
  · simp only [q.t114, q.r114_4, q.r114_5, ltl hj (show l.length < 4096 by omega), at_eq q.t119 q.n119 (show j < 60 by omega) (show 60 < 4096 by decide), at_eq q.t118 q.n118 (show j < 60 by omega) (show 60 < 4096 by decide), e1, e2, of_le h1 h2, of_s, hty_sI, hln_sI, hR_sI, cnd1, cnd2, b2i_0, b2i_1, b2i_z, if_true, if_false, true_and, and_true, true_implies, false_implies, ne_eq, not_false_eq_true, not_true_eq_false, eq_self, exIA, exIS, exAI, exAS, exSI, exSA, true_or, or_true, false_or, or_false, Nat.reduceEqDiff, Bool.true_and, Bool.and_true, Bool.false_and, Bool.and_false, Bool.true_eq_false, Bool.false_eq_true, i10, i20, i30, vp0, nc0]
    exact kk
  · simp only [q.t114, ltt (show l.length < 4096 by omega), hty_sI, hln_sI, hR_sI, cnd1, cnd2, b2i_0, b2i_1, b2i_z, if_true, if_false, true_and, and_true, true_implies, false_implies, ne_eq, not_false_eq_true, not_true_eq_false, eq_self, exIA, exIS, exAI, exAS, exSI, exSA, true_or, or_true, false_or, or_false, Nat.reduceEqDiff, Bool.true_and, Bool.and_true, Bool.false_and, Bool.and_false, Bool.true_eq_false, Bool.false_eq_true, i10, i20, i30, vp0, nc0]
    exact kk
theorem rf_load_0 {n : Nat} {B : Nat} (iS : InvS B σ) (hw : (whR (zN σ) (uT σ) 61 0).2 = none) : Op (fun X K => w_L_load 1 X K) σ (-3) σ := by
  intro X Zz K w k
  have q := w.1
  simp only [w_L_load, w_X4_load, q.t1, q.r1_4, q.t114, hty_sI, hln_sI, hR_sI, cnd1, cnd2, b2i_0, b2i_1, b2i_z, if_true, if_false, true_and, and_true, true_implies, false_implies, ne_eq, not_false_eq_true, not_true_eq_false, eq_self, exIA, exIS, exAI, exAS, exSI, exSA, true_or, or_true, false_or, or_false, Nat.reduceEqDiff, Bool.true_and, Bool.and_true, Bool.false_and, Bool.and_false, Bool.true_eq_false, Bool.false_eq_true, i10, i20, i30, vp0, nc0]
  refine c_rw w iS (fun e X1 a => ?_) (fun l X1 e => absurd (hw.symm.trans e) (fun h => nomatch h))
  simp only [(w.agT a).1.t1, hty_sI, hln_sI, hR_sI, cnd1, cnd2, b2i_0, b2i_1, b2i_z, if_true, if_false, true_and, and_true, true_implies, false_implies, ne_eq, not_false_eq_true, not_true_eq_false, eq_self, exIA, exIS, exAI, exAS, exSI, exSA, true_or, or_true, false_or, or_false, Nat.reduceEqDiff, Bool.true_and, Bool.and_true, Bool.false_and, Bool.and_false, Bool.true_eq_false, Bool.false_eq_true, i10, i20, i30, vp0, nc0]
  exact k _ (w.agT a)
theorem ld_rw {B : Nat} {l : List R4} {KK : Int32 → XH → Prop} (iS : InvS B σ) (hw : (whR (zN σ) (uT σ) 61 0).2 = some l) (w : Wd X σ Zz) (kk : ∀ X1, Wd X1 σ Zz → rowsAt X1 0 l → hI X1 114 6 + 1 = Int32.ofNat l.length → l.length ≤ 60 → KK 1 X1) : w_X0_readWhole 114 X KK := c_rw w iS (fun e => absurd (hw.symm.trans e) (fun h => nomatch h)) (fun l' X1 e fn => by
  have el : l = l' := Option.some.inj (hw.symm.trans e)
  subst el
  obtain ⟨pL, g1, g2⟩ := fn.2.1
  refine kk X1 (w.agT fn.1) (rows_of l rw0 0 fn.2.2) ?_ ?_
  · rw [g2.2.1, of_s, g1, Nat.zero_add]
  · have := g2.1
    omega)
theorem rf_load_1 {n : Nat} {B : Nat} {l : List R4} (iS : InvS B σ) (i : Inv (zG σ) n) (hw : (whR (zN σ) (uT σ) 61 0).2 = some l) (hb : ¬ n + l.length ≤ 24) : Op (fun X K => w_L_load 1 X K) σ (-4) σ := by
  intro X Zz K w k
  have hn := i.cn
  have hn2 := hn.2
  have q := w.1
  have es : Int32.ofNat n + Int32.ofNat l.length = Int32.ofNat (n + l.length) := (Int32.ofNat_add _ _).symm
  simp only [w_L_load, w_X4_load, q.t1, q.r1_4, q.t114, hty_sI, hln_sI, hR_sI, cnd1, cnd2, b2i_0, b2i_1, b2i_z, if_true, if_false, true_and, and_true, true_implies, false_implies, ne_eq, not_false_eq_true, not_true_eq_false, eq_self, exIA, exIS, exAI, exAS, exSI, exSA, true_or, or_true, false_or, or_false, Nat.reduceEqDiff, Bool.true_and, Bool.and_true, Bool.false_and, Bool.and_false, Bool.true_eq_false, Bool.false_eq_true, i10, i20, i30, vp0, nc0]
  refine ld_rw iS hw w (fun X1 w1 hr ec h60 => ?_)
  have q1 := w1.1
  have e2 : hI X1 2 0 = Int32.ofNat n := w1.2.1.1.cn hn
  have e24 : ((24 : Int32) < Int32.ofNat (n + l.length)) = True := (ltk (i := 24) (by decide) (by omega)).trans (eq_true (by omega))
  simp only [q1.t1, q1.r1_0, q1.r1_4, q1.t2, q1.t114, e2, ec, es, e24, hty_sI, hln_sI, hR_sI, cnd1, cnd2, b2i_0, b2i_1, b2i_z, if_true, if_false, true_and, and_true, true_implies, false_implies, ne_eq, not_false_eq_true, not_true_eq_false, eq_self, exIA, exIS, exAI, exAS, exSI, exSA, true_or, or_true, false_or, or_false, Nat.reduceEqDiff, Bool.true_and, Bool.and_true, Bool.false_and, Bool.and_false, Bool.true_eq_false, Bool.false_eq_true, i10, i20, i30, vp0, nc0]
  exact k _ w1
theorem rf_load_2 {n : Nat} {B : Nat} {l : List R4} (iS : InvS B σ) (i : Inv (zG σ) n) (hw : (whR (zN σ) (uT σ) 61 0).2 = some l) (hb : n + l.length ≤ 24) (hs : sgOk l = false) : Op (fun X K => w_L_load 1 X K) σ (-4) σ := by
  intro X Zz K w k
  have hn := i.cn
  have hn2 := hn.2
  have q := w.1
  obtain ⟨hok, hlen, hpos⟩ := wh_ok 61 0 l (Nat.zero_le _) hw
  have es : Int32.ofNat n + Int32.ofNat l.length = Int32.ofNat (n + l.length) := (Int32.ofNat_add _ _).symm
  simp only [w_L_load, w_X4_load, q.t1, q.r1_4, q.t114, hty_sI, hln_sI, hR_sI, cnd1, cnd2, b2i_0, b2i_1, b2i_z, if_true, if_false, true_and, and_true, true_implies, false_implies, ne_eq, not_false_eq_true, not_true_eq_false, eq_self, exIA, exIS, exAI, exAS, exSI, exSA, true_or, or_true, false_or, or_false, Nat.reduceEqDiff, Bool.true_and, Bool.and_true, Bool.false_and, Bool.and_false, Bool.true_eq_false, Bool.false_eq_true, i10, i20, i30, vp0, nc0]
  refine ld_rw iS hw w (fun X1 w1 hr ec h60 => ?_)
  have q1 := w1.1
  have e2 : hI X1 2 0 = Int32.ofNat n := w1.2.1.1.cn hn
  have e24 : ((24 : Int32) < Int32.ofNat (n + l.length)) = False := (ltk (i := 24) (by decide) (by omega)).trans (eq_false (by omega))
  simp only [q1.t1, q1.r1_0, q1.r1_4, q1.t2, q1.t114, e2, ec, es, e24, hty_sI, hln_sI, hR_sI, cnd1, cnd2, b2i_0, b2i_1, b2i_z, if_true, if_false, true_and, and_true, true_implies, false_implies, ne_eq, not_false_eq_true, not_true_eq_false, eq_self, exIA, exIS, exAI, exAS, exSI, exSA, true_or, or_true, false_or, or_false, Nat.reduceEqDiff, Bool.true_and, Bool.and_true, Bool.false_and, Bool.and_false, Bool.true_eq_false, Bool.false_eq_true, i10, i20, i30, vp0, nc0]
  refine c_hs q1 h60 hr hok ?_
  simp only [hs, Bool.not_false, q1.t1, hty_sI, hln_sI, hR_sI, cnd1, cnd2, b2i_0, b2i_1, b2i_z, if_true, if_false, true_and, and_true, true_implies, false_implies, ne_eq, not_false_eq_true, not_true_eq_false, eq_self, exIA, exIS, exAI, exAS, exSI, exSA, true_or, or_true, false_or, or_false, Nat.reduceEqDiff, Bool.true_and, Bool.and_true, Bool.false_and, Bool.and_false, Bool.true_eq_false, Bool.false_eq_true, i10, i20, i30, vp0, nc0]
  exact k _ w1
theorem ok_load {n : Nat} {B : Nat} {l : List R4} (iS : InvS B σ) (i : Inv (zG σ) n) (hw : (whR (zN σ) (uT σ) 61 0).2 = some l) (hb : n + l.length ≤ 24) (hs : sgOk l = true) : Op (fun X K => w_L_load 1 X K) σ (Int32.ofNat (n + l.length)) (clrS (addL (zG σ) n l, (pushS σ).2)) := by
  intro X Zz K w k
  have hn := i.cn
  have hn2 := hn.2
  have q := w.1
  obtain ⟨hok, hlen, hpos⟩ := wh_ok 61 0 l (Nat.zero_le _) hw
  have es : Int32.ofNat n + Int32.ofNat l.length = Int32.ofNat (n + l.length) := (Int32.ofNat_add _ _).symm
  simp only [w_L_load, w_X4_load, q.t1, q.r1_4, q.t114, hty_sI, hln_sI, hR_sI, cnd1, cnd2, b2i_0, b2i_1, b2i_z, if_true, if_false, true_and, and_true, true_implies, false_implies, ne_eq, not_false_eq_true, not_true_eq_false, eq_self, exIA, exIS, exAI, exAS, exSI, exSA, true_or, or_true, false_or, or_false, Nat.reduceEqDiff, Bool.true_and, Bool.and_true, Bool.false_and, Bool.and_false, Bool.true_eq_false, Bool.false_eq_true, i10, i20, i30, vp0, nc0]
  refine ld_rw iS hw w (fun X1 w1 hr ec h60 => ?_)
  have q1 := w1.1
  have e2 : hI X1 2 0 = Int32.ofNat n := w1.2.1.1.cn hn
  have e24 : ((24 : Int32) < Int32.ofNat (n + l.length)) = False := (ltk (i := 24) (by decide) (by omega)).trans (eq_false (by omega))
  simp only [q1.t1, q1.r1_0, q1.r1_4, q1.t2, q1.t114, e2, ec, es, e24, hty_sI, hln_sI, hR_sI, cnd1, cnd2, b2i_0, b2i_1, b2i_z, if_true, if_false, true_and, and_true, true_implies, false_implies, ne_eq, not_false_eq_true, not_true_eq_false, eq_self, exIA, exIS, exAI, exAS, exSI, exSA, true_or, or_true, false_or, or_false, Nat.reduceEqDiff, Bool.true_and, Bool.and_true, Bool.false_and, Bool.and_false, Bool.true_eq_false, Bool.false_eq_true, i10, i20, i30, vp0, nc0]
  refine c_hs q1 h60 hr hok ?_
  simp only [hs, Bool.not_true, q1.t1, q1.r1_0, q1.r1_1, q1.t14, q1.t2, hty_sI, hln_sI, hR_sI, cnd1, cnd2, b2i_0, b2i_1, b2i_z, if_true, if_false, true_and, and_true, true_implies, false_implies, ne_eq, not_false_eq_true, not_true_eq_false, eq_self, exIA, exIS, exAI, exAS, exSI, exSA, true_or, or_true, false_or, or_false, Nat.reduceEqDiff, Bool.true_and, Bool.and_true, Bool.false_and, Bool.and_false, Bool.true_eq_false, Bool.false_eq_true, i10, i20, i30, vp0, nc0]
  refine s_pushF w1 (fun X2 w2 g2 => ?_)
  have q2 := w2.1
  try simp only [q2.t1, hty_sI, hln_sI, hR_sI, cnd1, cnd2, b2i_0, b2i_1, b2i_z, if_true, if_false, true_and, and_true, true_implies, false_implies, ne_eq, not_false_eq_true, not_true_eq_false, eq_self, exIA, exIS, exAI, exAS, exSI, exSA, true_or, or_true, false_or, or_false, Nat.reduceEqDiff, Bool.true_and, Bool.and_true, Bool.false_and, Bool.and_false, Bool.true_eq_false, Bool.false_eq_true, i10, i20, i30, vp0, nc0]
  exact c_ld (c := pushS σ) h60 l w2 i rfl hb (rowsAt.cg g2 l 0 hr) hok hs (fun X3 w3 => k _ w3)
end PY
