/-! slots, going back, undoing, the buffer's signs, the answers that are never refused -/
section PO
theorem BL_s : ∀ k, k < 2 → 89 + 12 * k ∈ BL := by decide
theorem Shp.r88 {X : XH} {k : Nat} (q : Shp X) (hk : k < 2) : hR X 88 k = 89 + 12 * k := by
  rcases (show k = 0 ∨ k = 1 by omega) with rfl | rfl
  · exact q.r88_0
  · exact q.r88_1
theorem tAt2_eq {X : XH} {k : Nat} {K : Nat → XH → Prop} (q : Shp X) (hk : k < 2) : w_X4_treatyAt 88 (Int32.ofNat k) X K = K (89 + 12 * k) X := by
  have hne : ¬ (89 + 12 * k = 0) := by omega
  unfold w_X4_treatyAt
  simp only [q.t88, q.n88, of_nn (show k < 4096 by omega), of_le (show 2 < 4096 by decide) (show k < 4096 by omega), vp_of hk (show 2 < 4096 by decide), nc (show k < 4096 by omega), le_f hk, q.r88 hk, hne, ne_eq, not_false_eq_true, true_and, false_implies, true_implies, show (100 ≤ 107) = True from by decide, show (107 = 104 + 3) = True from by decide]
theorem dB_rg {b lo hi : Nat} (h : lo ≤ b) (h' : b + 11 ≤ hi) : ∀ a, dRg lo hi a = false → dB b a = false := fun a ha => by
  have := dRg_f ha
  unfold dB
  have h9 : ¬ (b ≤ a ∧ a < b + 12) := by omega
  simpa using h9
def keepS (σ : St) (k : Nat) : St := (σ.1, σ.2.1, σ.2.2.1, upr σ.2.2.2.1 k 1, (fun j => if j = k then σ.1 else σ.2.2.2.2.1 j), σ.2.2.2.2.2)
theorem InvS.keep {B x : Nat} {σ : St} (iS : InvS B σ) : InvS B (keepS σ x) := by
  obtain ⟨i1, i2, i3, i4⟩ := iS
  refine ⟨i1, i2, fun k hk e => ?_, i4⟩
  show IvG B ((fun j => if j = x then σ.1 else σ.2.2.2.2.1 j) k)
  by_cases e2 : k = x
  · simp only [e2, if_true]
    exact i1
  · simp only [e2, if_false]
    have e' : upr σ.2.2.2.1 x 1 k = 1 := e
    rw [upr_ne e2] at e'
    exact i3 k hk e'
theorem rf_keep_0 {σ : St} {a : Int32} (h0 : inG a 0 1 = false) : Op (fun X K => w_L_keep 1 a X K) σ (-3) σ := by
  intro X Zz K w k
  have q := w.1
  simp only [w_L_keep, w_X4_keep, q.t1, e_checkRange, h0, hty_sI, hln_sI, hR_sI, cnd1, cnd2, b2i_0, b2i_1, b2i_z, if_true, if_false, true_and, and_true, true_implies, false_implies, ne_eq, not_false_eq_true, not_true_eq_false, eq_self, exIA, exIS, exAI, exAS, exSI, exSA, true_or, or_true, false_or, or_false, Nat.reduceEqDiff, Bool.true_and, Bool.and_true, Bool.false_and, Bool.and_false, Bool.true_eq_false, Bool.false_eq_true, i10, i20, i30, vp0, nc0]
  exact k _ w
theorem ok_keep {σ : St} {x : Nat} (hx2 : x < 2) : Op (fun X K => w_L_keep 1 (Int32.ofNat x) X K) σ 1 (keepS σ x) := by
  intro X Zz K w k
  have h0 : inG (Int32.ofNat x) 0 1 = true := inG_of (lo := 0) (hi := 1) (by omega) (by omega) (by decide)
  have q := w.1
  simp only [w_L_keep, w_X4_keep, q.t1, q.r1_0, q.r1_2, q.r1_3, q.t113, q.n113, e_checkRange, h0, tAt2_eq q hx2, of_nn (show x < 4096 by omega), of_le (show 2 < 4096 by decide) (show x < 4096 by omega), le_f hx2, q.bt (BL_s x hx2), show (100 ≤ 101) = True from by decide, hty_sI, hln_sI, hR_sI, cnd1, cnd2, b2i_0, b2i_1, b2i_z, if_true, if_false, true_and, and_true, true_implies, false_implies, ne_eq, not_false_eq_true, not_true_eq_false, eq_self, exIA, exIS, exAI, exAS, exSI, exSA, true_or, or_true, false_or, or_false, Nat.reduceEqDiff, Bool.true_and, Bool.and_true, Bool.false_and, Bool.and_false, Bool.true_eq_false, Bool.false_eq_true, i10, i20, i30, vp0, nc0]
  refine s_becomeLike q (BL_s x hx2) (by decide) (by omega) w.2.1.1 (fun X1 a t => ?_)
  have q1 := a.shp q
  simp only [q1.t1, q1.r1_3, q1.t113, q1.n113, vp_of hx2 (show 2 < 4096 by decide), nc (show x < 4096 by omega), hty_sI, hln_sI, hR_sI, cnd1, cnd2, b2i_0, b2i_1, b2i_z, if_true, if_false, true_and, and_true, true_implies, false_implies, ne_eq, not_false_eq_true, not_true_eq_false, eq_self, exIA, exIS, exAI, exAS, exSI, exSA, true_or, or_true, false_or, or_false, Nat.reduceEqDiff, Bool.true_and, Bool.and_true, Bool.false_and, Bool.and_false, Bool.true_eq_false, Bool.false_eq_true, i10, i20, i30, vp0, nc0]
  refine k _ (w.slo (kp := upr σ.2.2.2.1 x 1) (sl := fun j => if j = x then σ.1 else σ.2.2.2.2.1 j) (((a.fr q).wk (dB_rg (by omega) (by omega))).tr ⟨q1, rfl, rfl, fun y hy => ⟨sI_ne (fun e => by rw [e] at hy; revert hy; decide), rfl⟩⟩) (fun j hj => ?_))
  obtain ⟨g1, g2, g3⟩ := w.2.1.2.2.1 j hj
  have hd : dB (89 + 12 * x) 113 = false := by
    unfold dB
    have : ¬ (113 < 89 + 12 * x + 12) := by omega
    simp [this]
  have e113 : ∀ y, hI X1 113 y = hI X 113 y := fun y => by rw [a.2.2.2.2.2.2 113 hd]
  by_cases e : j = x
  · subst e
    refine ⟨by rw [sI_at, upr_eq], Or.inr upr_eq, fun _ => ?_⟩
    simp only [if_true]
    intro y z hy
    have := (okT_j hy).1
    rw [sI_ne (by omega)]
    exact t y z hy
  · refine ⟨by rw [sI_nk e, upr_ne e, e113]; exact g1, by rw [upr_ne e]; exact g2, fun h => ?_⟩
    rw [upr_ne e] at h
    simp only [e, if_false]
    intro y z hy
    have hy12 := (okT_j hy).1
    rw [sI_ne (by omega), a.2.2.2.2.2.2 _ (dB_out (BL_s x hx2) (BL_s j hj) (by omega) hy12)]
    exact g3 h y z hy
theorem e_hasSnapshot {X : XH} {kp : Row} {sl : Nat → Row} {x : Nat} {K : Int32 → XH → Prop} (q : Shp X) (h : SS X kp sl) (hx : x < 2) : w_X4_hasSnapshot 1 (Int32.ofNat x) X K = K (b2i (decide (kp x = 1))) X := by
  obtain ⟨g1, g2, -⟩ := h x hx
  unfold w_X4_hasSnapshot
  simp only [q.t1, q.r1_3, q.t113, q.n113, of_nn (show x < 4096 by omega), of_le (show 2 < 4096 by decide) (show x < 4096 by omega), vp_of hx (show 2 < 4096 by decide), nc (show x < 4096 by omega), le_f hx, g1, show (100 ≤ 101) = True from by decide, hty_sI, hln_sI, hR_sI, cnd1, cnd2, b2i_0, b2i_1, b2i_z, if_true, if_false, true_and, and_true, true_implies, false_implies, ne_eq, not_false_eq_true, not_true_eq_false, eq_self, exIA, exIS, exAI, exAS, exSI, exSA, true_or, or_true, false_or, or_false, Nat.reduceEqDiff, Bool.true_and, Bool.and_true, Bool.false_and, Bool.and_false, Bool.true_eq_false, Bool.false_eq_true, i10, i20, i30, vp0, nc0]
  rcases g2 with e | e
  · rw [e]
    simp [b2i]
  · rw [e]
    simp [b2i]
theorem rf_goBack_0 {σ : St} {a : Int32} (h0 : inG a 0 1 = false) : Op (fun X K => w_L_goBack 1 a X K) σ (-3) σ := by
  intro X Zz K w k
  have q := w.1
  simp only [w_L_goBack, w_X4_goBack, q.t1, e_checkRange, h0, hty_sI, hln_sI, hR_sI, cnd1, cnd2, b2i_0, b2i_1, b2i_z, if_true, if_false, true_and, and_true, true_implies, false_implies, ne_eq, not_false_eq_true, not_true_eq_false, eq_self, exIA, exIS, exAI, exAS, exSI, exSA, true_or, or_true, false_or, or_false, Nat.reduceEqDiff, Bool.true_and, Bool.and_true, Bool.false_and, Bool.and_false, Bool.true_eq_false, Bool.false_eq_true, i10, i20, i30, vp0, nc0]
  exact k _ w
theorem rf_goBack_1 {σ : St} {x : Nat} (hx2 : x < 2) (hk : ¬ zK σ x = 1) : Op (fun X K => w_L_goBack 1 (Int32.ofNat x) X K) σ (-4) σ := by
  intro X Zz K w k
  have h0 : inG (Int32.ofNat x) 0 1 = true := inG_of (lo := 0) (hi := 1) (by omega) (by omega) (by decide)
  have q := w.1
  have hk' : decide (zK σ x = 1) = false := decide_eq_false hk
  simp only [w_L_goBack, w_X4_goBack, q.t1, q.r1_0, q.r1_1, q.t14, e_checkRange, h0, e_hasSnapshot q w.2.1.2.2.1 hx2, hk', hty_sI, hln_sI, hR_sI, cnd1, cnd2, b2i_0, b2i_1, b2i_z, if_true, if_false, true_and, and_true, true_implies, false_implies, ne_eq, not_false_eq_true, not_true_eq_false, eq_self, exIA, exIS, exAI, exAS, exSI, exSA, true_or, or_true, false_or, or_false, Nat.reduceEqDiff, Bool.true_and, Bool.and_true, Bool.false_and, Bool.and_false, Bool.true_eq_false, Bool.false_eq_true, i10, i20, i30, vp0, nc0]
  exact k _ w
theorem ok_goBack {σ : St} {x : Nat} (hx2 : x < 2) (hk : zK σ x = 1) : Op (fun X K => w_L_goBack 1 (Int32.ofNat x) X K) σ 1 (zS σ x, (pushS σ).2) := by
  intro X Zz K w k
  have h0 : inG (Int32.ofNat x) 0 1 = true := inG_of (lo := 0) (hi := 1) (by omega) (by omega) (by decide)
  have q := w.1
  simp only [w_L_goBack, w_X4_goBack, q.t1, q.r1_0, q.r1_1, q.t14, e_checkRange, h0, e_hasSnapshot q w.2.1.2.2.1 hx2, hk, decide_true, hty_sI, hln_sI, hR_sI, cnd1, cnd2, b2i_0, b2i_1, b2i_z, if_true, if_false, true_and, and_true, true_implies, false_implies, ne_eq, not_false_eq_true, not_true_eq_false, eq_self, exIA, exIS, exAI, exAS, exSI, exSA, true_or, or_true, false_or, or_false, Nat.reduceEqDiff, Bool.true_and, Bool.and_true, Bool.false_and, Bool.and_false, Bool.true_eq_false, Bool.false_eq_true, i10, i20, i30, vp0, nc0]
  refine s_push w (fun X1 w1 => ?_)
  have q1 := w1.1
  simp only [q1.t1, q1.r1_0, q1.r1_2, q1.t2, tAt2_eq q1 hx2, hty_sI, hln_sI, hR_sI, cnd1, cnd2, b2i_0, b2i_1, b2i_z, if_true, if_false, true_and, and_true, true_implies, false_implies, ne_eq, not_false_eq_true, not_true_eq_false, eq_self, exIA, exIS, exAI, exAS, exSI, exSA, true_or, or_true, false_or, or_false, Nat.reduceEqDiff, Bool.true_and, Bool.and_true, Bool.false_and, Bool.and_false, Bool.true_eq_false, Bool.false_eq_true, i10, i20, i30, vp0, nc0]
  refine s_becomeLike q1 (by decide) (BL_s x hx2) (by omega) ((w1.2.1.2.2.1 x hx2).2.2 hk) (fun X2 a t => k _ ?_)
  exact w1.now ((a.fr q1).wk (dB_rg (by decide) (by decide))) t
def undoS (σ : St) : St := (σ.2.2.1 (σ.2.1 - 1), σ.2.1 - 1, σ.2.2)
theorem InvS.undo {B : Nat} {σ : St} (iS : InvS B σ) (hp : 0 < zH σ) : InvS B (undoS σ) := by
  obtain ⟨i1, i2, i3, i4⟩ := iS
  exact ⟨i2 (zH σ - 1) (by omega), fun j hj => i2 j (by have hj' : j < σ.2.1 - 1 := hj; show j < σ.2.1; omega), i3, i4⟩
theorem rf_undo_0 {σ : St} (h0 : zH σ = 0) : Op (fun X K => w_L_undo 1 X K) σ (-4) σ := by
  intro X Zz K w k
  have q := w.1
  have e1 : hI X 14 1 = 0 := by
    rw [w.2.1.2.1.1, h0]
    rfl
  have e0 : ((0 : Int32) ≤ 0) = True := by decide
  simp only [w_L_undo, w_X4_undo, q.t1, q.r1_1, q.t14, e1, e0, show ((0 : Int32) < 0) = False from by decide, hty_sI, hln_sI, hR_sI, cnd1, cnd2, b2i_0, b2i_1, b2i_z, if_true, if_false, true_and, and_true, true_implies, false_implies, ne_eq, not_false_eq_true, not_true_eq_false, eq_self, exIA, exIS, exAI, exAS, exSI, exSA, true_or, or_true, false_or, or_false, Nat.reduceEqDiff, Bool.true_and, Bool.and_true, Bool.false_and, Bool.and_false, Bool.true_eq_false, Bool.false_eq_true, i10, i20, i30, vp0, nc0]
  exact k _ w
theorem ok_undo {σ : St} (hp : 0 < zH σ) : Op (fun X K => w_L_undo 1 X K) σ 1 (undoS σ) := by
  intro X Zz K w k
  have q := w.1
  have hh := w.2.1.2.1
  obtain ⟨g1, g2, ρ, g3, g4, g5⟩ := hh
  have e0 : ((0 : Int32) < Int32.ofNat (zH σ)) = True := (of_lt (i := 0) (by decide) (by omega)).trans (eq_true hp)
  have e1 : (Int32.ofNat (zH σ) ≤ 0) = False := (of_le (j := 0) (by omega) (by decide)).trans (eq_false (by omega))
  have es : Int32.ofNat (zH σ) - 1 = Int32.ofNat (zH σ - 1) := by
    obtain ⟨y, hy⟩ : ∃ y, zH σ = y + 1 := ⟨zH σ - 1, by omega⟩
    rw [hy, ← of_s, Int32.add_sub_cancel, Nat.add_sub_cancel]
  have q0 : Shp (sI X 14 1 (Int32.ofNat (zH σ - 1))) := q
  obtain ⟨r1, r2⟩ := g3 (zH σ - 1) (by omega)
  have r1' : hR (sI X 14 1 (Int32.ofNat (zH σ - 1))) 15 (zH σ - 1) = 16 + 12 * ρ (zH σ - 1) := r1
  simp only [w_L_undo, w_X4_undo, w_X1_popInto, q.t1, q.r1_0, q.r1_1, q.t14, q.r14_0, g1, e0, e1, es, sI_at, hty_sI, hln_sI, hR_sI, cnd1, cnd2, b2i_0, b2i_1, b2i_z, if_true, if_false, true_and, and_true, true_implies, false_implies, ne_eq, not_false_eq_true, not_true_eq_false, eq_self, exIA, exIS, exAI, exAS, exSI, exSA, true_or, or_true, false_or, or_false, Nat.reduceEqDiff, Bool.true_and, Bool.and_true, Bool.false_and, Bool.and_false, Bool.true_eq_false, Bool.false_eq_true, i10, i20, i30, vp0, nc0]
  rw [tAt_eq q0 (by omega) (by rw [r1']; omega), r1']
  refine ⟨q.t2, ?_⟩
  have ap : ∀ i, i < 12 → 16 + 12 * ρ (zH σ - 1) + i ≠ 14 := fun i hi => by omega
  have tr0 : TR (sI X 14 1 (Int32.ofNat (zH σ - 1))) (16 + 12 * ρ (zH σ - 1)) (zP σ (zH σ - 1)) := fun i j hj => by
    rw [sI_ne (ap i (okT_j hj).1)]
    exact g5 (zH σ - 1) (by omega) i j hj
  refine s_becomeLike q0 (by decide) (BL_h _ r2) (by omega) tr0 (fun X2 a t => k _ ?_)
  have f1 : Fr (dRg 14 87) X (sI X 14 1 (Int32.ofNat (zH σ - 1))) := ⟨q0, rfl, rfl, fun y hy => ⟨sI_ne (fun e => by rw [e] at hy; revert hy; decide), rfl⟩⟩
  have hs : HS (sI X 14 1 (Int32.ofNat (zH σ - 1))) (zH σ - 1) (zP σ) := by
    refine ⟨sI_at, by omega, ρ, g3, g4, fun i hi => fun y z hy => ?_⟩
    have hy12 := (okT_j hy).1
    rw [sI_ne (by omega)]
    exact g5 i (by omega) y z hy
  exact (w.his f1 hs).now ((a.fr q0).wk (dB_rg (by decide) (by decide))) t
end PO
section PO2
variable {X : XH} {σ : St}
theorem TS.put {a : Int32} (h : TS X (zN σ) (zT σ)) (h60 : zN σ < 60) : TS (sI (sI X 115 (zN σ) a) 114 1 (Int32.ofNat (zN σ + 1))) (zN σ + 1) (upr (zT σ) (zN σ) a) := by
  refine ⟨sI_at, by omega, fun k hk => ?_⟩
  rw [sI_ne (by decide)]
  by_cases e : k = zN σ
  · rw [e, sI_at, upr_eq]
  · rw [sI_nk e, upr_ne e]
    exact h.2.2 k (by omega)
def appS (σ : St) (a : Int32) : St := (σ.1, σ.2.1, σ.2.2.1, σ.2.2.2.1, σ.2.2.2.2.1, σ.2.2.2.2.2.1 + 1, upr σ.2.2.2.2.2.2 σ.2.2.2.2.2.1 a)
theorem InvS.app {B x : Nat} (iS : InvS B σ) (hx1 : 33 ≤ x) (hx2 : x ≤ 126) : InvS B (appS σ (Int32.ofNat x)) := by
  obtain ⟨i1, i2, i3, i4⟩ := iS
  refine ⟨i1, i2, i3, fun k hk => ?_⟩
  have hk' : k < σ.2.2.2.2.2.1 + 1 := hk
  show ∃ s, 33 ≤ s ∧ s ≤ 126 ∧ upr σ.2.2.2.2.2.2 σ.2.2.2.2.2.1 (Int32.ofNat x) k = Int32.ofNat s
  by_cases e : k = σ.2.2.2.2.2.1
  · rw [e, upr_eq]
    exact ⟨x, hx1, hx2, rfl⟩
  · rw [upr_ne e]
    exact i4 k (show k < σ.2.2.2.2.2.1 by omega)
theorem rf_append_0 {a : Int32} (h0 : inG a 33 126 = false) : Op (fun X K => w_L_append 1 a X K) σ (-3) σ := by
  intro X Zz K w k
  have q := w.1
  simp only [w_L_append, w_X4_append, q.t1, e_checkRange, h0, hty_sI, hln_sI, hR_sI, cnd1, cnd2, b2i_0, b2i_1, b2i_z, if_true, if_false, true_and, and_true, true_implies, false_implies, ne_eq, not_false_eq_true, not_true_eq_false, eq_self, exIA, exIS, exAI, exAS, exSI, exSA, true_or, or_true, false_or, or_false, Nat.reduceEqDiff, Bool.true_and, Bool.and_true, Bool.false_and, Bool.and_false, Bool.true_eq_false, Bool.false_eq_true, i10, i20, i30, vp0, nc0]
  exact k _ w
theorem rf_append_1 {x : Nat} (hx1 : 33 ≤ x) (hx2 : x ≤ 126) (hn : ¬ zN σ < 60) : Op (fun X K => w_L_append 1 (Int32.ofNat x) X K) σ (-4) σ := by
  intro X Zz K w k
  have h0 : inG (Int32.ofNat x) 33 126 = true := inG_of (lo := 33) (hi := 126) hx1 hx2 (by decide)
  have q := w.1
  have ts := w.2.1.2.2.2
  have h60 : zN σ = 60 := by have := ts.2.1; omega
  have e1 : hI X 114 1 = Int32.ofNat 60 := by rw [← h60]; exact ts.1
  have e6 : (Int32.ofNat 60 < 60) = False := by decide
  have e6' : (60 ≤ Int32.ofNat 60) = True := by decide
  simp only [w_L_append, w_X4_append, q.t1, q.r1_4, q.t114, e_checkRange, h0, e1, e6, e6', hty_sI, hln_sI, hR_sI, cnd1, cnd2, b2i_0, b2i_1, b2i_z, if_true, if_false, true_and, and_true, true_implies, false_implies, ne_eq, not_false_eq_true, not_true_eq_false, eq_self, exIA, exIS, exAI, exAS, exSI, exSA, true_or, or_true, false_or, or_false, Nat.reduceEqDiff, Bool.true_and, Bool.and_true, Bool.false_and, Bool.and_false, Bool.true_eq_false, Bool.false_eq_true, i10, i20, i30, vp0, nc0]
  exact k _ w
theorem ok_append {x : Nat} (hx1 : 33 ≤ x) (hx2 : x ≤ 126) (hn : zN σ < 60) : Op (fun X K => w_L_append 1 (Int32.ofNat x) X K) σ (Int32.ofNat (zN σ + 1)) (appS σ (Int32.ofNat x)) := by
  intro X Zz K w k
  have h0 : inG (Int32.ofNat x) 33 126 = true := inG_of (lo := 33) (hi := 126) hx1 hx2 (by decide)
  have q := w.1
  have ts := w.2.1.2.2.2
  have e1 : hI X 114 1 = Int32.ofNat (zN σ) := ts.1
  have e6 : (Int32.ofNat (zN σ) < 60) = True := (of_lt (j := 60) (by omega) (by decide)).trans (eq_true hn)
  have e8 : (60 ≤ Int32.ofNat (zN σ)) = False := (of_le (i := 60) (by decide) (by omega)).trans (eq_false (by omega))
  have e7 : (Int32.ofNat 60 ≤ Int32.ofNat (zN σ)) = False := (of_le (by decide) (by omega)).trans (eq_false (by omega))
  have e2 : hI (sI X 115 (zN σ) (Int32.ofNat x)) 114 1 = Int32.ofNat (zN σ) := by
    rw [sI_ne (by decide)]
    exact e1
  simp only [w_L_append, w_X4_append, w_X0_putSign, q.t1, q.r1_4, q.t114, q.r114_0, q.t115, q.n115, e_checkRange, h0, e1, e6, e7, e8, put_eq q.t115 q.n115 hn (show 60 < 4096 by decide), e2, of_s, sI_at, show (100 ≤ 100) = True from by decide, hty_sI, hln_sI, hR_sI, cnd1, cnd2, b2i_0, b2i_1, b2i_z, if_true, if_false, true_and, and_true, true_implies, false_implies, ne_eq, not_false_eq_true, not_true_eq_false, eq_self, exIA, exIS, exAI, exAS, exSI, exSA, true_or, or_true, false_or, or_false, Nat.reduceEqDiff, Bool.true_and, Bool.and_true, Bool.false_and, Bool.and_false, Bool.true_eq_false, Bool.false_eq_true, i10, i20, i30, vp0, nc0]
  have w1 := w.txt (n := zN σ + 1) (tx := upr (zT σ) (zN σ) (Int32.ofNat x)) (X1 := sI (sI X 115 (zN σ) (Int32.ofNat x)) 114 1 (Int32.ofNat (zN σ + 1))) ⟨q, rfl, rfl, fun y hy => ⟨by rw [sI_ne (fun e => by rw [e] at hy; revert hy; decide), sI_ne (fun e => by rw [e] at hy; revert hy; decide)], rfl⟩⟩ (ts.put hn)
  exact k _ w1
def clrS (σ : St) : St := (σ.1, σ.2.1, σ.2.2.1, σ.2.2.2.1, σ.2.2.2.2.1, 0, σ.2.2.2.2.2.2)
theorem InvS.clr {B : Nat} (iS : InvS B σ) : InvS B (clrS σ) := ⟨iS.1, iS.2.1, iS.2.2.1, fun k hk => absurd hk (Nat.not_lt_zero k)⟩
theorem Wd.clrC {Zz : XH} (w : Wd X σ Zz) : Wd (sI X 114 1 0) (clrS σ) Zz := w.txt (n := 0) (tx := zT σ) ⟨w.1, rfl, rfl, fun y hy => ⟨sI_ne (fun e => by rw [e] at hy; revert hy; decide), rfl⟩⟩ ⟨sI_at, by decide, fun k hk => absurd hk (Nat.not_lt_zero k)⟩
theorem ok_clearBuffer : Op (fun X K => w_X4_clearBuffer 1 X K) σ (Int32.ofNat (zN σ)) (clrS σ) := by
  intro X Zz K w k
  have q := w.1
  have e1 : hI X 114 1 = Int32.ofNat (zN σ) := w.2.1.2.2.2.1
  simp only [w_X4_clearBuffer, q.t1, q.r1_4, q.t114, e1, hty_sI, hln_sI, hR_sI, cnd1, cnd2, b2i_0, b2i_1, b2i_z, if_true, if_false, true_and, and_true, true_implies, false_implies, ne_eq, not_false_eq_true, not_true_eq_false, eq_self, exIA, exIS, exAI, exAS, exSI, exSA, true_or, or_true, false_or, or_false, Nat.reduceEqDiff, Bool.true_and, Bool.and_true, Bool.false_and, Bool.and_false, Bool.true_eq_false, Bool.false_eq_true, i10, i20, i30, vp0, nc0]
  exact k _ w.clrC
theorem ok_session : Op (fun X K => w_X4_session 1 X K) σ (zG σ 367) σ := by
  intro X Zz K w k
  have q := w.1
  have e1 : hI X 2 12 = zG σ 367 := w.2.1.1 0 12 rfl
  simp only [w_X4_session, q.t1, q.r1_0, q.t2, e1, hty_sI, hln_sI, hR_sI, cnd1, cnd2, b2i_0, b2i_1, b2i_z, if_true, if_false, true_and, and_true, true_implies, false_implies, ne_eq, not_false_eq_true, not_true_eq_false, eq_self, exIA, exIS, exAI, exAS, exSI, exSA, true_or, or_true, false_or, or_false, Nat.reduceEqDiff, Bool.true_and, Bool.and_true, Bool.false_and, Bool.and_false, Bool.true_eq_false, Bool.false_eq_true, i10, i20, i30, vp0, nc0]
  exact k _ w
theorem ok_recordings : Op (fun X K => w_X4_recordings 1 X K) σ (zG σ 368) σ := by
  intro X Zz K w k
  have q := w.1
  have e1 : hI X 2 13 = zG σ 368 := w.2.1.1 0 13 rfl
  simp only [w_X4_recordings, q.t1, q.r1_0, q.t2, e1, hty_sI, hln_sI, hR_sI, cnd1, cnd2, b2i_0, b2i_1, b2i_z, if_true, if_false, true_and, and_true, true_implies, false_implies, ne_eq, not_false_eq_true, not_true_eq_false, eq_self, exIA, exIS, exAI, exAS, exSI, exSA, true_or, or_true, false_or, or_false, Nat.reduceEqDiff, Bool.true_and, Bool.and_true, Bool.false_and, Bool.and_false, Bool.true_eq_false, Bool.false_eq_true, i10, i20, i30, vp0, nc0]
  exact k _ w
theorem ok_wiped : Op (fun X K => w_X4_wiped 1 X K) σ (zG σ 369) σ := by
  intro X Zz K w k
  have q := w.1
  have e1 : hI X 2 14 = zG σ 369 := w.2.1.1 0 14 rfl
  simp only [w_X4_wiped, q.t1, q.r1_0, q.t2, e1, hty_sI, hln_sI, hR_sI, cnd1, cnd2, b2i_0, b2i_1, b2i_z, if_true, if_false, true_and, and_true, true_implies, false_implies, ne_eq, not_false_eq_true, not_true_eq_false, eq_self, exIA, exIS, exAI, exAS, exSI, exSA, true_or, or_true, false_or, or_false, Nat.reduceEqDiff, Bool.true_and, Bool.and_true, Bool.false_and, Bool.and_false, Bool.true_eq_false, Bool.false_eq_true, i10, i20, i30, vp0, nc0]
  exact k _ w
theorem ok_mixes : Op (fun X K => w_X4_mixes 1 X K) σ (zG σ 370) σ := by
  intro X Zz K w k
  have q := w.1
  have e1 : hI X 2 15 = zG σ 370 := w.2.1.1 0 15 rfl
  simp only [w_X4_mixes, q.t1, q.r1_0, q.t2, e1, hty_sI, hln_sI, hR_sI, cnd1, cnd2, b2i_0, b2i_1, b2i_z, if_true, if_false, true_and, and_true, true_implies, false_implies, ne_eq, not_false_eq_true, not_true_eq_false, eq_self, exIA, exIS, exAI, exAS, exSI, exSA, true_or, or_true, false_or, or_false, Nat.reduceEqDiff, Bool.true_and, Bool.and_true, Bool.false_and, Bool.and_false, Bool.true_eq_false, Bool.false_eq_true, i10, i20, i30, vp0, nc0]
  exact k _ w
theorem ok_clauses : Op (fun X K => w_X4_clauses 1 X K) σ (zG σ 366) σ := by
  intro X Zz K w k
  have q := w.1
  have e1 : hI X 2 0 = zG σ 366 := w.2.1.1 0 0 rfl
  simp only [w_X4_clauses, q.t1, q.r1_0, q.t2, e1, hty_sI, hln_sI, hR_sI, cnd1, cnd2, b2i_0, b2i_1, b2i_z, if_true, if_false, true_and, and_true, true_implies, false_implies, ne_eq, not_false_eq_true, not_true_eq_false, eq_self, exIA, exIS, exAI, exAS, exSI, exSA, true_or, or_true, false_or, or_false, Nat.reduceEqDiff, Bool.true_and, Bool.and_true, Bool.false_and, Bool.and_false, Bool.true_eq_false, Bool.false_eq_true, i10, i20, i30, vp0, nc0]
  exact k _ w
theorem ok_savedStates : Op (fun X K => w_X4_savedStates 1 X K) σ (Int32.ofNat (zH σ)) σ := by
  intro X Zz K w k
  have q := w.1
  have e1 : hI X 14 1 = Int32.ofNat (zH σ) := w.2.1.2.1.1
  simp only [w_X4_savedStates, q.t1, q.r1_1, q.t14, e1, hty_sI, hln_sI, hR_sI, cnd1, cnd2, b2i_0, b2i_1, b2i_z, if_true, if_false, true_and, and_true, true_implies, false_implies, ne_eq, not_false_eq_true, not_true_eq_false, eq_self, exIA, exIS, exAI, exAS, exSI, exSA, true_or, or_true, false_or, or_false, Nat.reduceEqDiff, Bool.true_and, Bool.and_true, Bool.false_and, Bool.and_false, Bool.true_eq_false, Bool.false_eq_true, i10, i20, i30, vp0, nc0]
  exact k _ w
theorem ok_bestTongue {n : Nat} (i : Inv (zG σ) n) : Op (fun X K => w_X4_bestTongue 1 X K) σ (Int32.ofNat (bsTo (fun t => sTaken (zG σ) n t) 2)) σ := by
  intro X Zz K w k
  have q := w.1
  simp only [w_X4_bestTongue, q.t1, q.r1_0, q.t2, hty_sI, hln_sI, hR_sI, cnd1, cnd2, b2i_0, b2i_1, b2i_z, if_true, if_false, true_and, and_true, true_implies, false_implies, ne_eq, not_false_eq_true, not_true_eq_false, eq_self, exIA, exIS, exAI, exAS, exSI, exSA, true_or, or_true, false_or, or_false, Nat.reduceEqDiff, Bool.true_and, Bool.and_true, Bool.false_and, Bool.and_false, Bool.true_eq_false, Bool.false_eq_true, i10, i20, i30, vp0, nc0]
  exact s_mostTakenTongue q w.2.1.1 i.cn (k _ w)
theorem ok_loudestState {n : Nat} (i : Inv (zG σ) n) : Op (fun X K => w_X4_loudestState 1 X K) σ (Int32.ofNat (bsTo (fun s => sSpoken (zG σ) n (Int32.ofNat s)) 4)) σ := by
  intro X Zz K w k
  have q := w.1
  simp only [w_X4_loudestState, q.t1, q.r1_0, q.t2, hty_sI, hln_sI, hR_sI, cnd1, cnd2, b2i_0, b2i_1, b2i_z, if_true, if_false, true_and, and_true, true_implies, false_implies, ne_eq, not_false_eq_true, not_true_eq_false, eq_self, exIA, exIS, exAI, exAS, exSI, exSA, true_or, or_true, false_or, or_false, Nat.reduceEqDiff, Bool.true_and, Bool.and_true, Bool.false_and, Bool.and_false, Bool.true_eq_false, Bool.false_eq_true, i10, i20, i30, vp0, nc0]
  exact s_mostLipsState q w.2.1.1 i.cn (k _ w)
end PO2
