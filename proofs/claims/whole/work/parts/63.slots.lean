/-! slots, going back, undoing, the buffer's signs, the answers that are never refused -/
section PO
/-- a call that answers nothing, or throws -/
def OpV (wL : XH → (Int32 → XH → Prop) → Prop) (wM : XH → (XH → Prop) → Prop) (σ : St) : Prop := ∃ (cd : Int32) (σ' : St), InvS σ' ∧
  (∀ X m o K, Wd X σ m o → (∀ X1 o1, Wd X1 σ' m o1 → K cd X1) → wL X K) ∧
  ∀ X d o K, Wd X d σ o → (∀ X1, Wd X1 d σ' (o.1, o.2.1, cd) → K X1) → wM X K
theorem BL_s : ∀ k, k < 2 → 89 + 12 * k ∈ BL := by decide
theorem Shp.r88 {X : XH} {k : Nat} (q : Shp X) (hk : k < 2) : hR X 88 k = 89 + 12 * k := by
  rcases (show k = 0 ∨ k = 1 by omega) with rfl | rfl
  · exact q.r88_0
  · exact q.r88_1
theorem tAt2_eq {X : XH} {k : Nat} {K : Nat → XH → Prop} (q : Shp X) (hk : k < 2) : w_X4_treatyAt 88 (Int32.ofNat k) X K = K (89 + 12 * k) X := by
  have hne : ¬ (89 + 12 * k = 0) := by omega
  unfold w_X4_treatyAt
  simp only [q.t88, q.n88, of_nn (show k < 4096 by omega), of_le (show 2 < 4096 by decide) (show k < 4096 by omega), vp_of hk (show 2 < 4096 by decide), nc (show k < 4096 by omega), le_f hk, q.r88 hk, hne, ne_eq, not_false_eq_true, true_and, false_implies, true_implies, show (100 ≤ 107) = True from by decide, show (107 = 104 + 3) = True from by decide]
theorem dB_rg {b lo hi : Nat} (h : lo ≤ b) (h' : b + 11 ≤ hi) : ∀ a, dRg lo hi a = false → dB b a = false := fun a ha => by
  have := dRg_f ha
  unfold dB
  have h9 : ¬ (b ≤ a ∧ a < b + 12) := by omega
  simpa using h9
def keepS (σ : St) (k : Nat) : St := (σ.1, σ.2.1, σ.2.2.1, upr σ.2.2.2.1 k 1, (fun j => if j = k then σ.1 else σ.2.2.2.2.1 j), σ.2.2.2.2.2)
theorem op_keep {σ : St} (iS : InvS σ) (a : Int32) : OpV (fun X K => w_L_keep 1 a X K) (fun X K => w_X5_keep 123 a X K) σ := by
  cases h0 : inG a 0 1
  · refine ⟨1, σ, iS, fun X m o K w k => ?_, fun X d o K w k => ?_⟩
    · have q := w.1
      simp only [w_L_keep, w_X4_keep, q.t1, e_checkRange, h0, hty_sI, hln_sI, hR_sI, cnd1, cnd2, b2i_0, b2i_1, b2i_z, if_true, if_false, true_and, and_true, true_implies, false_implies, ne_eq, not_false_eq_true, not_true_eq_false, eq_self, exIA, exIS, exAI, exAS, exSI, exSA, true_or, or_true, false_or, or_false, Nat.reduceEqDiff, Bool.true_and, Bool.and_true, Bool.false_and, Bool.and_false, Bool.true_eq_false, Bool.false_eq_true, i10, i20, i30, vp0, nc0]
      exact k _ _ w
    · have q := w.1
      simp only [w_X5_keep, q.t123, x_in, qG, h0, rf0 q, rf1 q, hty_sI, hln_sI, hR_sI, cnd1, cnd2, b2i_0, b2i_1, b2i_z, if_true, if_false, true_and, and_true, true_implies, false_implies, ne_eq, not_false_eq_true, not_true_eq_false, eq_self, exIA, exIS, exAI, exAS, exSI, exSA, true_or, or_true, false_or, or_false, Nat.reduceEqDiff, Bool.true_and, Bool.and_true, Bool.false_and, Bool.and_false, Bool.true_eq_false, Bool.false_eq_true, i10, i20, i30, vp0, nc0]
      exact k _ w.thr
  · obtain ⟨x, -, hx, rfl⟩ := inG_ex (lo := 0) (hi := 1) (by decide) (by decide) h0
    have hx2 : x < 2 := by omega
    have iS' : InvS (keepS σ x) := by
      obtain ⟨i1, i2, i3, i4⟩ := iS
      refine ⟨i1, i2, fun k hk e => ?_, i4⟩
      show ∃ n, Inv ((fun j => if j = x then σ.1 else σ.2.2.2.2.1 j) k) n
      by_cases e2 : k = x
      · simp only [e2, if_true]
        exact i1
      · simp only [e2, if_false]
        have e' : upr σ.2.2.2.1 x 1 k = 1 := e
        rw [upr_ne e2] at e'
        exact i3 k hk e'
    refine ⟨0, keepS σ x, iS', fun X m o K w k => ?_, fun X d o K w k => ?_⟩
    · have q := w.1
      simp only [w_L_keep, w_X4_keep, q.t1, q.r1_0, q.r1_2, q.r1_3, q.t113, q.n113, e_checkRange, h0, tAt2_eq q hx2, of_nn (show x < 4096 by omega), of_le (show 2 < 4096 by decide) (show x < 4096 by omega), le_f hx2, q.bt (BL_s x hx2), show (100 ≤ 101) = True from by decide, hty_sI, hln_sI, hR_sI, cnd1, cnd2, b2i_0, b2i_1, b2i_z, if_true, if_false, true_and, and_true, true_implies, false_implies, ne_eq, not_false_eq_true, not_true_eq_false, eq_self, exIA, exIS, exAI, exAS, exSI, exSA, true_or, or_true, false_or, or_false, Nat.reduceEqDiff, Bool.true_and, Bool.and_true, Bool.false_and, Bool.and_false, Bool.true_eq_false, Bool.false_eq_true, i10, i20, i30, vp0, nc0]
      refine s_becomeLike q (BL_s x hx2) (by decide) (by omega) w.2.1.1 (fun X1 a t => ?_)
      have q1 := a.shp q
      simp only [q1.t1, q1.r1_3, q1.t113, q1.n113, vp_of hx2 (show 2 < 4096 by decide), nc (show x < 4096 by omega), hty_sI, hln_sI, hR_sI, cnd1, cnd2, b2i_0, b2i_1, b2i_z, if_true, if_false, true_and, and_true, true_implies, false_implies, ne_eq, not_false_eq_true, not_true_eq_false, eq_self, exIA, exIS, exAI, exAS, exSI, exSA, true_or, or_true, false_or, or_false, Nat.reduceEqDiff, Bool.true_and, Bool.and_true, Bool.false_and, Bool.and_false, Bool.true_eq_false, Bool.false_eq_true, i10, i20, i30, vp0, nc0]
      refine k _ o (w.slo (kp := upr σ.2.2.2.1 x 1) (sl := fun j => if j = x then σ.1 else σ.2.2.2.2.1 j) (((a.fr q).wk (dB_rg (by omega) (by omega))).tr ⟨q1, rfl, rfl, fun y hy => ⟨sI_ne (fun e => by rw [e] at hy; revert hy; decide), rfl⟩⟩) (fun j hj => ?_))
      obtain ⟨g1, g2, g3⟩ := w.2.1.2.2.1 j hj
      have hd : dB (89 + 12 * x) 113 = false := by
        unfold dB
        have : ¬ (113 < 89 + 12 * x + 12) := by omega
        simp [this]
      have e113 : ∀ y, hI X1 113 y = hI X 113 y := fun y => by rw [a.2.2.2.2.2.2 113 hd]
      by_cases e : j = x
      · subst e
        refine ⟨by rw [sI_at, upr_eq], Or.inr upr_eq, fun _ => ?_⟩
        simp only [if_true]
        intro y z hy
        have := (okT_j hy).1
        rw [sI_ne (by omega)]
        exact t y z hy
      · refine ⟨by rw [sI_nk e, upr_ne e, e113]; exact g1, by rw [upr_ne e]; exact g2, fun h => ?_⟩
        rw [upr_ne e] at h
        simp only [e, if_false]
        intro y z hy
        have hy12 := (okT_j hy).1
        rw [sI_ne (by omega), a.2.2.2.2.2.2 _ (dB_out (BL_s x hx2) (BL_s j hj) (by omega) hy12)]
        exact g3 h y z hy
    · have q := w.1
      have q1 : Shp (sI X 123 7 0) := q
      simp only [w_X5_keep, q.t123, x_in, qG, h0, rf0 q, rf1 q, hty_sI, hln_sI, hR_sI, cnd1, cnd2, b2i_0, b2i_1, b2i_z, if_true, if_false, true_and, and_true, true_implies, false_implies, ne_eq, not_false_eq_true, not_true_eq_false, eq_self, exIA, exIS, exAI, exAS, exSI, exSA, true_or, or_true, false_or, or_false, Nat.reduceEqDiff, Bool.true_and, Bool.and_true, Bool.false_and, Bool.and_false, Bool.true_eq_false, Bool.false_eq_true, i10, i20, i30, vp0, nc0]
      have w0 := w.thr (v := 0)
      intro P hP
      have := dwn (n := 371) (p := fun i => ∀ X1, Cp (sI X 123 7 0) X1 124 0 126 (371 * x) i → P 123 (Int32.ofNat x) (Int32.ofNat i) X1) (fun X1 c => hP _ _ _ _ ?_) (fun i hi ih X1 c => hP _ _ _ _ ?_)
      · exact this _ Cp.z
      · clear hP
        have q2 := c.1.shp q1
        refine ⟨fun _ => ?_, fun hne => absurd le371t (by simpa using hne)⟩
        simp only [q2.t123, q2.r123_4, q2.t127, q2.n127, vp_of hx2 (show 2 < 4096 by decide), nc (show x < 4096 by omega), hty_sI, hln_sI, hR_sI, cnd1, cnd2, b2i_0, b2i_1, b2i_z, if_true, if_false, true_and, and_true, true_implies, false_implies, ne_eq, not_false_eq_true, not_true_eq_false, eq_self, exIA, exIS, exAI, exAS, exSI, exSA, true_or, or_true, false_or, or_false, Nat.reduceEqDiff, Bool.true_and, Bool.and_true, Bool.false_and, Bool.and_false, Bool.true_eq_false, Bool.false_eq_true, i10, i20, i30, vp0, nc0]
        have ho := w0.2.2.2.2.2
        obtain ⟨h1, ⟨h2, h3⟩, h4, h5, h6, h7, h8⟩ := w0.2.2.1
        have a3 : Ag (fun y => decide (y = 126) || decide (y = 127)) (sI X 123 7 0) (sI X1 127 x 1) := by
          obtain ⟨b1, b2, b3, b4, b5, b6, b7⟩ := c.1
          exact Ag.sI ⟨b1, b2, b3, b4, b5, b6, fun y hy => b7 y (by simp at hy ⊢; exact hy.1)⟩ (by decide)
        have hX : ∀ b, b ≠ 126 → b ≠ 127 → hI (sI X1 127 x 1) b = hI (sI X 123 7 0) b := fun b n1 n2 => a3.2.2.2.2.2.2 b (by simp [n1, n2])
        have f : Fr (dRg 123 128) (sI X 123 7 0) (sI X1 127 x 1) := (a3.fr q1).wk (fun y hy => by
          have := dRg_f hy
          have h1 : ¬ y = 126 := by omega
          have h2 : ¬ y = 127 := by omega
          simp [h1, h2])
        have ks : MS (sI X1 127 x 1) (keepS σ x) := by
          refine ⟨fun k hk => ?_, ⟨?_, h3⟩, fun j hj k hk => ?_, fun j hj => ?_, ?_, h7, fun k hk => ?_⟩
          · rw [hX 124 (by decide) (by decide)]
            exact h1 k hk
          · rw [hX 123 (by decide) (by decide)]
            exact h2
          · rw [hX 125 (by decide) (by decide)]
            exact h4 j hj k hk
          · obtain ⟨g1, g2, g3⟩ := h5 j hj
            have e127 : ∀ y, hI X1 127 y = hI (sI X 123 7 0) 127 y := fun y => by rw [c.1.2.2.2.2.2.2 127 (by decide)]
            show hI (sI X1 127 x 1) 127 j = upr σ.2.2.2.1 x 1 j ∧ (upr σ.2.2.2.1 x 1 j = 0 ∨ upr σ.2.2.2.1 x 1 j = 1) ∧ (upr σ.2.2.2.1 x 1 j = 1 → ∀ i, i < 371 → hI (sI X1 127 x 1) 126 (371 * j + i) = (if j = x then σ.1 else σ.2.2.2.2.1 j) i)
            by_cases e : j = x
            · subst e
              refine ⟨by rw [sI_at, upr_eq], Or.inr upr_eq, fun _ i hi => ?_⟩
              rw [sI_ne (by decide), c.2.1 i hi, Nat.zero_add, if_pos rfl]
              exact h1 i hi
            · refine ⟨by rw [sI_nk e, upr_ne e, e127]; exact g1, by rw [upr_ne e]; exact g2, fun h i hi => ?_⟩
              rw [upr_ne e] at h
              rw [sI_ne (by decide), c.2.2 _ (by omega), if_neg e]
              exact g3 h i hi
          · rw [hX 123 (by decide) (by decide)]
            exact h6
          · rw [hX 128 (by decide) (by decide)]
            exact h8 k hk
        have w1 := w0.mod f ks
        have e7 : hI (sI X1 127 x 1) 123 7 = 0 := by
          rw [hX 123 (by decide) (by decide)]
          exact sI_at
        rw [e7] at w1
        exact k _ w1
      · clear hP
        have q2 := c.1.shp q1
        have es := c.src (by decide)
        have ek := Cp.s c
        rw [Nat.zero_add] at ek
        refine ⟨fun he => absurd he (by rw [le371 hi]; exact not_false), fun _ => ?_⟩
        simp only [q2.t123, q2.r123_0, q2.r123_3, q2.t124, q2.n124, q2.t126, q2.n126, ix371, vp3 hi, vp_of (show 371 * x + i < 742 by omega) (show 742 < 4096 by decide), nc (show 371 * x + i < 4096 by omega), nc (show i < 4096 by omega), es, of_s, hty_sI, hln_sI, hR_sI, cnd1, cnd2, b2i_0, b2i_1, b2i_z, if_true, if_false, true_and, and_true, true_implies, false_implies, ne_eq, not_false_eq_true, not_true_eq_false, eq_self, exIA, exIS, exAI, exAS, exSI, exSA, true_or, or_true, false_or, or_false, Nat.reduceEqDiff, Bool.true_and, Bool.and_true, Bool.false_and, Bool.and_false, Bool.true_eq_false, Bool.false_eq_true, i10, i20, i30, vp0, nc0]
        exact ih _ ek
theorem s_back40 {X : XH} {d σ : St} {o : Ou} {x : Nat} {K : XH → Prop} (w : Wd X d σ o) (hx : x < 2) (e : zK σ x = 1) (k : ∀ X1, Wd X1 d (zS σ x, σ.2) o → K X1) : w_X5_goBack_40 123 (Int32.ofNat x) 0 X K := by
  have q := w.1
  intro P hP
  have := dwn (n := 371) (p := fun i => ∀ X1, Cp X X1 126 (371 * x) 124 0 i → P 123 (Int32.ofNat x) (Int32.ofNat i) X1) (fun X1 c => hP _ _ _ _ ?_) (fun i hi ih X1 c => hP _ _ _ _ ?_)
  · exact this _ Cp.z
  · clear hP
    refine ⟨fun _ => k _ ?_, fun hne => absurd le371t (by simpa using hne)⟩
    have ho := w.2.2.2.2.2
    obtain ⟨h1, ⟨h2, h3⟩, h4, h5, h6, h7, h8⟩ := w.2.2.1
    have a3 := c.1
    have hX : ∀ b, b ≠ 124 → hI X1 b = hI X b := fun b n1 => a3.2.2.2.2.2.2 b (by simp [n1])
    have f : Fr (dRg 123 128) X X1 := (a3.fr q).wk (fun y hy => by
      have := dRg_f hy
      have h1 : ¬ y = 124 := by omega
      simp [h1])
    have ks : MS X1 (zS σ x, σ.2) := by
      refine ⟨fun k hk => ?_, ⟨?_, h3⟩, fun j hj k hk => ?_, fun j hj => ?_, ?_, h7, fun k hk => ?_⟩
      · have := c.2.1 k hk
        rw [Nat.zero_add] at this
        rw [this]
        exact (h5 x hx).2.2 e k hk
      · rw [hX 123 (by decide)]
        exact h2
      · rw [hX 125 (by decide)]
        exact h4 j hj k hk
      · rw [hX 127 (by decide), hX 126 (by decide)]
        exact h5 j hj
      · rw [hX 123 (by decide)]
        exact h6
      · rw [hX 128 (by decide)]
        exact h8 k hk
    have w1 := w.mod f ks
    have e7 : hI X1 123 7 = o.2.2 := by
      rw [hX 123 (by decide)]
      exact ho
    rw [e7] at w1
    exact w1
  · clear hP
    have q2 := c.1.shp q
    have es := c.src (by decide)
    have ek := Cp.s c
    rw [Nat.zero_add] at ek
    refine ⟨fun he => absurd he (by rw [le371 hi]; exact not_false), fun _ => ?_⟩
    simp only [q2.t123, q2.r123_0, q2.r123_3, q2.t124, q2.n124, q2.t126, q2.n126, ix371, vp3 hi, vp_of (show 371 * x + i < 742 by omega) (show 742 < 4096 by decide), nc (show 371 * x + i < 4096 by omega), nc (show i < 4096 by omega), es, of_s, hty_sI, hln_sI, hR_sI, cnd1, cnd2, b2i_0, b2i_1, b2i_z, if_true, if_false, true_and, and_true, true_implies, false_implies, ne_eq, not_false_eq_true, not_true_eq_false, eq_self, exIA, exIS, exAI, exAS, exSI, exSA, true_or, or_true, false_or, or_false, Nat.reduceEqDiff, Bool.true_and, Bool.and_true, Bool.false_and, Bool.and_false, Bool.true_eq_false, Bool.false_eq_true, i10, i20, i30, vp0, nc0]
    exact ih _ ek
theorem e_hasSnapshot {X : XH} {kp : Row} {sl : Nat → Row} {x : Nat} {K : Int32 → XH → Prop} (q : Shp X) (h : SS X kp sl) (hx : x < 2) : w_X4_hasSnapshot 1 (Int32.ofNat x) X K = K (b2i (decide (kp x = 1))) X := by
  obtain ⟨g1, g2, -⟩ := h x hx
  unfold w_X4_hasSnapshot
  simp only [q.t1, q.r1_3, q.t113, q.n113, of_nn (show x < 4096 by omega), of_le (show 2 < 4096 by decide) (show x < 4096 by omega), vp_of hx (show 2 < 4096 by decide), nc (show x < 4096 by omega), le_f hx, g1, show (100 ≤ 101) = True from by decide, hty_sI, hln_sI, hR_sI, cnd1, cnd2, b2i_0, b2i_1, b2i_z, if_true, if_false, true_and, and_true, true_implies, false_implies, ne_eq, not_false_eq_true, not_true_eq_false, eq_self, exIA, exIS, exAI, exAS, exSI, exSA, true_or, or_true, false_or, or_false, Nat.reduceEqDiff, Bool.true_and, Bool.and_true, Bool.false_and, Bool.and_false, Bool.true_eq_false, Bool.false_eq_true, i10, i20, i30, vp0, nc0]
  rcases g2 with e | e
  · rw [e]
    simp [b2i]
  · rw [e]
    simp [b2i]
theorem op_goBack {σ : St} (iS : InvS σ) (a : Int32) : OpV (fun X K => w_L_goBack 1 a X K) (fun X K => w_X5_goBack 123 a X K) σ := by
  cases h0 : inG a 0 1
  · refine ⟨1, σ, iS, fun X m o K w k => ?_, fun X d o K w k => ?_⟩
    · have q := w.1
      simp only [w_L_goBack, w_X4_goBack, q.t1, e_checkRange, h0, hty_sI, hln_sI, hR_sI, cnd1, cnd2, b2i_0, b2i_1, b2i_z, if_true, if_false, true_and, and_true, true_implies, false_implies, ne_eq, not_false_eq_true, not_true_eq_false, eq_self, exIA, exIS, exAI, exAS, exSI, exSA, true_or, or_true, false_or, or_false, Nat.reduceEqDiff, Bool.true_and, Bool.and_true, Bool.false_and, Bool.and_false, Bool.true_eq_false, Bool.false_eq_true, i10, i20, i30, vp0, nc0]
      exact k _ _ w
    · have q := w.1
      simp only [w_X5_goBack, q.t123, x_in, qG, h0, rf0 q, rf1 q, hty_sI, hln_sI, hR_sI, cnd1, cnd2, b2i_0, b2i_1, b2i_z, if_true, if_false, true_and, and_true, true_implies, false_implies, ne_eq, not_false_eq_true, not_true_eq_false, eq_self, exIA, exIS, exAI, exAS, exSI, exSA, true_or, or_true, false_or, or_false, Nat.reduceEqDiff, Bool.true_and, Bool.and_true, Bool.false_and, Bool.and_false, Bool.true_eq_false, Bool.false_eq_true, i10, i20, i30, vp0, nc0]
      exact k _ w.thr
  · obtain ⟨x, -, hx, rfl⟩ := inG_ex (lo := 0) (hi := 1) (by decide) (by decide) h0
    have hx2 : x < 2 := by omega
    by_cases hk : zK σ x = 1
    · obtain ⟨n', i'⟩ := iS.2.2.1 x hx2 hk
      refine ⟨0, (zS σ x, (pushS σ).2), iS.push i', fun X m o K w k => ?_, fun X d o K w k => ?_⟩
      · have q := w.1
        simp only [w_L_goBack, w_X4_goBack, q.t1, q.r1_0, q.r1_1, q.t14, e_checkRange, h0, e_hasSnapshot q w.2.1.2.2.1 hx2, hk, decide_true, hty_sI, hln_sI, hR_sI, cnd1, cnd2, b2i_0, b2i_1, b2i_z, if_true, if_false, true_and, and_true, true_implies, false_implies, ne_eq, not_false_eq_true, not_true_eq_false, eq_self, exIA, exIS, exAI, exAS, exSI, exSA, true_or, or_true, false_or, or_false, Nat.reduceEqDiff, Bool.true_and, Bool.and_true, Bool.false_and, Bool.and_false, Bool.true_eq_false, Bool.false_eq_true, i10, i20, i30, vp0, nc0]
        refine s_push w (fun X1 w1 => ?_)
        have q1 := w1.1
        simp only [q1.t1, q1.r1_0, q1.r1_2, q1.t2, tAt2_eq q1 hx2, hty_sI, hln_sI, hR_sI, cnd1, cnd2, b2i_0, b2i_1, b2i_z, if_true, if_false, true_and, and_true, true_implies, false_implies, ne_eq, not_false_eq_true, not_true_eq_false, eq_self, exIA, exIS, exAI, exAS, exSI, exSA, true_or, or_true, false_or, or_false, Nat.reduceEqDiff, Bool.true_and, Bool.and_true, Bool.false_and, Bool.and_false, Bool.true_eq_false, Bool.false_eq_true, i10, i20, i30, vp0, nc0]
        refine s_becomeLike q1 (by decide) (BL_s x hx2) (by omega) ((w1.2.1.2.2.1 x hx2).2.2 hk) (fun X2 a t => k _ o ?_)
        exact w1.now ((a.fr q1).wk (dB_rg (by decide) (by decide))) t
      · have q := w.1
        have e127 : hI X 127 x = 1 := ((w.2.2.1.2.2.2.1 x hx2).1).trans hk
        simp only [w_X5_goBack, q.t123, q.r123_4, q.t127, q.n127, x_in, qG, h0, vp_of hx2 (show 2 < 4096 by decide), nc (show x < 4096 by omega), e127, rf0 q, rf1 q, rf2 q, hty_sI, hln_sI, hR_sI, cnd1, cnd2, b2i_0, b2i_1, b2i_z, if_true, if_false, true_and, and_true, true_implies, false_implies, ne_eq, not_false_eq_true, not_true_eq_false, eq_self, exIA, exIS, exAI, exAS, exSI, exSA, true_or, or_true, false_or, or_false, Nat.reduceEqDiff, Bool.true_and, Bool.and_true, Bool.false_and, Bool.and_false, Bool.true_eq_false, Bool.false_eq_true, i10, i20, i30, vp0, nc0]
        refine s_saves w.thr (fun X1 w1 => ?_)
        exact s_back40 w1 hx2 hk (fun X2 w2 => k _ w2)
    · refine ⟨2, σ, iS, fun X m o K w k => ?_, fun X d o K w k => ?_⟩
      · have q := w.1
        have hk' : decide (zK σ x = 1) = false := decide_eq_false hk
        simp only [w_L_goBack, w_X4_goBack, q.t1, q.r1_0, q.r1_1, q.t14, e_checkRange, h0, e_hasSnapshot q w.2.1.2.2.1 hx2, hk', hty_sI, hln_sI, hR_sI, cnd1, cnd2, b2i_0, b2i_1, b2i_z, if_true, if_false, true_and, and_true, true_implies, false_implies, ne_eq, not_false_eq_true, not_true_eq_false, eq_self, exIA, exIS, exAI, exAS, exSI, exSA, true_or, or_true, false_or, or_false, Nat.reduceEqDiff, Bool.true_and, Bool.and_true, Bool.false_and, Bool.and_false, Bool.true_eq_false, Bool.false_eq_true, i10, i20, i30, vp0, nc0]
        exact k _ _ w
      · have q := w.1
        have e127 : hI X 127 x = 0 := by
          obtain ⟨g1, g2, -⟩ := w.2.2.1.2.2.2.1 x hx2
          rcases g2 with g2 | g2
          · exact g1.trans g2
          · exact absurd g2 hk
        simp only [w_X5_goBack, q.t123, q.r123_4, q.t127, q.n127, x_in, qG, h0, vp_of hx2 (show 2 < 4096 by decide), nc (show x < 4096 by omega), e127, rf0 q, rf1 q, rf2 q, hty_sI, hln_sI, hR_sI, cnd1, cnd2, b2i_0, b2i_1, b2i_z, if_true, if_false, true_and, and_true, true_implies, false_implies, ne_eq, not_false_eq_true, not_true_eq_false, eq_self, exIA, exIS, exAI, exAS, exSI, exSA, true_or, or_true, false_or, or_false, Nat.reduceEqDiff, Bool.true_and, Bool.and_true, Bool.false_and, Bool.and_false, Bool.true_eq_false, Bool.false_eq_true, i10, i20, i30, vp0, nc0]
        exact k _ w.thr
def undoS (σ : St) : St := (σ.2.2.1 (σ.2.1 - 1), σ.2.1 - 1, σ.2.2)
theorem s_undo31 {X : XH} {d σ : St} {o : Ou} {K : XH → Prop} (w : Wd X d σ o) (h0 : 0 < zH σ) (k : ∀ X1, Wd X1 d (undoS σ) o → K X1) : w_X5_undo_31 123 0 (sI X 123 2 (Int32.ofNat (zH σ - 1))) K := by
  have q := w.1
  have ho := w.2.2.2.2.2
  obtain ⟨h1, ⟨h2, h3⟩, h4, h5, h6, h7, h8⟩ := w.2.2.1
  have q0 : Shp (sI X 123 2 (Int32.ofNat (zH σ - 1))) := q
  intro P hP
  have := dwn (n := 371) (p := fun i => ∀ X1, Cp (sI X 123 2 (Int32.ofNat (zH σ - 1))) X1 125 (371 * (zH σ - 1)) 124 0 i → P 123 (Int32.ofNat i) X1) (fun X1 c => hP _ _ _ ?_) (fun i hi ih X1 c => hP _ _ _ ?_)
  · exact this _ Cp.z
  · clear hP
    refine ⟨fun _ => k _ ?_, fun hne => absurd le371t (by simpa using hne)⟩
    have a3 : Ag (fun y => decide (y = 124) || decide (y = 123)) X X1 := by
      obtain ⟨b1, b2, b3, b4, b5, b6, b7⟩ := c.1
      have a0 : Ag (fun y => decide (y = 124) || decide (y = 123)) X (sI X 123 2 (Int32.ofNat (zH σ - 1))) := Ag.rf.sI (by decide)
      exact a0.tr ⟨b1, b2, b3, b4, b5, b6, fun y hy => b7 y (by simp at hy ⊢; exact hy.1)⟩
    have hX : ∀ b, b ≠ 124 → b ≠ 123 → hI X1 b = hI X b := fun b n1 n2 => a3.2.2.2.2.2.2 b (by simp [n1, n2])
    have e123 : ∀ j, hI X1 123 j = hI (sI X 123 2 (Int32.ofNat (zH σ - 1))) 123 j := fun j => by rw [c.1.2.2.2.2.2.2 123 (by decide)]
    have f : Fr (dRg 123 128) X X1 := (a3.fr q).wk (fun y hy => by
      have := dRg_f hy
      have h1 : ¬ y = 124 := by omega
      have h2 : ¬ y = 123 := by omega
      simp [h1, h2])
    have ks : MS X1 (undoS σ) := by
      refine ⟨fun k hk => ?_, ⟨?_, ?_⟩, fun j hj k hk => ?_, fun j hj => ?_, ?_, h7, fun k hk => ?_⟩
      · have := c.2.1 k hk
        rw [Nat.zero_add] at this
        rw [this, sI_ne (by decide)]
        exact h4 (zH σ - 1) (by omega) k hk
      · rw [e123, sI_at]
        rfl
      · show σ.2.1 - 1 ≤ 6
        have : σ.2.1 ≤ 6 := h3
        omega
      · rw [hX 125 (by decide) (by decide)]
        have hj' : j < σ.2.1 - 1 := hj
        exact h4 j (show j < σ.2.1 by omega) k hk
      · rw [hX 127 (by decide) (by decide), hX 126 (by decide) (by decide)]
        exact h5 j hj
      · rw [e123, sI_nk (by decide)]
        exact h6
      · rw [hX 128 (by decide) (by decide)]
        exact h8 k hk
    have w1 := w.mod f ks
    have e7 : hI X1 123 7 = o.2.2 := by
      rw [e123, sI_nk (by decide)]
      exact ho
    rw [e7] at w1
    exact w1
  · clear hP
    have q2 := c.1.shp q0
    have es := c.src (by decide)
    have ek := Cp.s c
    rw [Nat.zero_add] at ek
    have e2 : hI X1 123 2 = Int32.ofNat (zH σ - 1) := by
      rw [c.1.2.2.2.2.2.2 123 (by decide)]
      exact sI_at
    refine ⟨fun he => absurd he (by rw [le371 hi]; exact not_false), fun _ => ?_⟩
    simp only [q2.t123, q2.r123_0, q2.r123_1, q2.t124, q2.n124, q2.t125, q2.n125, e2, ix371, vp3 hi, vp_of (show 371 * (zH σ - 1) + i < 2226 by omega) (show 2226 < 4096 by decide), nc (show 371 * (zH σ - 1) + i < 4096 by omega), nc (show i < 4096 by omega), es, of_s, hty_sI, hln_sI, hR_sI, cnd1, cnd2, b2i_0, b2i_1, b2i_z, if_true, if_false, true_and, and_true, true_implies, false_implies, ne_eq, not_false_eq_true, not_true_eq_false, eq_self, exIA, exIS, exAI, exAS, exSI, exSA, true_or, or_true, false_or, or_false, Nat.reduceEqDiff, Bool.true_and, Bool.and_true, Bool.false_and, Bool.and_false, Bool.true_eq_false, Bool.false_eq_true, i10, i20, i30, vp0, nc0]
    exact ih _ ek
theorem op_undo {σ : St} (iS : InvS σ) : OpV (fun X K => w_L_undo 1 X K) (fun X K => w_X5_undo 123 X K) σ := by
  by_cases h0 : zH σ = 0
  · refine ⟨1, σ, iS, fun X m o K w k => ?_, fun X d o K w k => ?_⟩
    · have q := w.1
      have e1 : hI X 14 1 = 0 := by
        rw [w.2.1.2.1.1, h0]
        rfl
      have e0 : ((0 : Int32) < 0) = False := by decide
      simp only [w_L_undo, w_X4_undo, q.t1, q.r1_1, q.t14, e1, e0, hty_sI, hln_sI, hR_sI, cnd1, cnd2, b2i_0, b2i_1, b2i_z, if_true, if_false, true_and, and_true, true_implies, false_implies, ne_eq, not_false_eq_true, not_true_eq_false, eq_self, exIA, exIS, exAI, exAS, exSI, exSA, true_or, or_true, false_or, or_false, Nat.reduceEqDiff, Bool.true_and, Bool.and_true, Bool.false_and, Bool.and_false, Bool.true_eq_false, Bool.false_eq_true, i10, i20, i30, vp0, nc0]
      exact k _ _ w
    · have q := w.1
      have e1 : hI X 123 2 = 0 := by
        rw [w.2.2.1.2.1.1, h0]
        rfl
      simp only [w_X5_undo, w_X5_undo_13, q.t123, e1, rf0 q, rf1 q, hty_sI, hln_sI, hR_sI, cnd1, cnd2, b2i_0, b2i_1, b2i_z, if_true, if_false, true_and, and_true, true_implies, false_implies, ne_eq, not_false_eq_true, not_true_eq_false, eq_self, exIA, exIS, exAI, exAS, exSI, exSA, true_or, or_true, false_or, or_false, Nat.reduceEqDiff, Bool.true_and, Bool.and_true, Bool.false_and, Bool.and_false, Bool.true_eq_false, Bool.false_eq_true, i10, i20, i30, vp0, nc0]
      exact k _ w.thr
  · have hp : 0 < zH σ := by omega
    have iS' : InvS (undoS σ) := by
      obtain ⟨i1, i2, i3, i4⟩ := iS
      exact ⟨i2 (zH σ - 1) (by omega), fun j hj => i2 j (by have hj' : j < σ.2.1 - 1 := hj; show j < σ.2.1; omega), i3, i4⟩
    refine ⟨0, undoS σ, iS', fun X m o K w k => ?_, fun X d o K w k => ?_⟩
    · have q := w.1
      have hh := w.2.1.2.1
      obtain ⟨g1, g2, ρ, g3, g4, g5⟩ := hh
      have e0 : ((0 : Int32) < Int32.ofNat (zH σ)) = True := (of_lt (i := 0) (by decide) (by omega)).trans (eq_true hp)
      have e1 : (Int32.ofNat (zH σ) ≤ 0) = False := (of_le (j := 0) (by omega) (by decide)).trans (eq_false (by omega))
      have es : Int32.ofNat (zH σ) - 1 = Int32.ofNat (zH σ - 1) := by
        obtain ⟨y, hy⟩ : ∃ y, zH σ = y + 1 := ⟨zH σ - 1, by omega⟩
        rw [hy, ← of_s, Int32.add_sub_cancel, Nat.add_sub_cancel]
      have q0 : Shp (sI X 14 1 (Int32.ofNat (zH σ - 1))) := q
      obtain ⟨r1, r2⟩ := g3 (zH σ - 1) (by omega)
      have r1' : hR (sI X 14 1 (Int32.ofNat (zH σ - 1))) 15 (zH σ - 1) = 16 + 12 * ρ (zH σ - 1) := r1
      simp only [w_L_undo, w_X4_undo, w_X1_popInto, q.t1, q.r1_0, q.r1_1, q.t14, q.r14_0, g1, e0, e1, es, sI_at, hty_sI, hln_sI, hR_sI, cnd1, cnd2, b2i_0, b2i_1, b2i_z, if_true, if_false, true_and, and_true, true_implies, false_implies, ne_eq, not_false_eq_true, not_true_eq_false, eq_self, exIA, exIS, exAI, exAS, exSI, exSA, true_or, or_true, false_or, or_false, Nat.reduceEqDiff, Bool.true_and, Bool.and_true, Bool.false_and, Bool.and_false, Bool.true_eq_false, Bool.false_eq_true, i10, i20, i30, vp0, nc0]
      rw [tAt_eq q0 (by omega) (by rw [r1']; omega), r1']
      refine ⟨q.t2, ?_⟩
      have ap : ∀ i, i < 12 → 16 + 12 * ρ (zH σ - 1) + i ≠ 14 := fun i hi => by omega
      have tr0 : TR (sI X 14 1 (Int32.ofNat (zH σ - 1))) (16 + 12 * ρ (zH σ - 1)) (zP σ (zH σ - 1)) := fun i j hj => by
        rw [sI_ne (ap i (okT_j hj).1)]
        exact g5 (zH σ - 1) (by omega) i j hj
      refine s_becomeLike q0 (by decide) (BL_h _ r2) (by omega) tr0 (fun X2 a t => k _ o ?_)
      have f1 : Fr (dRg 14 87) X (sI X 14 1 (Int32.ofNat (zH σ - 1))) := ⟨q0, rfl, rfl, fun y hy => ⟨sI_ne (fun e => by rw [e] at hy; revert hy; decide), rfl⟩⟩
      have hs : HS (sI X 14 1 (Int32.ofNat (zH σ - 1))) (zH σ - 1) (zP σ) := by
        refine ⟨sI_at, by omega, ρ, g3, g4, fun i hi => fun y z hy => ?_⟩
        have hy12 := (okT_j hy).1
        rw [sI_ne (by omega)]
        exact g5 i (by omega) y z hy
      exact (w.his f1 hs).now ((a.fr q0).wk (dB_rg (by decide) (by decide))) t
    · have q := w.1
      have e2 : hI X 123 2 = Int32.ofNat (zH σ) := w.2.2.1.2.1.1
      have h6 : zH σ ≤ 6 := w.2.2.1.2.1.2
      have e0 : (Int32.ofNat (zH σ) = 0) = False := (of_inj (j := 0) (by omega) (by decide)).trans (eq_false h0)
      have es : Int32.ofNat (zH σ) - 1 = Int32.ofNat (zH σ - 1) := by
        obtain ⟨y, hy⟩ : ∃ y, zH σ = y + 1 := ⟨zH σ - 1, by omega⟩
        rw [hy, ← of_s, Int32.add_sub_cancel, Nat.add_sub_cancel]
      have e3 : hI (sI X 123 7 0) 123 2 = Int32.ofNat (zH σ) := by
        rw [sI_nk (by decide)]
        exact e2
      simp only [w_X5_undo, w_X5_undo_13, q.t123, e2, e0, rf0 q, rf1 q, e3, es, hty_sI, hln_sI, hR_sI, cnd1, cnd2, b2i_0, b2i_1, b2i_z, if_true, if_false, true_and, and_true, true_implies, false_implies, ne_eq, not_false_eq_true, not_true_eq_false, eq_self, exIA, exIS, exAI, exAS, exSI, exSA, true_or, or_true, false_or, or_false, Nat.reduceEqDiff, Bool.true_and, Bool.and_true, Bool.false_and, Bool.and_false, Bool.true_eq_false, Bool.false_eq_true, i10, i20, i30, vp0, nc0]
      exact s_undo31 w.thr hp (fun X1 w1 => k _ w1)
end PO
section PO2
variable {X : XH} {σ : St}
theorem TS.put {a : Int32} (h : TS X (zN σ) (zT σ)) (h60 : zN σ < 60) : TS (sI (sI X 115 (zN σ) a) 114 1 (Int32.ofNat (zN σ + 1))) (zN σ + 1) (upr (zT σ) (zN σ) a) := by
  refine ⟨sI_at, by omega, fun k hk => ?_⟩
  rw [sI_ne (by decide)]
  by_cases e : k = zN σ
  · rw [e, sI_at, upr_eq]
  · rw [sI_nk e, upr_ne e]
    exact h.2.2 k (by omega)
def appS (σ : St) (a : Int32) : St := (σ.1, σ.2.1, σ.2.2.1, σ.2.2.2.1, σ.2.2.2.2.1, σ.2.2.2.2.2.1 + 1, upr σ.2.2.2.2.2.2 σ.2.2.2.2.2.1 a)
theorem op_append (iS : InvS σ) (a : Int32) : OpI (fun X K => w_L_append 1 a 129 X K) (fun X K => w_X5_append 123 a X K) σ := by
  cases h0 : inG a 33 126
  · refine ⟨1, 0, σ, iS, fun X m o K w k => ?_, fun X d o K w k => ?_⟩
    · have q := w.1
      simp only [w_L_append, w_X4_append, q.t1, e_checkRange, h0, hty_sI, hln_sI, hR_sI, cnd1, cnd2, b2i_0, b2i_1, b2i_z, if_true, if_false, true_and, and_true, true_implies, false_implies, ne_eq, not_false_eq_true, not_true_eq_false, eq_self, exIA, exIS, exAI, exAS, exSI, exSA, true_or, or_true, false_or, or_false, Nat.reduceEqDiff, Bool.true_and, Bool.and_true, Bool.false_and, Bool.and_false, Bool.true_eq_false, Bool.false_eq_true, i10, i20, i30, vp0, nc0]
      exact k _ _ w (fun e => absurd e (by decide))
    · have q := w.1
      simp only [w_X5_append, w_X5_append_30, q.t123, x_in, qG, h0, rf0 q, rf1 q, rf2 q, hty_sI, hln_sI, hR_sI, cnd1, cnd2, b2i_0, b2i_1, b2i_z, if_true, if_false, true_and, and_true, true_implies, false_implies, ne_eq, not_false_eq_true, not_true_eq_false, eq_self, exIA, exIS, exAI, exAS, exSI, exSA, true_or, or_true, false_or, or_false, Nat.reduceEqDiff, Bool.true_and, Bool.and_true, Bool.false_and, Bool.and_false, Bool.true_eq_false, Bool.false_eq_true, i10, i20, i30, vp0, nc0]
      exact k _ _ w.thr (fun e => absurd e (by decide))
  · obtain ⟨x, hx1, hx2, rfl⟩ := inG_ex (lo := 33) (hi := 126) (by decide) (by decide) h0
    by_cases hn : zN σ < 60
    · have iS' : InvS (appS σ (Int32.ofNat x)) := by
        obtain ⟨i1, i2, i3, i4⟩ := iS
        refine ⟨i1, i2, i3, fun k hk => ?_⟩
        have hk' : k < σ.2.2.2.2.2.1 + 1 := hk
        show ∃ s, 33 ≤ s ∧ s ≤ 126 ∧ upr σ.2.2.2.2.2.2 σ.2.2.2.2.2.1 (Int32.ofNat x) k = Int32.ofNat s
        by_cases e : k = σ.2.2.2.2.2.1
        · rw [e, upr_eq]
          exact ⟨x, hx1, hx2, rfl⟩
        · rw [upr_ne e]
          exact i4 k (show k < σ.2.2.2.2.2.1 by omega)
      refine ⟨0, Int32.ofNat (zN σ + 1), appS σ (Int32.ofNat x), iS', fun X m o K w k => ?_, fun X d o K w k => ?_⟩
      · have q := w.1
        have ts := w.2.1.2.2.2
        have e1 : hI X 114 1 = Int32.ofNat (zN σ) := ts.1
        have e6 : (Int32.ofNat (zN σ) < 60) = True := (of_lt (j := 60) (by omega) (by decide)).trans (eq_true hn)
        have e7 : (Int32.ofNat 60 ≤ Int32.ofNat (zN σ)) = False := (of_le (by decide) (by omega)).trans (eq_false (by omega))
        have e2 : hI (sI X 115 (zN σ) (Int32.ofNat x)) 114 1 = Int32.ofNat (zN σ) := by
          rw [sI_ne (by decide)]
          exact e1
        simp only [w_L_append, w_X4_append, w_X0_putSign, q.t1, q.r1_4, q.t114, q.r114_0, q.t115, q.n115, q.t129, q.n129, e_checkRange, h0, e1, e6, e7, put_eq q.t115 q.n115 hn (show 60 < 4096 by decide), e2, of_s, sI_at, show (100 ≤ 100) = True from by decide, hty_sI, hln_sI, hR_sI, cnd1, cnd2, b2i_0, b2i_1, b2i_z, if_true, if_false, true_and, and_true, true_implies, false_implies, ne_eq, not_false_eq_true, not_true_eq_false, eq_self, exIA, exIS, exAI, exAS, exSI, exSA, true_or, or_true, false_or, or_false, Nat.reduceEqDiff, Bool.true_and, Bool.and_true, Bool.false_and, Bool.and_false, Bool.true_eq_false, Bool.false_eq_true, i10, i20, i30, vp0, nc0]
        have w1 := w.txt (n := zN σ + 1) (tx := upr (zT σ) (zN σ) (Int32.ofNat x)) (X1 := sI (sI X 115 (zN σ) (Int32.ofNat x)) 114 1 (Int32.ofNat (zN σ + 1))) ⟨q, rfl, rfl, fun y hy => ⟨by rw [sI_ne (fun e => by rw [e] at hy; revert hy; decide), sI_ne (fun e => by rw [e] at hy; revert hy; decide)], rfl⟩⟩ (ts.put hn)
        exact k _ _ w1.out (fun _ => rfl)
      · have q := w.1
        have w0 := w.thr (v := 0)
        have q0 := w0.1
        have ho := w0.2.2.2.2.2
        obtain ⟨h1, ⟨h2, h3⟩, h4, h5, h6, h7, h8⟩ := w0.2.2.1
        have e6x : hI X 123 6 = Int32.ofNat (zN σ) := w.2.2.1.2.2.2.2.1
        have e60 : (Int32.ofNat (zN σ) = 60) = False := (of_inj (j := 60) (by omega) (by decide)).trans (eq_false (by omega))
        have e61 : hI (sI X 123 7 0) 123 6 = Int32.ofNat (zN σ) := h6
        have e62 : hI (sI (sI X 123 7 0) 128 (zN σ) (Int32.ofNat x)) 123 6 = Int32.ofNat (zN σ) := by
          rw [sI_ne (by decide)]
          exact h6
        simp only [w_X5_append, w_X5_append_30, q.t123, q.r123_5, q.t128, q.n128, x_in, qG, h0, e6x, e60, rf0 q, rf1 q, rf2 q, e61, vp_of hn (show 60 < 4096 by decide), nc (show zN σ < 4096 by omega), e62, of_s, sI_at, hty_sI, hln_sI, hR_sI, cnd1, cnd2, b2i_0, b2i_1, b2i_z, if_true, if_false, true_and, and_true, true_implies, false_implies, ne_eq, not_false_eq_true, not_true_eq_false, eq_self, exIA, exIS, exAI, exAS, exSI, exSA, true_or, or_true, false_or, or_false, Nat.reduceEqDiff, Bool.true_and, Bool.and_true, Bool.false_and, Bool.and_false, Bool.true_eq_false, Bool.false_eq_true, i10, i20, i30, vp0, nc0]
        have f : Fr (dRg 123 128) (sI X 123 7 0) (sI (sI (sI X 123 7 0) 128 (zN σ) (Int32.ofNat x)) 123 6 (Int32.ofNat (zN σ + 1))) := ⟨q0, rfl, rfl, fun y hy => ⟨by rw [sI_ne (fun e => by rw [e] at hy; revert hy; decide), sI_ne (fun e => by rw [e] at hy; revert hy; decide)], rfl⟩⟩
        have ks : MS (sI (sI (sI X 123 7 0) 128 (zN σ) (Int32.ofNat x)) 123 6 (Int32.ofNat (zN σ + 1))) (appS σ (Int32.ofNat x)) := by
          refine ⟨fun k hk => h1 k hk, ⟨?_, h3⟩, fun j hj k hk => h4 j hj k hk, fun j hj => h5 j hj, sI_at, ?_, fun k hk => ?_⟩
          · rw [sI_nk (by decide), sI_ne (by decide)]
            exact h2
          · show σ.2.2.2.2.2.1 + 1 ≤ 60
            have : σ.2.2.2.2.2.1 < 60 := hn
            omega
          · have hk' : k < σ.2.2.2.2.2.1 + 1 := hk
            rw [sI_ne (by decide)]
            show _ = upr σ.2.2.2.2.2.2 σ.2.2.2.2.2.1 (Int32.ofNat x) k
            by_cases e : k = σ.2.2.2.2.2.1
            · rw [e, upr_eq]
              exact sI_at
            · rw [upr_ne e]
              exact (sI_nk (show k ≠ zN σ from e)).trans (h8 k (show k < σ.2.2.2.2.2.1 by omega))
        have w1 := w0.mod f ks
        have e7 : hI (sI (sI (sI X 123 7 0) 128 (zN σ) (Int32.ofNat x)) 123 6 (Int32.ofNat (zN σ + 1))) 123 7 = 0 := by
          rw [sI_nk (by decide), sI_ne (by decide)]
          exact ho
        rw [e7] at w1
        exact k _ _ w1 (fun _ => rfl)
    · refine ⟨2, 0, σ, iS, fun X m o K w k => ?_, fun X d o K w k => ?_⟩
      · have q := w.1
        have ts := w.2.1.2.2.2
        have h60 : zN σ = 60 := by have := ts.2.1; omega
        have e1 : hI X 114 1 = Int32.ofNat 60 := by rw [← h60]; exact ts.1
        have e6 : (Int32.ofNat 60 < 60) = False := by decide
        simp only [w_L_append, w_X4_append, q.t1, q.r1_4, q.t114, e_checkRange, h0, e1, e6, hty_sI, hln_sI, hR_sI, cnd1, cnd2, b2i_0, b2i_1, b2i_z, if_true, if_false, true_and, and_true, true_implies, false_implies, ne_eq, not_false_eq_true, not_true_eq_false, eq_self, exIA, exIS, exAI, exAS, exSI, exSA, true_or, or_true, false_or, or_false, Nat.reduceEqDiff, Bool.true_and, Bool.and_true, Bool.false_and, Bool.and_false, Bool.true_eq_false, Bool.false_eq_true, i10, i20, i30, vp0, nc0]
        exact k _ _ w (fun e => absurd e (by decide))
      · have q := w.1
        have h60 : zN σ = 60 := by have := w.2.2.1.2.2.2.2.2.1; omega
        have e1 : hI X 123 6 = 60 := by rw [w.2.2.1.2.2.2.2.1, h60]; rfl
        simp only [w_X5_append, w_X5_append_30, q.t123, x_in, qG, h0, e1, rf0 q, rf1 q, rf2 q, hty_sI, hln_sI, hR_sI, cnd1, cnd2, b2i_0, b2i_1, b2i_z, if_true, if_false, true_and, and_true, true_implies, false_implies, ne_eq, not_false_eq_true, not_true_eq_false, eq_self, exIA, exIS, exAI, exAS, exSI, exSA, true_or, or_true, false_or, or_false, Nat.reduceEqDiff, Bool.true_and, Bool.and_true, Bool.false_and, Bool.and_false, Bool.true_eq_false, Bool.false_eq_true, i10, i20, i30, vp0, nc0]
        exact k _ _ w.thr (fun e => absurd e (by decide))
def clrS (σ : St) : St := (σ.1, σ.2.1, σ.2.2.1, σ.2.2.2.1, σ.2.2.2.2.1, 0, σ.2.2.2.2.2.2)
theorem InvS.clr (iS : InvS σ) : InvS (clrS σ) := ⟨iS.1, iS.2.1, iS.2.2.1, fun k hk => absurd hk (Nat.not_lt_zero k)⟩
theorem Wd.clrC {m : St} {o : Ou} (w : Wd X σ m o) : Wd (sI X 114 1 0) (clrS σ) m o := w.txt (n := 0) (tx := zT σ) ⟨w.1, rfl, rfl, fun y hy => ⟨sI_ne (fun e => by rw [e] at hy; revert hy; decide), rfl⟩⟩ ⟨sI_at, by decide, fun k hk => absurd hk (Nat.not_lt_zero k)⟩
theorem Wd.clrM {d : St} {o : Ou} (w : Wd X d σ o) : Wd (sI X 123 6 0) d (clrS σ) o := by
  have ho := w.2.2.2.2.2
  obtain ⟨h1, ⟨h2, h3⟩, h4, h5, h6, h7, h8⟩ := w.2.2.1
  have f : Fr (dRg 123 128) X (sI X 123 6 0) := ⟨w.1, rfl, rfl, fun y hy => ⟨sI_ne (fun e => by rw [e] at hy; revert hy; decide), rfl⟩⟩
  have ks : MS (sI X 123 6 0) (clrS σ) := by
    refine ⟨fun k hk => h1 k hk, ⟨?_, h3⟩, fun j hj k hk => h4 j hj k hk, fun j hj => h5 j hj, sI_at, Nat.zero_le _, fun k hk => absurd hk (Nat.not_lt_zero k)⟩
    rw [sI_nk (by decide)]
    exact h2
  have w1 := w.mod f ks
  have e7 : hI (sI X 123 6 0) 123 7 = o.2.2 := by
    rw [sI_nk (by decide)]
    exact ho
  rw [e7] at w1
  exact w1
theorem op_clearBuffer (iS : InvS σ) : OpN (fun X K => w_X4_clearBuffer 1 X K) (fun X K => w_X5_clearBuffer 123 X K) σ := by
  refine ⟨Int32.ofNat (zN σ), clrS σ, iS.clr, fun X m o K w k => ?_, fun X d o K w k => ?_⟩
  · have q := w.1
    have e1 : hI X 114 1 = Int32.ofNat (zN σ) := w.2.1.2.2.2.1
    simp only [w_X4_clearBuffer, q.t1, q.r1_4, q.t114, e1, hty_sI, hln_sI, hR_sI, cnd1, cnd2, b2i_0, b2i_1, b2i_z, if_true, if_false, true_and, and_true, true_implies, false_implies, ne_eq, not_false_eq_true, not_true_eq_false, eq_self, exIA, exIS, exAI, exAS, exSI, exSA, true_or, or_true, false_or, or_false, Nat.reduceEqDiff, Bool.true_and, Bool.and_true, Bool.false_and, Bool.and_false, Bool.true_eq_false, Bool.false_eq_true, i10, i20, i30, vp0, nc0]
    exact k _ w.clrC
  · have q := w.1
    have w0 := w.thr (v := 0)
    have e6 : hI (sI X 123 7 0) 123 6 = Int32.ofNat (zN σ) := w0.2.2.1.2.2.2.2.1
    simp only [w_X5_clearBuffer, q.t123, e6, hty_sI, hln_sI, hR_sI, cnd1, cnd2, b2i_0, b2i_1, b2i_z, if_true, if_false, true_and, and_true, true_implies, false_implies, ne_eq, not_false_eq_true, not_true_eq_false, eq_self, exIA, exIS, exAI, exAS, exSI, exSA, true_or, or_true, false_or, or_false, Nat.reduceEqDiff, Bool.true_and, Bool.and_true, Bool.false_and, Bool.and_false, Bool.true_eq_false, Bool.false_eq_true, i10, i20, i30, vp0, nc0]
    exact k _ _ w0.clrM
theorem op_session (iS : InvS σ) : OpN (fun X K => w_X4_session 1 X K) (fun X K => w_X5_session 123 X K) σ := by
  refine ⟨zG σ 367, σ, iS, fun X m o K w k => ?_, fun X d o K w k => ?_⟩
  · have q := w.1
    have e1 : hI X 2 12 = zG σ 367 := w.2.1.1 0 12 rfl
    simp only [w_X4_session, q.t1, q.r1_0, q.t2, e1, hty_sI, hln_sI, hR_sI, cnd1, cnd2, b2i_0, b2i_1, b2i_z, if_true, if_false, true_and, and_true, true_implies, false_implies, ne_eq, not_false_eq_true, not_true_eq_false, eq_self, exIA, exIS, exAI, exAS, exSI, exSA, true_or, or_true, false_or, or_false, Nat.reduceEqDiff, Bool.true_and, Bool.and_true, Bool.false_and, Bool.and_false, Bool.true_eq_false, Bool.false_eq_true, i10, i20, i30, vp0, nc0]
    exact k _ w
  · have q := w.1
    have e1 : hI X 124 367 = zG σ 367 := w.rr 367 (by decide)
    simp only [w_X5_session, w_X5_told, q.t123, q.r123_0, q.t124, q.n124, vp367, nc367, e1, hty_sI, hln_sI, hR_sI, cnd1, cnd2, b2i_0, b2i_1, b2i_z, if_true, if_false, true_and, and_true, true_implies, false_implies, ne_eq, not_false_eq_true, not_true_eq_false, eq_self, exIA, exIS, exAI, exAS, exSI, exSA, true_or, or_true, false_or, or_false, Nat.reduceEqDiff, Bool.true_and, Bool.and_true, Bool.false_and, Bool.and_false, Bool.true_eq_false, Bool.false_eq_true, i10, i20, i30, vp0, nc0]
    exact k _ _ w.thr
theorem op_recordings (iS : InvS σ) : OpN (fun X K => w_X4_recordings 1 X K) (fun X K => w_X5_recordings 123 X K) σ := by
  refine ⟨zG σ 368, σ, iS, fun X m o K w k => ?_, fun X d o K w k => ?_⟩
  · have q := w.1
    have e1 : hI X 2 13 = zG σ 368 := w.2.1.1 0 13 rfl
    simp only [w_X4_recordings, q.t1, q.r1_0, q.t2, e1, hty_sI, hln_sI, hR_sI, cnd1, cnd2, b2i_0, b2i_1, b2i_z, if_true, if_false, true_and, and_true, true_implies, false_implies, ne_eq, not_false_eq_true, not_true_eq_false, eq_self, exIA, exIS, exAI, exAS, exSI, exSA, true_or, or_true, false_or, or_false, Nat.reduceEqDiff, Bool.true_and, Bool.and_true, Bool.false_and, Bool.and_false, Bool.true_eq_false, Bool.false_eq_true, i10, i20, i30, vp0, nc0]
    exact k _ w
  · have q := w.1
    have e1 : hI X 124 368 = zG σ 368 := w.rr 368 (by decide)
    simp only [w_X5_recordings, w_X5_told, q.t123, q.r123_0, q.t124, q.n124, vp368, nc368, e1, hty_sI, hln_sI, hR_sI, cnd1, cnd2, b2i_0, b2i_1, b2i_z, if_true, if_false, true_and, and_true, true_implies, false_implies, ne_eq, not_false_eq_true, not_true_eq_false, eq_self, exIA, exIS, exAI, exAS, exSI, exSA, true_or, or_true, false_or, or_false, Nat.reduceEqDiff, Bool.true_and, Bool.and_true, Bool.false_and, Bool.and_false, Bool.true_eq_false, Bool.false_eq_true, i10, i20, i30, vp0, nc0]
    exact k _ _ w.thr
theorem op_wiped (iS : InvS σ) : OpN (fun X K => w_X4_wiped 1 X K) (fun X K => w_X5_wiped 123 X K) σ := by
  refine ⟨zG σ 369, σ, iS, fun X m o K w k => ?_, fun X d o K w k => ?_⟩
  · have q := w.1
    have e1 : hI X 2 14 = zG σ 369 := w.2.1.1 0 14 rfl
    simp only [w_X4_wiped, q.t1, q.r1_0, q.t2, e1, hty_sI, hln_sI, hR_sI, cnd1, cnd2, b2i_0, b2i_1, b2i_z, if_true, if_false, true_and, and_true, true_implies, false_implies, ne_eq, not_false_eq_true, not_true_eq_false, eq_self, exIA, exIS, exAI, exAS, exSI, exSA, true_or, or_true, false_or, or_false, Nat.reduceEqDiff, Bool.true_and, Bool.and_true, Bool.false_and, Bool.and_false, Bool.true_eq_false, Bool.false_eq_true, i10, i20, i30, vp0, nc0]
    exact k _ w
  · have q := w.1
    have e1 : hI X 124 369 = zG σ 369 := w.rr 369 (by decide)
    simp only [w_X5_wiped, w_X5_told, q.t123, q.r123_0, q.t124, q.n124, vp369, nc369, e1, hty_sI, hln_sI, hR_sI, cnd1, cnd2, b2i_0, b2i_1, b2i_z, if_true, if_false, true_and, and_true, true_implies, false_implies, ne_eq, not_false_eq_true, not_true_eq_false, eq_self, exIA, exIS, exAI, exAS, exSI, exSA, true_or, or_true, false_or, or_false, Nat.reduceEqDiff, Bool.true_and, Bool.and_true, Bool.false_and, Bool.and_false, Bool.true_eq_false, Bool.false_eq_true, i10, i20, i30, vp0, nc0]
    exact k _ _ w.thr
theorem op_mixes (iS : InvS σ) : OpN (fun X K => w_X4_mixes 1 X K) (fun X K => w_X5_mixes 123 X K) σ := by
  refine ⟨zG σ 370, σ, iS, fun X m o K w k => ?_, fun X d o K w k => ?_⟩
  · have q := w.1
    have e1 : hI X 2 15 = zG σ 370 := w.2.1.1 0 15 rfl
    simp only [w_X4_mixes, q.t1, q.r1_0, q.t2, e1, hty_sI, hln_sI, hR_sI, cnd1, cnd2, b2i_0, b2i_1, b2i_z, if_true, if_false, true_and, and_true, true_implies, false_implies, ne_eq, not_false_eq_true, not_true_eq_false, eq_self, exIA, exIS, exAI, exAS, exSI, exSA, true_or, or_true, false_or, or_false, Nat.reduceEqDiff, Bool.true_and, Bool.and_true, Bool.false_and, Bool.and_false, Bool.true_eq_false, Bool.false_eq_true, i10, i20, i30, vp0, nc0]
    exact k _ w
  · have q := w.1
    have e1 : hI X 124 370 = zG σ 370 := w.rr 370 (by decide)
    simp only [w_X5_mixes, w_X5_told, q.t123, q.r123_0, q.t124, q.n124, vp370, nc370, e1, hty_sI, hln_sI, hR_sI, cnd1, cnd2, b2i_0, b2i_1, b2i_z, if_true, if_false, true_and, and_true, true_implies, false_implies, ne_eq, not_false_eq_true, not_true_eq_false, eq_self, exIA, exIS, exAI, exAS, exSI, exSA, true_or, or_true, false_or, or_false, Nat.reduceEqDiff, Bool.true_and, Bool.and_true, Bool.false_and, Bool.and_false, Bool.true_eq_false, Bool.false_eq_true, i10, i20, i30, vp0, nc0]
    exact k _ _ w.thr
theorem op_clauses (iS : InvS σ) : OpN (fun X K => w_X4_clauses 1 X K) (fun X K => w_X5_clauses 123 X K) σ := by
  refine ⟨zG σ 366, σ, iS, fun X m o K w k => ?_, fun X d o K w k => ?_⟩
  · have q := w.1
    have e1 : hI X 2 0 = zG σ 366 := w.2.1.1 0 0 rfl
    simp only [w_X4_clauses, q.t1, q.r1_0, q.t2, e1, hty_sI, hln_sI, hR_sI, cnd1, cnd2, b2i_0, b2i_1, b2i_z, if_true, if_false, true_and, and_true, true_implies, false_implies, ne_eq, not_false_eq_true, not_true_eq_false, eq_self, exIA, exIS, exAI, exAS, exSI, exSA, true_or, or_true, false_or, or_false, Nat.reduceEqDiff, Bool.true_and, Bool.and_true, Bool.false_and, Bool.and_false, Bool.true_eq_false, Bool.false_eq_true, i10, i20, i30, vp0, nc0]
    exact k _ w
  · have q := w.1
    have e1 : hI X 124 366 = zG σ 366 := w.rr 366 (by decide)
    simp only [w_X5_clauses, w_X5_told, q.t123, q.r123_0, q.t124, q.n124, vp366, nc366, e1, hty_sI, hln_sI, hR_sI, cnd1, cnd2, b2i_0, b2i_1, b2i_z, if_true, if_false, true_and, and_true, true_implies, false_implies, ne_eq, not_false_eq_true, not_true_eq_false, eq_self, exIA, exIS, exAI, exAS, exSI, exSA, true_or, or_true, false_or, or_false, Nat.reduceEqDiff, Bool.true_and, Bool.and_true, Bool.false_and, Bool.and_false, Bool.true_eq_false, Bool.false_eq_true, i10, i20, i30, vp0, nc0]
    exact k _ _ w.thr
theorem op_savedStates (iS : InvS σ) : OpN (fun X K => w_X4_savedStates 1 X K) (fun X K => w_X5_savedStates 123 X K) σ := by
  refine ⟨Int32.ofNat (zH σ), σ, iS, fun X m o K w k => ?_, fun X d o K w k => ?_⟩
  · have q := w.1
    have e1 : hI X 14 1 = Int32.ofNat (zH σ) := w.2.1.2.1.1
    simp only [w_X4_savedStates, q.t1, q.r1_1, q.t14, e1, hty_sI, hln_sI, hR_sI, cnd1, cnd2, b2i_0, b2i_1, b2i_z, if_true, if_false, true_and, and_true, true_implies, false_implies, ne_eq, not_false_eq_true, not_true_eq_false, eq_self, exIA, exIS, exAI, exAS, exSI, exSA, true_or, or_true, false_or, or_false, Nat.reduceEqDiff, Bool.true_and, Bool.and_true, Bool.false_and, Bool.and_false, Bool.true_eq_false, Bool.false_eq_true, i10, i20, i30, vp0, nc0]
    exact k _ w
  · have q := w.1
    have e1 : hI X 123 2 = Int32.ofNat (zH σ) := w.2.2.1.2.1.1
    simp only [w_X5_savedStates, w_X5_told, q.t123, e1, hty_sI, hln_sI, hR_sI, cnd1, cnd2, b2i_0, b2i_1, b2i_z, if_true, if_false, true_and, and_true, true_implies, false_implies, ne_eq, not_false_eq_true, not_true_eq_false, eq_self, exIA, exIS, exAI, exAS, exSI, exSA, true_or, or_true, false_or, or_false, Nat.reduceEqDiff, Bool.true_and, Bool.and_true, Bool.false_and, Bool.and_false, Bool.true_eq_false, Bool.false_eq_true, i10, i20, i30, vp0, nc0]
    exact k _ _ w.thr
theorem op_bestTongue {n : Nat} (iS : InvS σ) (i : Inv (zG σ) n) : OpN (fun X K => w_X4_bestTongue 1 X K) (fun X K => w_X5_bestTongue 123 X K) σ := by
  refine ⟨Int32.ofNat (bsTo (fun t => sTaken (zG σ) n t) 2), σ, iS, fun X m o K w k => ?_, fun X d o K w k => ?_⟩
  · have q := w.1
    simp only [w_X4_bestTongue, q.t1, q.r1_0, q.t2, hty_sI, hln_sI, hR_sI, cnd1, cnd2, b2i_0, b2i_1, b2i_z, if_true, if_false, true_and, and_true, true_implies, false_implies, ne_eq, not_false_eq_true, not_true_eq_false, eq_self, exIA, exIS, exAI, exAS, exSI, exSA, true_or, or_true, false_or, or_false, Nat.reduceEqDiff, Bool.true_and, Bool.and_true, Bool.false_and, Bool.and_false, Bool.true_eq_false, Bool.false_eq_true, i10, i20, i30, vp0, nc0]
    exact s_mostTakenTongue q w.2.1.1 i.cn (k _ w)
  · have q := w.1
    simp only [w_X5_bestTongue, w_X5_told, q.t123, hty_sI, hln_sI, hR_sI, cnd1, cnd2, b2i_0, b2i_1, b2i_z, if_true, if_false, true_and, and_true, true_implies, false_implies, ne_eq, not_false_eq_true, not_true_eq_false, eq_self, exIA, exIS, exAI, exAS, exSI, exSA, true_or, or_true, false_or, or_false, Nat.reduceEqDiff, Bool.true_and, Bool.and_true, Bool.false_and, Bool.and_false, Bool.true_eq_false, Bool.false_eq_true, i10, i20, i30, vp0, nc0]
    exact s_best q w.rr i.cn ⟨q.t123, q.t123, k _ _ w.thr⟩
theorem op_loudestState {n : Nat} (iS : InvS σ) (i : Inv (zG σ) n) : OpN (fun X K => w_X4_loudestState 1 X K) (fun X K => w_X5_loudestState 123 X K) σ := by
  refine ⟨Int32.ofNat (bsTo (fun s => sSpoken (zG σ) n (Int32.ofNat s)) 4), σ, iS, fun X m o K w k => ?_, fun X d o K w k => ?_⟩
  · have q := w.1
    simp only [w_X4_loudestState, q.t1, q.r1_0, q.t2, hty_sI, hln_sI, hR_sI, cnd1, cnd2, b2i_0, b2i_1, b2i_z, if_true, if_false, true_and, and_true, true_implies, false_implies, ne_eq, not_false_eq_true, not_true_eq_false, eq_self, exIA, exIS, exAI, exAS, exSI, exSA, true_or, or_true, false_or, or_false, Nat.reduceEqDiff, Bool.true_and, Bool.and_true, Bool.false_and, Bool.and_false, Bool.true_eq_false, Bool.false_eq_true, i10, i20, i30, vp0, nc0]
    exact s_mostLipsState q w.2.1.1 i.cn (k _ w)
  · have q := w.1
    simp only [w_X5_loudestState, w_X5_told, q.t123, hty_sI, hln_sI, hR_sI, cnd1, cnd2, b2i_0, b2i_1, b2i_z, if_true, if_false, true_and, and_true, true_implies, false_implies, ne_eq, not_false_eq_true, not_true_eq_false, eq_self, exIA, exIS, exAI, exAS, exSI, exSA, true_or, or_true, false_or, or_false, Nat.reduceEqDiff, Bool.true_and, Bool.and_true, Bool.false_and, Bool.and_false, Bool.true_eq_false, Bool.false_eq_true, i10, i20, i30, vp0, nc0]
    exact s_loudest q w.rr i.cn ⟨q.t123, q.t123, k _ _ w.thr⟩
end PO2
