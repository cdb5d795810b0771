/-! the calls that change the row: class and reference do the same -/
section PN
variable {X : XH} {g : Row} {c t s r n : Nat}
theorem vp366 : vp_in (366 : Int32) 371 = True := vp3 (i := 366) (by decide)
theorem vp367 : vp_in (367 : Int32) 371 = True := vp3 (i := 367) (by decide)
theorem vp368 : vp_in (368 : Int32) 371 = True := vp3 (i := 368) (by decide)
theorem vp369 : vp_in (369 : Int32) 371 = True := vp3 (i := 369) (by decide)
theorem vp370 : vp_in (370 : Int32) 371 = True := vp3 (i := 370) (by decide)
theorem nc366 : (366 : Int32).toNatClampNeg = 366 := rfl
theorem nc367 : (367 : Int32).toNatClampNeg = 367 := rfl
theorem nc368 : (368 : Int32).toNatClampNeg = 368 := rfl
theorem nc369 : (369 : Int32).toNatClampNeg = 369 := rfl
theorem nc370 : (370 : Int32).toNatClampNeg = 370 := rfl
theorem ncv {i : Nat} (hi : i < 371) : (Int32.ofNat i).toNatClampNeg = i := nc (by omega)
theorem e_putTranslation {u v : Int32} {K : XH → Prop} (q : Shp X) (hc : c < 24) (ht : t < 3) : w_X3_putTranslation 2 (Int32.ofNat c) (Int32.ofNat t) u v X K = K (sI (sI X 7 (3 * c + t) u) 8 (3 * c + t) v) := by
  have q2 : Shp (sI X 7 (3 * c + t) u) := q
  simp only [w_X3_putTranslation, w_X3_place, q.t2, q.r2_5, q.r2_6, pl_eq, put_eq q.t7 q.n7 (show 3 * c + t < 72 by omega) (by decide), put_eq q2.t8 q2.n8 (show 3 * c + t < 72 by omega) (by decide), hty_sI, hln_sI, hR_sI, cnd1, cnd2, b2i_0, b2i_1, b2i_z, if_true, if_false, true_and, and_true, true_implies, false_implies, ne_eq, not_false_eq_true, not_true_eq_false, eq_self, exIA, exIS, exAI, exAS, exSI, exSA, true_or, or_true, false_or, or_false, Nat.reduceEqDiff, Bool.true_and, Bool.and_true, Bool.false_and, Bool.and_false, Bool.true_eq_false, Bool.false_eq_true, i10, i20, i30, vp0, nc0]
theorem e_putStamina {u : Int32} {K : XH → Prop} (q : Shp X) (hs : s < 5) (ht : t < 3) : w_X3_putStamina 2 (Int32.ofNat s) (Int32.ofNat t) u X K = K (sI X 10 (3 * s + t) u) := by
  simp only [w_X3_putStamina, w_X3_place, q.t2, q.r2_8, pl_eq, put_eq q.t10 q.n10 (show 3 * s + t < 15 by omega) (by decide), hty_sI, hln_sI, hR_sI, cnd1, cnd2, b2i_0, b2i_1, b2i_z, if_true, if_false, true_and, and_true, true_implies, false_implies, ne_eq, not_false_eq_true, not_true_eq_false, eq_self, exIA, exIS, exAI, exAS, exSI, exSA, true_or, or_true, false_or, or_false, Nat.reduceEqDiff, Bool.true_and, Bool.and_true, Bool.false_and, Bool.and_false, Bool.true_eq_false, Bool.false_eq_true, i10, i20, i30, vp0, nc0]
theorem e_take {K : XH → Prop} (q : Shp X) (h : TR X 2 g) (hc : c < 24) (ht : t < 3) (hs : s < 5) (eS : gS g c = Int32.ofNat s) : w_X3_take 2 (Int32.ofNat c) (Int32.ofNat t) X K = K (sI (sI (sI X 11 (3 * s + t) (gU g s t + gB g c t)) 9 (3 * c + t) (g 367 + 1)) 2 13 (g 368 + 1)) := by
  have q2 : Shp (sI X 11 (3 * s + t) (gU g s t + gB g c t)) := q
  have e12 : hI (sI X 11 (3 * s + t) (gU g s t + gB g c t)) 2 12 = g 367 := by rw [sI_ne (by decide)]; exact h 0 12 rfl
  have e13 : hI (sI (sI X 11 (3 * s + t) (gU g s t + gB g c t)) 9 (3 * c + t) (g 367 + 1)) 2 13 = g 368 := by rw [sI_ne (by decide), sI_ne (by decide)]; exact h 0 13 rfl
  simp only [w_X3_take, w_X3_place, q.t2, q.r2_9, q.r2_7, e_speakerAt q h hc, eS, at_eq q.t11 q.n11 (show 3 * s + t < 15 by omega) (by decide), h.U hs ht, e_spokenAt q h hc ht, pl_eq, put_eq q.t11 q.n11 (show 3 * s + t < 15 by omega) (by decide), put_eq q2.t9 q2.n9 (show 3 * c + t < 72 by omega) (by decide), e12, e13, hty_sI, hln_sI, hR_sI, cnd1, cnd2, b2i_0, b2i_1, b2i_z, if_true, if_false, true_and, and_true, true_implies, false_implies, ne_eq, not_false_eq_true, not_true_eq_false, eq_self, exIA, exIS, exAI, exAS, exSI, exSA, true_or, or_true, false_or, or_false, Nat.reduceEqDiff, Bool.true_and, Bool.and_true, Bool.false_and, Bool.and_false, Bool.true_eq_false, Bool.false_eq_true, i10, i20, i30, vp0, nc0]
theorem e_dropTaken {K : XH → Prop} (q : Shp X) (h : TR X 2 g) (hc : c < 24) (ht : t < 3) (hr : r < 4) (eR : gR g c = Int32.ofNat r) : w_X3_dropTaken 2 (Int32.ofNat c) (Int32.ofNat t) X K = K (sI (sI (sI (sI X 9 (3 * c + t) 0) 2 14 (g 369 + 1)) 12 (3 * r + t) 0) 13 (3 * r + t) 0) := by
  have e14 : hI (sI X 9 (3 * c + t) 0) 2 14 = g 369 := by rw [sI_ne (by decide)]; exact h 0 14 rfl
  have q2 : Shp (sI (sI X 9 (3 * c + t) 0) 2 14 (g 369 + 1)) := q
  have e3 : w_X3_reelAt 2 (Int32.ofNat c) (sI (sI X 9 (3 * c + t) 0) 2 14 (g 369 + 1)) = fun K => K (Int32.ofNat r) (sI (sI X 9 (3 * c + t) 0) 2 14 (g 369 + 1)) := by
    funext K
    have e5 : hI (sI (sI X 9 (3 * c + t) 0) 2 14 (g 369 + 1)) 3 c = Int32.ofNat r := by rw [sI_ne (by decide), sI_ne (by decide), h.R hc]; exact eR
    simp only [w_X3_reelAt, q2.t2, q2.r2_1, at_eq q2.t3 q2.n3 hc (by decide), e5, hty_sI, hln_sI, hR_sI, cnd1, cnd2, b2i_0, b2i_1, b2i_z, if_true, if_false, true_and, and_true, true_implies, false_implies, ne_eq, not_false_eq_true, not_true_eq_false, eq_self, exIA, exIS, exAI, exAS, exSI, exSA, true_or, or_true, false_or, or_false, Nat.reduceEqDiff, Bool.true_and, Bool.and_true, Bool.false_and, Bool.and_false, Bool.true_eq_false, Bool.false_eq_true, i10, i20, i30, vp0, nc0]
  simp only [w_X3_dropTaken, w_X3_place, q.t2, q.r2_7, pl_eq, put_eq q.t9 q.n9 (show 3 * c + t < 72 by omega) (by decide), e14, e3, e_unmix q2 hr ht, hty_sI, hln_sI, hR_sI, cnd1, cnd2, b2i_0, b2i_1, b2i_z, if_true, if_false, true_and, and_true, true_implies, false_implies, ne_eq, not_false_eq_true, not_true_eq_false, eq_self, exIA, exIS, exAI, exAS, exSI, exSA, true_or, or_true, false_or, or_false, Nat.reduceEqDiff, Bool.true_and, Bool.and_true, Bool.false_and, Bool.and_false, Bool.true_eq_false, Bool.false_eq_true, i10, i20, i30, vp0, nc0]
theorem e_putMix {K : XH → Prop} (q : Shp X) (h : TR X 2 g) (hr : r < 4) (ht : t < 3) : w_X3_putMix 2 (Int32.ofNat r) (Int32.ofNat t) X K = K (sI (sI X 12 (3 * r + t) 1) 2 15 (g 370 + 1)) := by
  have e15 : hI (sI X 12 (3 * r + t) 1) 2 15 = g 370 := by rw [sI_ne (by decide)]; exact h 0 15 rfl
  simp only [w_X3_putMix, w_X3_place, q.t2, q.r2_10, pl_eq, put_eq q.t12 q.n12 (show 3 * r + t < 12 by omega) (by decide), e15, hty_sI, hln_sI, hR_sI, cnd1, cnd2, b2i_0, b2i_1, b2i_z, if_true, if_false, true_and, and_true, true_implies, false_implies, ne_eq, not_false_eq_true, not_true_eq_false, eq_self, exIA, exIS, exAI, exAS, exSI, exSA, true_or, or_true, false_or, or_false, Nat.reduceEqDiff, Bool.true_and, Bool.and_true, Bool.false_and, Bool.and_false, Bool.true_eq_false, Bool.false_eq_true, i10, i20, i30, vp0, nc0]
theorem e_putSignature {K : XH → Prop} (q : Shp X) (h : TR X 2 g) (hs : s < 5) (hr : r < 4) (ht : t < 3) : w_X3_putSignature 2 (Int32.ofNat s) (Int32.ofNat r) (Int32.ofNat t) X K = K (sI X 13 (3 * r + t) (gZ g r t ||| (1 <<< (Int32.ofNat s &&& 31)))) := by
  simp only [w_X3_putSignature, w_X3_place, q.t2, q.r2_11, at_eq q.t13 q.n13 (show 3 * r + t < 12 by omega) (by decide), h.Z hr ht, pl_eq, put_eq q.t13 q.n13 (show 3 * r + t < 12 by omega) (by decide), hty_sI, hln_sI, hR_sI, cnd1, cnd2, b2i_0, b2i_1, b2i_z, if_true, if_false, true_and, and_true, true_implies, false_implies, ne_eq, not_false_eq_true, not_true_eq_false, eq_self, exIA, exIS, exAI, exAS, exSI, exSA, true_or, or_true, false_or, or_false, Nat.reduceEqDiff, Bool.true_and, Bool.and_true, Bool.false_and, Bool.and_false, Bool.true_eq_false, Bool.false_eq_true, i10, i20, i30, vp0, nc0]
theorem gRs_0 : (gRs g c t ≤ 0) = (gRs g c t = 0) := by
  unfold gRs
  split
  · decide
  · split
    · decide
    · split
      · decide
      · split <;> decide
theorem pCA_eq {x f : Nat} (hF : gF g c t = Int32.ofNat f) (hf : f ≤ 60) (h1 : 1 ≤ x) (h2 : x ≤ 59) : pCA g n c t (Int32.ofNat x) = (!(decide (gF g c t ≤ Int32.ofNat x)) && (!(pTk g c t) && decide (sAnnex g n t + Int32.ofNat x ≤ 99))) := by
  unfold pCA pHas
  have e1 : (gF g c t - Int32.ofNat x < 1) = (gF g c t ≤ Int32.ofNat x) := by
    rw [hF, Int32.lt_iff_toInt_lt, Int32.le_iff_toInt_le, sub_toInt (by rw [of_toInt (by omega), of_toInt (by omega)]; omega) (by rw [of_toInt (by omega), of_toInt (by omega)]; omega), of_toInt (by omega), of_toInt (by omega), t1]
    exact propext ⟨fun _ => by omega, fun _ => by omega⟩
  have e2 : ¬ (gF g c t ≤ Int32.ofNat x) → ¬ (gF g c t ≤ 0) := by
    intro h3 h4
    refine h3 ?_
    rw [hF, show (0 : Int32) = Int32.ofNat 0 from rfl, of_le (by omega) (by omega)] at h4
    rw [hF, of_le (by omega) (by omega)]
    omega
  have e3 : decide (99 < sAnnex g n t + Int32.ofNat x) = !(decide (sAnnex g n t + Int32.ofNat x ≤ 99)) := by
    by_cases h5 : sAnnex g n t + Int32.ofNat x ≤ 99
    · have : ¬ (99 < sAnnex g n t + Int32.ofNat x) := by rw [Int32.not_lt]; exact h5
      simp [h5, this]
    · have : 99 < sAnnex g n t + Int32.ofNat x := by rw [Int32.not_le] at h5; exact h5
      simp [this, h5]
  simp only [e1, e3, Bool.not_not]
  by_cases h6 : gF g c t ≤ Int32.ofNat x
  · simp [h6]
  · simp [h6, e2 h6]
theorem addG_366 {S L Y : Int32} (hr : r < 4) : addG g n r S L Y 366 = Int32.ofNat n + 1 := by
  unfold addG unmA unm
  rw [upr_ne (by omega), upr_ne (by omega), upr_ne (by omega), upr_ne (by omega), upr_ne (by omega), upr_ne (by omega), upr_eq]
theorem sgn_in : ∀ z, z < 32 → ∀ s, s < 5 → ∃ z', z' < 32 ∧ Int32.ofNat z ||| (1 <<< (Int32.ofNat s &&& 31)) = Int32.ofNat z' := by
  intro z hz s hs
  have h : (Int32.ofNat z ||| (1 <<< (Int32.ofNat s &&& 31))).toNatClampNeg < 32 ∧ Int32.ofNat (Int32.ofNat z ||| (1 <<< (Int32.ofNat s &&& 31))).toNatClampNeg = Int32.ofNat z ||| (1 <<< (Int32.ofNat s &&& 31)) := by
    revert z
    revert s
    decide +kernel
  exact ⟨_, h.1, h.2.symm⟩
def takeG (g : Row) (c t s : Nat) : Row := upr (upr (upr g (327 + (3 * s + t)) (gU g s t + gB g c t)) (13 * c + 10 + t) (g 367 + 1)) 368 (g 368 + 1)
theorem takeG_S (hc : c < 24) (ht : t < 3) (hs : s < 5) : gS (takeG g c t s) c = gS g c := (upr_ne (by omega)).trans ((upr_ne (by omega)).trans (upr_ne (by omega)))
theorem takeG_inv (i : Inv g n) (hc : c < n) (ht : t < 3) (hs : s < 5) (eS : gS g c = Int32.ofNat s) (h0 : gRs g c t = 0) : Inv (takeG g c t s) n := by
  have hn2 := i.1.2
  obtain ⟨e, he, eE⟩ := i.2.2.2.2.2
  obtain ⟨b, hb, eB⟩ := (i.2.1 c hc).B ht
  obtain ⟨x, u, h1, h2, h3, e1, e2⟩ := i.2.2.2.1 s hs t ht
  have h4 : gB g c t ≤ gSn g s t := by
    unfold gRs at h0
    rw [eS, nc (by omega)] at h0
    split at h0
    · exact absurd h0 (by decide)
    · split at h0
      · exact absurd h0 (by decide)
      · split at h0
        · exact absurd h0 (by decide)
        · split at h0
          · assumption
          · exact absurd h0 (by decide)
  unfold gSn at h4
  rw [eB, e1, e2, ← Int32.ofNat_sub _ _ h3, of_le (by omega) (by omega)] at h4
  unfold takeG
  refine Inv.acc8 ?_ (by decide)
  rw [eE, of_s]
  have i1 : Inv (upr g (327 + (3 * s + t)) (gU g s t + gB g c t)) n := by
    rw [e2, eB, ← Int32.ofNat_add]
    exact i.setU hs ht h1 h2 (by omega) e1
  exact i1.clause hc (fun k hk => upr_ne (by omega)) ((i1.2.1 c hc).setT ht (by omega))
/-- what the voices have used is 0 -/
def zUi (g : Row) (i : Nat) : Row := fun k => if 327 ≤ k ∧ k < 327 + i then 0 else g k
theorem zUi_s {i : Nat} : upr (zUi g i) (327 + i) 0 = zUi g (i + 1) := by
  funext k
  unfold upr zUi
  by_cases h1 : k = 327 + i
  · rw [if_pos h1, if_pos (by omega)]
  · rw [if_neg h1]
    by_cases h2 : 327 ≤ k ∧ k < 327 + i
    · rw [if_pos h2, if_pos (by omega)]
    · rw [if_neg h2, if_neg (by omega)]
theorem zUi_0 : zUi g 0 = g := by
  funext k
  unfold zUi
  rw [if_neg (by omega)]
theorem zUi_ne {i k : Nat} (h : k < 327 ∨ 342 ≤ k) (hi : i ≤ 15) : zUi g i k = g k := by
  unfold zUi
  rw [if_neg (by omega)]
theorem s_beginSession {cc m : St} {o : Ou} {K : XH → Prop} (w : Wd X cc m o) (k : ∀ X1, Wd X1 (zUi (upr (zG cc) 367 (zG cc 367 + 1)) 15, cc.2) m o → K X1) : w_X3_beginSession 2 X K := by
  have q := w.1
  have e : hI X 2 12 = zG cc 367 := w.2.1.1 0 12 rfl
  unfold w_X3_beginSession
  rw [e]
  refine ⟨q.t2, ?_⟩
  intro P hP
  have := dwn (n := 15) (p := fun i => ∀ X1, Wd X1 (zUi (upr (zG cc) 367 (zG cc 367 + 1)) i, cc.2) m o → P 2 (Int32.ofNat i) X1) (fun X1 w1 => hP _ _ _ ?_) (fun i hi ih X1 w1 => hP _ _ _ ?_)
  · refine this _ ?_
    rw [zUi_0]
    exact w.p12
  · clear hP
    have q1 := w1.1
    simp only [q1.t2, q1.r2_9, q1.t11, q1.n11, ltt (show 15 < 4096 by decide), show (100 ≤ 100) = True from by decide, hty_sI, hln_sI, hR_sI, cnd1, cnd2, b2i_0, b2i_1, b2i_z, if_true, if_false, true_and, and_true, true_implies, false_implies, ne_eq, not_false_eq_true, not_true_eq_false, eq_self, exIA, exIS, exAI, exAS, exSI, exSA, true_or, or_true, false_or, or_false, Nat.reduceEqDiff, Bool.true_and, Bool.and_true, Bool.false_and, Bool.and_false, Bool.true_eq_false, Bool.false_eq_true, i10, i20, i30, vp0, nc0]
    exact k X1 w1
  · clear hP
    have q1 := w1.1
    simp only [q1.t2, q1.r2_9, q1.t11, q1.n11, ltl hi (show 15 < 4096 by decide), vp_of hi (show 15 < 4096 by decide), nc (show i < 4096 by omega), of_s, show (100 ≤ 100) = True from by decide, hty_sI, hln_sI, hR_sI, cnd1, cnd2, b2i_0, b2i_1, b2i_z, if_true, if_false, true_and, and_true, true_implies, false_implies, ne_eq, not_false_eq_true, not_true_eq_false, eq_self, exIA, exIS, exAI, exAS, exSI, exSA, true_or, or_true, false_or, or_false, Nat.reduceEqDiff, Bool.true_and, Bool.and_true, Bool.false_and, Bool.and_false, Bool.true_eq_false, Bool.false_eq_true, i10, i20, i30, vp0, nc0]
    refine ih _ ?_
    rw [← zUi_s]
    exact w1.pU1 hi
theorem s_nextSes46 {m cc : St} {o : Ou} {K : Int32 → XH → Prop} (w : Wd X m cc o) (k : ∀ X1, Wd X1 m (zUi (zG cc) 15, cc.2) o → K (zG cc 367) X1) : w_X5_nextSession_46 123 0 X K := by
  intro P hP
  have h15 : ∀ {i : Nat}, i < 15 → ((15 : Int32) ≤ Int32.ofNat i) = False := fun hi => ltl hi (by decide)
  have h15t : ((15 : Int32) ≤ Int32.ofNat 15) = True := ltt (by decide)
  have ix : ∀ i : Nat, (327 : Int32) + Int32.ofNat i = Int32.ofNat (327 + i) := fun i => by rw [Int32.ofNat_add]; rfl
  have := dwn (n := 15) (p := fun i => ∀ X1, Wd X1 m (zUi (zG cc) i, cc.2) o → P 123 (Int32.ofNat i) X1) (fun X1 w1 => hP _ _ _ ?_) (fun i hi ih X1 w1 => hP _ _ _ ?_)
  · refine this _ ?_
    rw [zUi_0]
    exact w
  · clear hP
    have q1 := w1.1
    have e : hI X1 124 367 = zG cc 367 := (w1.rr 367 (by decide)).trans (show zUi (zG cc) 15 367 = zG cc 367 from zUi_ne (by omega) (by decide))
    simp only [h15t, q1.t123, q1.r123_0, q1.t124, q1.n124, vp367, nc367, e, hty_sI, hln_sI, hR_sI, cnd1, cnd2, b2i_0, b2i_1, b2i_z, if_true, if_false, true_and, and_true, true_implies, false_implies, ne_eq, not_false_eq_true, not_true_eq_false, eq_self, exIA, exIS, exAI, exAS, exSI, exSA, true_or, or_true, false_or, or_false, Nat.reduceEqDiff, Bool.true_and, Bool.and_true, Bool.false_and, Bool.and_false, Bool.true_eq_false, Bool.false_eq_true, i10, i20, i30, vp0, nc0]
    exact k X1 w1
  · clear hP
    have q1 := w1.1
    simp only [h15 hi, q1.t123, q1.r123_0, q1.t124, q1.n124, ix, vp3 (show 327 + i < 371 by omega), nc (show 327 + i < 4096 by omega), of_s, hty_sI, hln_sI, hR_sI, cnd1, cnd2, b2i_0, b2i_1, b2i_z, if_true, if_false, true_and, and_true, true_implies, false_implies, ne_eq, not_false_eq_true, not_true_eq_false, eq_self, exIA, exIS, exAI, exAS, exSI, exSA, true_or, or_true, false_or, or_false, Nat.reduceEqDiff, Bool.true_and, Bool.and_true, Bool.false_and, Bool.and_false, Bool.true_eq_false, Bool.false_eq_true, i10, i20, i30, vp0, nc0]
    refine ih _ ?_
    rw [← zUi_s]
    exact w1.mp (by omega)
end PN

section PN2
theorem op_addClause {σ : St} {n : Nat} (iS : InvS σ) (i : Inv (zG σ) n) (a b e : Int32) : OpI (fun X K => w_L_addClause 1 a b e 129 X K) (fun X K => w_X5_addClause 123 a b e X K) σ := by
  have hn := i.cn
  cases h0 : inR a
  · skip
    refine ⟨1, 0, σ, iS, fun X m o K w k => ?_, fun X d o K w k => ?_⟩
    · have q := w.1
      have h : TR X 2 (zG σ) := w.2.1.1
      simp only [w_L_addClause, w_X4_addClause, q.t1, q.r1_0, q.r1_1, q.t2, q.t14, e_checkReel, e_checkState, h0, hty_sI, hln_sI, hR_sI, cnd1, cnd2, b2i_0, b2i_1, b2i_z, if_true, if_false, true_and, and_true, true_implies, false_implies, ne_eq, not_false_eq_true, not_true_eq_false, eq_self, exIA, exIS, exAI, exAS, exSI, exSA, true_or, or_true, false_or, or_false, Nat.reduceEqDiff, Bool.true_and, Bool.and_true, Bool.false_and, Bool.and_false, Bool.true_eq_false, Bool.false_eq_true, i10, i20, i30, vp0, nc0]
      exact k _ _ w (fun e => absurd e (by decide))
    · have q := w.1
      have h := w.rr
      simp only [w_X5_addClause, w_X5_addClause_51, q.t123, q.r123_0, q.t124, q.n124, x_isReel, x_isState, qR, qS, h0, rf0 q, rf1 q, rf2 q, rf3 q, hty_sI, hln_sI, hR_sI, cnd1, cnd2, b2i_0, b2i_1, b2i_z, if_true, if_false, true_and, and_true, true_implies, false_implies, ne_eq, not_false_eq_true, not_true_eq_false, eq_self, exIA, exIS, exAI, exAS, exSI, exSA, true_or, or_true, false_or, or_false, Nat.reduceEqDiff, Bool.true_and, Bool.and_true, Bool.false_and, Bool.and_false, Bool.true_eq_false, Bool.false_eq_true, i10, i20, i30, vp0, nc0]
      exact k _ _ w.thr (fun e => absurd e (by decide))
  · skip
    cases h1 : inS b
    · skip
      refine ⟨1, 0, σ, iS, fun X m o K w k => ?_, fun X d o K w k => ?_⟩
      · have q := w.1
        have h : TR X 2 (zG σ) := w.2.1.1
        simp only [w_L_addClause, w_X4_addClause, q.t1, q.r1_0, q.r1_1, q.t2, q.t14, e_checkReel, e_checkState, h0, h1, hty_sI, hln_sI, hR_sI, cnd1, cnd2, b2i_0, b2i_1, b2i_z, if_true, if_false, true_and, and_true, true_implies, false_implies, ne_eq, not_false_eq_true, not_true_eq_false, eq_self, exIA, exIS, exAI, exAS, exSI, exSA, true_or, or_true, false_or, or_false, Nat.reduceEqDiff, Bool.true_and, Bool.and_true, Bool.false_and, Bool.and_false, Bool.true_eq_false, Bool.false_eq_true, i10, i20, i30, vp0, nc0]
        exact k _ _ w (fun e => absurd e (by decide))
      · have q := w.1
        have h := w.rr
        simp only [w_X5_addClause, w_X5_addClause_51, q.t123, q.r123_0, q.t124, q.n124, x_isReel, x_isState, qR, qS, h0, h1, rf0 q, rf1 q, rf2 q, rf3 q, hty_sI, hln_sI, hR_sI, cnd1, cnd2, b2i_0, b2i_1, b2i_z, if_true, if_false, true_and, and_true, true_implies, false_implies, ne_eq, not_false_eq_true, not_true_eq_false, eq_self, exIA, exIS, exAI, exAS, exSI, exSA, true_or, or_true, false_or, or_false, Nat.reduceEqDiff, Bool.true_and, Bool.and_true, Bool.false_and, Bool.and_false, Bool.true_eq_false, Bool.false_eq_true, i10, i20, i30, vp0, nc0]
        exact k _ _ w.thr (fun e => absurd e (by decide))
    · skip
      obtain ⟨r, hr, rfl⟩ := inR_ex h0
      obtain ⟨s, hs, rfl⟩ := inS_ex h1
      cases p0 : inG e 4 60
      · skip
        refine ⟨2, 0, σ, iS, fun X m o K w k => ?_, fun X d o K w k => ?_⟩
        · have q := w.1
          have h : TR X 2 (zG σ) := w.2.1.1
          simp only [w_L_addClause, w_X4_addClause, q.t1, q.r1_0, q.r1_1, q.t2, q.t14, e_checkReel, e_checkState, e_checkRange, h0, h1, p0, hty_sI, hln_sI, hR_sI, cnd1, cnd2, b2i_0, b2i_1, b2i_z, if_true, if_false, true_and, and_true, true_implies, false_implies, ne_eq, not_false_eq_true, not_true_eq_false, eq_self, exIA, exIS, exAI, exAS, exSI, exSA, true_or, or_true, false_or, or_false, Nat.reduceEqDiff, Bool.true_and, Bool.and_true, Bool.false_and, Bool.and_false, Bool.true_eq_false, Bool.false_eq_true, i10, i20, i30, vp0, nc0]
          exact k _ _ w (fun e => absurd e (by decide))
        · have q := w.1
          have h := w.rr
          simp only [w_X5_addClause, w_X5_addClause_51, q.t123, q.r123_0, q.t124, q.n124, x_isReel, x_isState, qR, qS, x_in, qG (lo := 4) (hi := 60), h0, h1, p0, rf0 q, rf1 q, rf2 q, rf3 q, hty_sI, hln_sI, hR_sI, cnd1, cnd2, b2i_0, b2i_1, b2i_z, if_true, if_false, true_and, and_true, true_implies, false_implies, ne_eq, not_false_eq_true, not_true_eq_false, eq_self, exIA, exIS, exAI, exAS, exSI, exSA, true_or, or_true, false_or, or_false, Nat.reduceEqDiff, Bool.true_and, Bool.and_true, Bool.false_and, Bool.and_false, Bool.true_eq_false, Bool.false_eq_true, i10, i20, i30, vp0, nc0]
          exact k _ _ w.thr (fun e => absurd e (by decide))
      · skip
        obtain ⟨l, hl1, hl2, rfl⟩ := inG_ex (lo := 4) (hi := 60) (by decide) (by decide) p0
        by_cases p1 : n < 24
        rotate_left
        · skip
          have h24 := hn.2
          have e24 : n = 24 := by omega
          have f1 : (Int32.ofNat n < 24) = False := by rw [e24]; decide
          have f2 : (Int32.ofNat n = 24) = True := by rw [e24]; decide
          refine ⟨3, 0, σ, iS, fun X m o K w k => ?_, fun X d o K w k => ?_⟩
          · have q := w.1
            have h : TR X 2 (zG σ) := w.2.1.1
            simp only [w_L_addClause, w_X4_addClause, q.t1, q.r1_0, q.r1_1, q.t2, q.t14, e_checkReel, e_checkState, e_checkRange, h.cn hn, h0, h1, p0, p1, f1, f2, hty_sI, hln_sI, hR_sI, cnd1, cnd2, b2i_0, b2i_1, b2i_z, if_true, if_false, true_and, and_true, true_implies, false_implies, ne_eq, not_false_eq_true, not_true_eq_false, eq_self, exIA, exIS, exAI, exAS, exSI, exSA, true_or, or_true, false_or, or_false, Nat.reduceEqDiff, Bool.true_and, Bool.and_true, Bool.false_and, Bool.and_false, Bool.true_eq_false, Bool.false_eq_true, i10, i20, i30, vp0, nc0]
            exact k _ _ w (fun e => absurd e (by decide))
          · have q := w.1
            have h := w.rr
            simp only [w_X5_addClause, w_X5_addClause_51, q.t123, q.r123_0, q.t124, q.n124, x_isReel, x_isState, qR, qS, x_in, qG (lo := 4) (hi := 60), vp366, nc366, (h 366 (by decide)).trans hn.1, h0, h1, p0, p1, f1, f2, rf0 q, rf1 q, rf2 q, rf3 q, hty_sI, hln_sI, hR_sI, cnd1, cnd2, b2i_0, b2i_1, b2i_z, if_true, if_false, true_and, and_true, true_implies, false_implies, ne_eq, not_false_eq_true, not_true_eq_false, eq_self, exIA, exIS, exAI, exAS, exSI, exSA, true_or, or_true, false_or, or_false, Nat.reduceEqDiff, Bool.true_and, Bool.and_true, Bool.false_and, Bool.and_false, Bool.true_eq_false, Bool.false_eq_true, i10, i20, i30, vp0, nc0]
            exact k _ _ w.thr (fun e => absurd e (by decide))
        · skip
          have f1 : (Int32.ofNat n < 24) = True := (of_lt (j := 24) (by omega) (by decide)).trans (eq_true p1)
          have f2 : (Int32.ofNat n = 24) = False := (of_inj (j := 24) (by omega) (by decide)).trans (eq_false (by omega))
          have i' : Inv (addG (zG σ) n r (Int32.ofNat s) (Int32.ofNat l) (Int32.ofNat 0)) (n + 1) := by
            exact i.add p1 hr hs hl1 hl2 (Nat.zero_le _) (Nat.zero_le _)
          refine ⟨0, Int32.ofNat n, ((addG (zG σ) n r (Int32.ofNat s) (Int32.ofNat l) (Int32.ofNat 0)), (pushS σ).2), iS.push i', fun X m o K w k => ?_, fun X d o K w k => ?_⟩
          · have q := w.1
            have h : TR X 2 (zG σ) := w.2.1.1
            simp only [w_L_addClause, w_X4_addClause, q.t1, q.r1_0, q.r1_1, q.t2, q.t14, e_checkReel, e_checkState, e_checkRange, h.cn hn, h0, h1, p0, p1, f1, f2, hty_sI, hln_sI, hR_sI, cnd1, cnd2, b2i_0, b2i_1, b2i_z, if_true, if_false, true_and, and_true, true_implies, false_implies, ne_eq, not_false_eq_true, not_true_eq_false, eq_self, exIA, exIS, exAI, exAS, exSI, exSA, true_or, or_true, false_or, or_false, Nat.reduceEqDiff, Bool.true_and, Bool.and_true, Bool.false_and, Bool.and_false, Bool.true_eq_false, Bool.false_eq_true, i10, i20, i30, vp0, nc0]
            refine s_push w (fun X1 w1 => ?_)
            have q1 := w1.1
            simp only [q1.t1, q1.r1_0, q1.t2, hty_sI, hln_sI, hR_sI, cnd1, cnd2, b2i_0, b2i_1, b2i_z, if_true, if_false, true_and, and_true, true_implies, false_implies, ne_eq, not_false_eq_true, not_true_eq_false, eq_self, exIA, exIS, exAI, exAS, exSI, exSA, true_or, or_true, false_or, or_false, Nat.reduceEqDiff, Bool.true_and, Bool.and_true, Bool.false_and, Bool.and_false, Bool.true_eq_false, Bool.false_eq_true, i10, i20, i30, vp0, nc0]
            refine s_add w1 hn p1 hr (fun X2 w2 => ?_)
            exact ⟨w2.1.t129, vpX w2.1, k _ _ w2.out (fun _ => rfl)⟩
          · have q := w.1
            have h := w.rr
            simp only [w_X5_addClause, w_X5_addClause_51, q.t123, q.r123_0, q.t124, q.n124, x_isReel, x_isState, qR, qS, x_in, qG (lo := 4) (hi := 60), vp366, nc366, (h 366 (by decide)).trans hn.1, h0, h1, p0, p1, f1, f2, rf0 q, rf1 q, rf2 q, rf3 q, hty_sI, hln_sI, hR_sI, cnd1, cnd2, b2i_0, b2i_1, b2i_z, if_true, if_false, true_and, and_true, true_implies, false_implies, ne_eq, not_false_eq_true, not_true_eq_false, eq_self, exIA, exIS, exAI, exAS, exSI, exSA, true_or, or_true, false_or, or_false, Nat.reduceEqDiff, Bool.true_and, Bool.and_true, Bool.false_and, Bool.and_false, Bool.true_eq_false, Bool.false_eq_true, i10, i20, i30, vp0, nc0]
            refine s_saves w.thr (fun X1 w1 => ?_)
            have q1 := w1.1
            refine ⟨q1.t123, s_adds w1 i p1 hr (fun X2 w2 => ?_)⟩
            have q2 := w2.1
            have e2 : hI X2 124 366 = Int32.ofNat n + 1 := (w2.rr 366 (by decide)).trans (addG_366 hr)
            simp only [q2.t123, q2.r123_0, q2.t124, q2.n124, vp366, nc366, e2, hty_sI, hln_sI, hR_sI, cnd1, cnd2, b2i_0, b2i_1, b2i_z, if_true, if_false, true_and, and_true, true_implies, false_implies, ne_eq, not_false_eq_true, not_true_eq_false, eq_self, exIA, exIS, exAI, exAS, exSI, exSA, true_or, or_true, false_or, or_false, Nat.reduceEqDiff, Bool.true_and, Bool.and_true, Bool.false_and, Bool.and_false, Bool.true_eq_false, Bool.false_eq_true, i10, i20, i30, vp0, nc0]
            exact k _ _ w2 (fun _ => Int32.add_sub_cancel _ _)
theorem op_changeLips {σ : St} {n : Nat} (iS : InvS σ) (i : Inv (zG σ) n) (a b : Int32) : OpI (fun X K => w_L_changeLips 1 a b 129 X K) (fun X K => w_X5_changeLips 123 a b X K) σ := by
  have hn := i.cn
  cases h0 : inC (zG σ 366) a
  · skip
    refine ⟨1, 0, σ, iS, fun X m o K w k => ?_, fun X d o K w k => ?_⟩
    · have q := w.1
      have h : TR X 2 (zG σ) := w.2.1.1
      simp only [w_L_changeLips, w_X4_changeLips, q.t1, q.r1_0, q.r1_1, q.t2, q.t14, e_checkClause q h, h0, hty_sI, hln_sI, hR_sI, cnd1, cnd2, b2i_0, b2i_1, b2i_z, if_true, if_false, true_and, and_true, true_implies, false_implies, ne_eq, not_false_eq_true, not_true_eq_false, eq_self, exIA, exIS, exAI, exAS, exSI, exSA, true_or, or_true, false_or, or_false, Nat.reduceEqDiff, Bool.true_and, Bool.and_true, Bool.false_and, Bool.and_false, Bool.true_eq_false, Bool.false_eq_true, i10, i20, i30, vp0, nc0]
      exact k _ _ w (fun e => absurd e (by decide))
    · have q := w.1
      have h := w.rr
      simp only [w_X5_changeLips, w_X5_changeLips_54, q.t123, q.r123_0, q.t124, q.n124, x_isClause q h, qC hn, h0, rf0 q, rf1 q, rf2 q, rf3 q, hty_sI, hln_sI, hR_sI, cnd1, cnd2, b2i_0, b2i_1, b2i_z, if_true, if_false, true_and, and_true, true_implies, false_implies, ne_eq, not_false_eq_true, not_true_eq_false, eq_self, exIA, exIS, exAI, exAS, exSI, exSA, true_or, or_true, false_or, or_false, Nat.reduceEqDiff, Bool.true_and, Bool.and_true, Bool.false_and, Bool.and_false, Bool.true_eq_false, Bool.false_eq_true, i10, i20, i30, vp0, nc0]
      exact k _ _ w.thr (fun e => absurd e (by decide))
  · skip
    obtain ⟨c, hc, rfl⟩ := inC_ex hn h0
    have hcn := hc
    replace hc : c < 24 := Nat.lt_of_lt_of_le hc hn.2
    cases p0 : inG b 4 60
    · skip
      refine ⟨2, 0, σ, iS, fun X m o K w k => ?_, fun X d o K w k => ?_⟩
      · have q := w.1
        have h : TR X 2 (zG σ) := w.2.1.1
        simp only [w_L_changeLips, w_X4_changeLips, q.t1, q.r1_0, q.r1_1, q.t2, q.t14, e_checkClause q h, e_checkRange, h0, p0, hty_sI, hln_sI, hR_sI, cnd1, cnd2, b2i_0, b2i_1, b2i_z, if_true, if_false, true_and, and_true, true_implies, false_implies, ne_eq, not_false_eq_true, not_true_eq_false, eq_self, exIA, exIS, exAI, exAS, exSI, exSA, true_or, or_true, false_or, or_false, Nat.reduceEqDiff, Bool.true_and, Bool.and_true, Bool.false_and, Bool.and_false, Bool.true_eq_false, Bool.false_eq_true, i10, i20, i30, vp0, nc0]
        exact k _ _ w (fun e => absurd e (by decide))
      · have q := w.1
        have h := w.rr
        simp only [w_X5_changeLips, w_X5_changeLips_54, q.t123, q.r123_0, q.t124, q.n124, x_isClause q h, qC hn, x_in, qG (lo := 4) (hi := 60), h0, p0, rf0 q, rf1 q, rf2 q, rf3 q, hty_sI, hln_sI, hR_sI, cnd1, cnd2, b2i_0, b2i_1, b2i_z, if_true, if_false, true_and, and_true, true_implies, false_implies, ne_eq, not_false_eq_true, not_true_eq_false, eq_self, exIA, exIS, exAI, exAS, exSI, exSA, true_or, or_true, false_or, or_false, Nat.reduceEqDiff, Bool.true_and, Bool.and_true, Bool.false_and, Bool.and_false, Bool.true_eq_false, Bool.false_eq_true, i10, i20, i30, vp0, nc0]
        exact k _ _ w.thr (fun e => absurd e (by decide))
    · skip
      obtain ⟨l, hl1, hl2, rfl⟩ := inG_ex (lo := 4) (hi := 60) (by decide) (by decide) p0
      cases p1 : pTA (zG σ) c
      rotate_left
      · skip
        refine ⟨3, 0, σ, iS, fun X m o K w k => ?_, fun X d o K w k => ?_⟩
        · have q := w.1
          have h : TR X 2 (zG σ) := w.2.1.1
          simp only [w_L_changeLips, w_X4_changeLips, q.t1, q.r1_0, q.r1_1, q.t2, q.t14, e_checkClause q h, e_checkRange, h0, p0, p1, hty_sI, hln_sI, hR_sI, cnd1, cnd2, b2i_0, b2i_1, b2i_z, if_true, if_false, true_and, and_true, true_implies, false_implies, ne_eq, not_false_eq_true, not_true_eq_false, eq_self, exIA, exIS, exAI, exAS, exSI, exSA, true_or, or_true, false_or, or_false, Nat.reduceEqDiff, Bool.true_and, Bool.and_true, Bool.false_and, Bool.and_false, Bool.true_eq_false, Bool.false_eq_true, i10, i20, i30, vp0, nc0]
          refine s_isRecordedAnywhere q h hc ?_
          simp only [q.t1, q.r1_0, q.r1_1, q.t2, q.t14, e_checkClause q h, e_checkRange, h0, p0, p1, hty_sI, hln_sI, hR_sI, cnd1, cnd2, b2i_0, b2i_1, b2i_z, if_true, if_false, true_and, and_true, true_implies, false_implies, ne_eq, not_false_eq_true, not_true_eq_false, eq_self, exIA, exIS, exAI, exAS, exSI, exSA, true_or, or_true, false_or, or_false, Nat.reduceEqDiff, Bool.true_and, Bool.and_true, Bool.false_and, Bool.and_false, Bool.true_eq_false, Bool.false_eq_true, i10, i20, i30, vp0, nc0]
          exact k _ _ w (fun e => absurd e (by decide))
        · have q := w.1
          have h := w.rr
          simp only [w_X5_changeLips, w_X5_changeLips_54, q.t123, q.r123_0, q.t124, q.n124, x_isClause q h, qC hn, x_in, qG (lo := 4) (hi := 60), x_isTakenAnywhere q h hc, h0, p0, p1, rf0 q, rf1 q, rf2 q, rf3 q, hty_sI, hln_sI, hR_sI, cnd1, cnd2, b2i_0, b2i_1, b2i_z, if_true, if_false, true_and, and_true, true_implies, false_implies, ne_eq, not_false_eq_true, not_true_eq_false, eq_self, exIA, exIS, exAI, exAS, exSI, exSA, true_or, or_true, false_or, or_false, Nat.reduceEqDiff, Bool.true_and, Bool.and_true, Bool.false_and, Bool.and_false, Bool.true_eq_false, Bool.false_eq_true, i10, i20, i30, vp0, nc0]
          exact k _ _ w.thr (fun e => absurd e (by decide))
      · skip
        by_cases p2 : gH (zG σ) c ≤ Int32.ofNat l
        rotate_left
        · skip
          refine ⟨3, 0, σ, iS, fun X m o K w k => ?_, fun X d o K w k => ?_⟩
          · have q := w.1
            have h : TR X 2 (zG σ) := w.2.1.1
            simp only [w_L_changeLips, w_X4_changeLips, q.t1, q.r1_0, q.r1_1, q.t2, q.t14, e_checkClause q h, e_checkRange, e_sighAt q h hc, h0, p0, p1, p2, hty_sI, hln_sI, hR_sI, cnd1, cnd2, b2i_0, b2i_1, b2i_z, if_true, if_false, true_and, and_true, true_implies, false_implies, ne_eq, not_false_eq_true, not_true_eq_false, eq_self, exIA, exIS, exAI, exAS, exSI, exSA, true_or, or_true, false_or, or_false, Nat.reduceEqDiff, Bool.true_and, Bool.and_true, Bool.false_and, Bool.and_false, Bool.true_eq_false, Bool.false_eq_true, i10, i20, i30, vp0, nc0]
            refine s_isRecordedAnywhere q h hc ?_
            simp only [q.t1, q.r1_0, q.r1_1, q.t2, q.t14, e_checkClause q h, e_checkRange, e_sighAt q h hc, h0, p0, p1, p2, hty_sI, hln_sI, hR_sI, cnd1, cnd2, b2i_0, b2i_1, b2i_z, if_true, if_false, true_and, and_true, true_implies, false_implies, ne_eq, not_false_eq_true, not_true_eq_false, eq_self, exIA, exIS, exAI, exAS, exSI, exSA, true_or, or_true, false_or, or_false, Nat.reduceEqDiff, Bool.true_and, Bool.and_true, Bool.false_and, Bool.and_false, Bool.true_eq_false, Bool.false_eq_true, i10, i20, i30, vp0, nc0]
            exact k _ _ w (fun e => absurd e (by decide))
          · have q := w.1
            have h := w.rr
            simp only [w_X5_changeLips, w_X5_changeLips_54, q.t123, q.r123_0, q.t124, q.n124, x_isClause q h, qC hn, x_in, qG (lo := 4) (hi := 60), x_isTakenAnywhere q h hc, w_X5_at, ix3_eq, vp3 (show 13 * c + 3 < 371 by omega), h.v (show 13 * c + 3 < 371 by omega), show zG σ (13 * c + 3) = gH (zG σ) c from rfl, h0, p0, p1, p2, rf0 q, rf1 q, rf2 q, rf3 q, hty_sI, hln_sI, hR_sI, cnd1, cnd2, b2i_0, b2i_1, b2i_z, if_true, if_false, true_and, and_true, true_implies, false_implies, ne_eq, not_false_eq_true, not_true_eq_false, eq_self, exIA, exIS, exAI, exAS, exSI, exSA, true_or, or_true, false_or, or_false, Nat.reduceEqDiff, Bool.true_and, Bool.and_true, Bool.false_and, Bool.and_false, Bool.true_eq_false, Bool.false_eq_true, i10, i20, i30, vp0, nc0]
            exact k _ _ w.thr (fun e => absurd e (by decide))
        · skip
          have i' : Inv (upr (zG σ) (13 * c + 2) (Int32.ofNat l)) (n) := by
            obtain ⟨l0, y, g1, g2, g3, g4, e1, e2⟩ := (i.2.1 c hcn).2.2.1
            rw [e2, of_le (by omega) (by omega)] at p2
            exact i.clause hcn (fun k hk => upr_ne (by omega)) ((i.2.1 c hcn).setL hl1 hl2 e2 g3 p2)
          refine ⟨0, gL (zG σ) c, ((upr (zG σ) (13 * c + 2) (Int32.ofNat l)), (pushS σ).2), iS.push i', fun X m o K w k => ?_, fun X d o K w k => ?_⟩
          · have q := w.1
            have h : TR X 2 (zG σ) := w.2.1.1
            simp only [w_L_changeLips, w_X4_changeLips, q.t1, q.r1_0, q.r1_1, q.t2, q.t14, e_checkClause q h, e_checkRange, e_sighAt q h hc, h0, p0, p1, p2, hty_sI, hln_sI, hR_sI, cnd1, cnd2, b2i_0, b2i_1, b2i_z, if_true, if_false, true_and, and_true, true_implies, false_implies, ne_eq, not_false_eq_true, not_true_eq_false, eq_self, exIA, exIS, exAI, exAS, exSI, exSA, true_or, or_true, false_or, or_false, Nat.reduceEqDiff, Bool.true_and, Bool.and_true, Bool.false_and, Bool.and_false, Bool.true_eq_false, Bool.false_eq_true, i10, i20, i30, vp0, nc0]
            refine s_isRecordedAnywhere q h hc ?_
            simp only [q.t1, q.r1_0, q.r1_1, q.t2, q.t14, e_checkClause q h, e_checkRange, e_sighAt q h hc, h0, p0, p1, p2, hty_sI, hln_sI, hR_sI, cnd1, cnd2, b2i_0, b2i_1, b2i_z, if_true, if_false, true_and, and_true, true_implies, false_implies, ne_eq, not_false_eq_true, not_true_eq_false, eq_self, exIA, exIS, exAI, exAS, exSI, exSA, true_or, or_true, false_or, or_false, Nat.reduceEqDiff, Bool.true_and, Bool.and_true, Bool.false_and, Bool.and_false, Bool.true_eq_false, Bool.false_eq_true, i10, i20, i30, vp0, nc0]
            refine s_push w (fun X1 w1 => ?_)
            have q1 := w1.1
            have g1 : TR X1 2 (zG σ) := w1.2.1.1
            simp only [q1.t1, q1.r1_0, q1.t2, q1.r2_3, q1.t129, q1.n129, e_lipsAt q1 g1 hc, put_eq q1.t5 q1.n5 hc (show 24 < 4096 by decide), hty_sI, hln_sI, hR_sI, cnd1, cnd2, b2i_0, b2i_1, b2i_z, if_true, if_false, true_and, and_true, true_implies, false_implies, ne_eq, not_false_eq_true, not_true_eq_false, eq_self, exIA, exIS, exAI, exAS, exSI, exSA, true_or, or_true, false_or, or_false, Nat.reduceEqDiff, Bool.true_and, Bool.and_true, Bool.false_and, Bool.and_false, Bool.true_eq_false, Bool.false_eq_true, i10, i20, i30, vp0, nc0]
            exact k _ _ (w1.pL hc).out (fun _ => rfl)
          · have q := w.1
            have h := w.rr
            simp only [w_X5_changeLips, w_X5_changeLips_54, q.t123, q.r123_0, q.t124, q.n124, x_isClause q h, qC hn, x_in, qG (lo := 4) (hi := 60), x_isTakenAnywhere q h hc, w_X5_at, ix3_eq, vp3 (show 13 * c + 3 < 371 by omega), h.v (show 13 * c + 3 < 371 by omega), show zG σ (13 * c + 3) = gH (zG σ) c from rfl, h0, p0, p1, p2, rf0 q, rf1 q, rf2 q, rf3 q, hty_sI, hln_sI, hR_sI, cnd1, cnd2, b2i_0, b2i_1, b2i_z, if_true, if_false, true_and, and_true, true_implies, false_implies, ne_eq, not_false_eq_true, not_true_eq_false, eq_self, exIA, exIS, exAI, exAS, exSI, exSA, true_or, or_true, false_or, or_false, Nat.reduceEqDiff, Bool.true_and, Bool.and_true, Bool.false_and, Bool.and_false, Bool.true_eq_false, Bool.false_eq_true, i10, i20, i30, vp0, nc0]
            simp only [ix2_eq]
            exact s_sets w.thr (by omega) (fun X1 w1 => k _ _ w1 (fun _ => rfl))
theorem op_changeSigh {σ : St} {n : Nat} (iS : InvS σ) (i : Inv (zG σ) n) (a b : Int32) : OpI (fun X K => w_L_changeSigh 1 a b 129 X K) (fun X K => w_X5_changeSigh 123 a b X K) σ := by
  have hn := i.cn
  cases h0 : inC (zG σ 366) a
  · skip
    refine ⟨1, 0, σ, iS, fun X m o K w k => ?_, fun X d o K w k => ?_⟩
    · have q := w.1
      have h : TR X 2 (zG σ) := w.2.1.1
      simp only [w_L_changeSigh, w_X4_changeSigh, q.t1, q.r1_0, q.r1_1, q.t2, q.t14, e_checkClause q h, h0, hty_sI, hln_sI, hR_sI, cnd1, cnd2, b2i_0, b2i_1, b2i_z, if_true, if_false, true_and, and_true, true_implies, false_implies, ne_eq, not_false_eq_true, not_true_eq_false, eq_self, exIA, exIS, exAI, exAS, exSI, exSA, true_or, or_true, false_or, or_false, Nat.reduceEqDiff, Bool.true_and, Bool.and_true, Bool.false_and, Bool.and_false, Bool.true_eq_false, Bool.false_eq_true, i10, i20, i30, vp0, nc0]
      exact k _ _ w (fun e => absurd e (by decide))
    · have q := w.1
      have h := w.rr
      simp only [w_X5_changeSigh, w_X5_changeSigh_54, q.t123, q.r123_0, q.t124, q.n124, x_isClause q h, qC hn, h0, rf0 q, rf1 q, rf2 q, rf3 q, hty_sI, hln_sI, hR_sI, cnd1, cnd2, b2i_0, b2i_1, b2i_z, if_true, if_false, true_and, and_true, true_implies, false_implies, ne_eq, not_false_eq_true, not_true_eq_false, eq_self, exIA, exIS, exAI, exAS, exSI, exSA, true_or, or_true, false_or, or_false, Nat.reduceEqDiff, Bool.true_and, Bool.and_true, Bool.false_and, Bool.and_false, Bool.true_eq_false, Bool.false_eq_true, i10, i20, i30, vp0, nc0]
      exact k _ _ w.thr (fun e => absurd e (by decide))
  · skip
    obtain ⟨c, hc, rfl⟩ := inC_ex hn h0
    have hcn := hc
    replace hc : c < 24 := Nat.lt_of_lt_of_le hc hn.2
    cases p0 : inG b 0 20
    · skip
      refine ⟨2, 0, σ, iS, fun X m o K w k => ?_, fun X d o K w k => ?_⟩
      · have q := w.1
        have h : TR X 2 (zG σ) := w.2.1.1
        simp only [w_L_changeSigh, w_X4_changeSigh, q.t1, q.r1_0, q.r1_1, q.t2, q.t14, e_checkClause q h, e_checkRange, h0, p0, hty_sI, hln_sI, hR_sI, cnd1, cnd2, b2i_0, b2i_1, b2i_z, if_true, if_false, true_and, and_true, true_implies, false_implies, ne_eq, not_false_eq_true, not_true_eq_false, eq_self, exIA, exIS, exAI, exAS, exSI, exSA, true_or, or_true, false_or, or_false, Nat.reduceEqDiff, Bool.true_and, Bool.and_true, Bool.false_and, Bool.and_false, Bool.true_eq_false, Bool.false_eq_true, i10, i20, i30, vp0, nc0]
        exact k _ _ w (fun e => absurd e (by decide))
      · have q := w.1
        have h := w.rr
        simp only [w_X5_changeSigh, w_X5_changeSigh_54, q.t123, q.r123_0, q.t124, q.n124, x_isClause q h, qC hn, x_in, qG (lo := 0) (hi := 20), h0, p0, rf0 q, rf1 q, rf2 q, rf3 q, hty_sI, hln_sI, hR_sI, cnd1, cnd2, b2i_0, b2i_1, b2i_z, if_true, if_false, true_and, and_true, true_implies, false_implies, ne_eq, not_false_eq_true, not_true_eq_false, eq_self, exIA, exIS, exAI, exAS, exSI, exSA, true_or, or_true, false_or, or_false, Nat.reduceEqDiff, Bool.true_and, Bool.and_true, Bool.false_and, Bool.and_false, Bool.true_eq_false, Bool.false_eq_true, i10, i20, i30, vp0, nc0]
        exact k _ _ w.thr (fun e => absurd e (by decide))
    · skip
      obtain ⟨l, hl1, hl2, rfl⟩ := inG_ex (lo := 0) (hi := 20) (by decide) (by decide) p0
      cases p1 : pTA (zG σ) c
      rotate_left
      · skip
        refine ⟨3, 0, σ, iS, fun X m o K w k => ?_, fun X d o K w k => ?_⟩
        · have q := w.1
          have h : TR X 2 (zG σ) := w.2.1.1
          simp only [w_L_changeSigh, w_X4_changeSigh, q.t1, q.r1_0, q.r1_1, q.t2, q.t14, e_checkClause q h, e_checkRange, h0, p0, p1, hty_sI, hln_sI, hR_sI, cnd1, cnd2, b2i_0, b2i_1, b2i_z, if_true, if_false, true_and, and_true, true_implies, false_implies, ne_eq, not_false_eq_true, not_true_eq_false, eq_self, exIA, exIS, exAI, exAS, exSI, exSA, true_or, or_true, false_or, or_false, Nat.reduceEqDiff, Bool.true_and, Bool.and_true, Bool.false_and, Bool.and_false, Bool.true_eq_false, Bool.false_eq_true, i10, i20, i30, vp0, nc0]
          refine s_isRecordedAnywhere q h hc ?_
          simp only [q.t1, q.r1_0, q.r1_1, q.t2, q.t14, e_checkClause q h, e_checkRange, h0, p0, p1, hty_sI, hln_sI, hR_sI, cnd1, cnd2, b2i_0, b2i_1, b2i_z, if_true, if_false, true_and, and_true, true_implies, false_implies, ne_eq, not_false_eq_true, not_true_eq_false, eq_self, exIA, exIS, exAI, exAS, exSI, exSA, true_or, or_true, false_or, or_false, Nat.reduceEqDiff, Bool.true_and, Bool.and_true, Bool.false_and, Bool.and_false, Bool.true_eq_false, Bool.false_eq_true, i10, i20, i30, vp0, nc0]
          exact k _ _ w (fun e => absurd e (by decide))
        · have q := w.1
          have h := w.rr
          simp only [w_X5_changeSigh, w_X5_changeSigh_54, q.t123, q.r123_0, q.t124, q.n124, x_isClause q h, qC hn, x_in, qG (lo := 0) (hi := 20), x_isTakenAnywhere q h hc, h0, p0, p1, rf0 q, rf1 q, rf2 q, rf3 q, hty_sI, hln_sI, hR_sI, cnd1, cnd2, b2i_0, b2i_1, b2i_z, if_true, if_false, true_and, and_true, true_implies, false_implies, ne_eq, not_false_eq_true, not_true_eq_false, eq_self, exIA, exIS, exAI, exAS, exSI, exSA, true_or, or_true, false_or, or_false, Nat.reduceEqDiff, Bool.true_and, Bool.and_true, Bool.false_and, Bool.and_false, Bool.true_eq_false, Bool.false_eq_true, i10, i20, i30, vp0, nc0]
          exact k _ _ w.thr (fun e => absurd e (by decide))
      · skip
        by_cases p2 : Int32.ofNat l ≤ gL (zG σ) c
        rotate_left
        · skip
          refine ⟨3, 0, σ, iS, fun X m o K w k => ?_, fun X d o K w k => ?_⟩
          · have q := w.1
            have h : TR X 2 (zG σ) := w.2.1.1
            simp only [w_L_changeSigh, w_X4_changeSigh, q.t1, q.r1_0, q.r1_1, q.t2, q.t14, e_checkClause q h, e_checkRange, e_lipsAt q h hc, h0, p0, p1, p2, hty_sI, hln_sI, hR_sI, cnd1, cnd2, b2i_0, b2i_1, b2i_z, if_true, if_false, true_and, and_true, true_implies, false_implies, ne_eq, not_false_eq_true, not_true_eq_false, eq_self, exIA, exIS, exAI, exAS, exSI, exSA, true_or, or_true, false_or, or_false, Nat.reduceEqDiff, Bool.true_and, Bool.and_true, Bool.false_and, Bool.and_false, Bool.true_eq_false, Bool.false_eq_true, i10, i20, i30, vp0, nc0]
            refine s_isRecordedAnywhere q h hc ?_
            simp only [q.t1, q.r1_0, q.r1_1, q.t2, q.t14, e_checkClause q h, e_checkRange, e_lipsAt q h hc, h0, p0, p1, p2, hty_sI, hln_sI, hR_sI, cnd1, cnd2, b2i_0, b2i_1, b2i_z, if_true, if_false, true_and, and_true, true_implies, false_implies, ne_eq, not_false_eq_true, not_true_eq_false, eq_self, exIA, exIS, exAI, exAS, exSI, exSA, true_or, or_true, false_or, or_false, Nat.reduceEqDiff, Bool.true_and, Bool.and_true, Bool.false_and, Bool.and_false, Bool.true_eq_false, Bool.false_eq_true, i10, i20, i30, vp0, nc0]
            exact k _ _ w (fun e => absurd e (by decide))
          · have q := w.1
            have h := w.rr
            simp only [w_X5_changeSigh, w_X5_changeSigh_54, q.t123, q.r123_0, q.t124, q.n124, x_isClause q h, qC hn, x_in, qG (lo := 0) (hi := 20), x_isTakenAnywhere q h hc, w_X5_at, ix2_eq, vp3 (show 13 * c + 2 < 371 by omega), h.v (show 13 * c + 2 < 371 by omega), show zG σ (13 * c + 2) = gL (zG σ) c from rfl, h0, p0, p1, p2, rf0 q, rf1 q, rf2 q, rf3 q, hty_sI, hln_sI, hR_sI, cnd1, cnd2, b2i_0, b2i_1, b2i_z, if_true, if_false, true_and, and_true, true_implies, false_implies, ne_eq, not_false_eq_true, not_true_eq_false, eq_self, exIA, exIS, exAI, exAS, exSI, exSA, true_or, or_true, false_or, or_false, Nat.reduceEqDiff, Bool.true_and, Bool.and_true, Bool.false_and, Bool.and_false, Bool.true_eq_false, Bool.false_eq_true, i10, i20, i30, vp0, nc0]
            exact k _ _ w.thr (fun e => absurd e (by decide))
        · skip
          have i' : Inv (upr (zG σ) (13 * c + 3) (Int32.ofNat l)) (n) := by
            obtain ⟨l0, y, g1, g2, g3, g4, e1, e2⟩ := (i.2.1 c hcn).2.2.1
            rw [e1, of_le (by omega) (by omega)] at p2
            exact i.clause hcn (fun k hk => upr_ne (by omega)) ((i.2.1 c hcn).setH g1 g2 e1 hl2 p2)
          refine ⟨0, gH (zG σ) c, ((upr (zG σ) (13 * c + 3) (Int32.ofNat l)), (pushS σ).2), iS.push i', fun X m o K w k => ?_, fun X d o K w k => ?_⟩
          · have q := w.1
            have h : TR X 2 (zG σ) := w.2.1.1
            simp only [w_L_changeSigh, w_X4_changeSigh, q.t1, q.r1_0, q.r1_1, q.t2, q.t14, e_checkClause q h, e_checkRange, e_lipsAt q h hc, h0, p0, p1, p2, hty_sI, hln_sI, hR_sI, cnd1, cnd2, b2i_0, b2i_1, b2i_z, if_true, if_false, true_and, and_true, true_implies, false_implies, ne_eq, not_false_eq_true, not_true_eq_false, eq_self, exIA, exIS, exAI, exAS, exSI, exSA, true_or, or_true, false_or, or_false, Nat.reduceEqDiff, Bool.true_and, Bool.and_true, Bool.false_and, Bool.and_false, Bool.true_eq_false, Bool.false_eq_true, i10, i20, i30, vp0, nc0]
            refine s_isRecordedAnywhere q h hc ?_
            simp only [q.t1, q.r1_0, q.r1_1, q.t2, q.t14, e_checkClause q h, e_checkRange, e_lipsAt q h hc, h0, p0, p1, p2, hty_sI, hln_sI, hR_sI, cnd1, cnd2, b2i_0, b2i_1, b2i_z, if_true, if_false, true_and, and_true, true_implies, false_implies, ne_eq, not_false_eq_true, not_true_eq_false, eq_self, exIA, exIS, exAI, exAS, exSI, exSA, true_or, or_true, false_or, or_false, Nat.reduceEqDiff, Bool.true_and, Bool.and_true, Bool.false_and, Bool.and_false, Bool.true_eq_false, Bool.false_eq_true, i10, i20, i30, vp0, nc0]
            refine s_push w (fun X1 w1 => ?_)
            have q1 := w1.1
            have g1 : TR X1 2 (zG σ) := w1.2.1.1
            simp only [q1.t1, q1.r1_0, q1.t2, q1.r2_4, q1.t129, q1.n129, e_sighAt q1 g1 hc, put_eq q1.t6 q1.n6 hc (show 24 < 4096 by decide), hty_sI, hln_sI, hR_sI, cnd1, cnd2, b2i_0, b2i_1, b2i_z, if_true, if_false, true_and, and_true, true_implies, false_implies, ne_eq, not_false_eq_true, not_true_eq_false, eq_self, exIA, exIS, exAI, exAS, exSI, exSA, true_or, or_true, false_or, or_false, Nat.reduceEqDiff, Bool.true_and, Bool.and_true, Bool.false_and, Bool.and_false, Bool.true_eq_false, Bool.false_eq_true, i10, i20, i30, vp0, nc0]
            exact k _ _ (w1.pH hc).out (fun _ => rfl)
          · have q := w.1
            have h := w.rr
            simp only [w_X5_changeSigh, w_X5_changeSigh_54, q.t123, q.r123_0, q.t124, q.n124, x_isClause q h, qC hn, x_in, qG (lo := 0) (hi := 20), x_isTakenAnywhere q h hc, w_X5_at, ix2_eq, vp3 (show 13 * c + 2 < 371 by omega), h.v (show 13 * c + 2 < 371 by omega), show zG σ (13 * c + 2) = gL (zG σ) c from rfl, h0, p0, p1, p2, rf0 q, rf1 q, rf2 q, rf3 q, hty_sI, hln_sI, hR_sI, cnd1, cnd2, b2i_0, b2i_1, b2i_z, if_true, if_false, true_and, and_true, true_implies, false_implies, ne_eq, not_false_eq_true, not_true_eq_false, eq_self, exIA, exIS, exAI, exAS, exSI, exSA, true_or, or_true, false_or, or_false, Nat.reduceEqDiff, Bool.true_and, Bool.and_true, Bool.false_and, Bool.and_false, Bool.true_eq_false, Bool.false_eq_true, i10, i20, i30, vp0, nc0]
            simp only [ix3_eq]
            exact s_sets w.thr (by omega) (fun X1 w1 => k _ _ w1 (fun _ => rfl))
theorem op_moveClause {σ : St} {n : Nat} (iS : InvS σ) (i : Inv (zG σ) n) (a b : Int32) : OpI (fun X K => w_L_moveClause 1 a b 129 X K) (fun X K => w_X5_moveClause 123 a b X K) σ := by
  have hn := i.cn
  cases h0 : inC (zG σ 366) a
  · skip
    refine ⟨1, 0, σ, iS, fun X m o K w k => ?_, fun X d o K w k => ?_⟩
    · have q := w.1
      have h : TR X 2 (zG σ) := w.2.1.1
      simp only [w_L_moveClause, w_X4_moveClause, q.t1, q.r1_0, q.r1_1, q.t2, q.t14, e_checkClause q h, e_checkReel, h0, hty_sI, hln_sI, hR_sI, cnd1, cnd2, b2i_0, b2i_1, b2i_z, if_true, if_false, true_and, and_true, true_implies, false_implies, ne_eq, not_false_eq_true, not_true_eq_false, eq_self, exIA, exIS, exAI, exAS, exSI, exSA, true_or, or_true, false_or, or_false, Nat.reduceEqDiff, Bool.true_and, Bool.and_true, Bool.false_and, Bool.and_false, Bool.true_eq_false, Bool.false_eq_true, i10, i20, i30, vp0, nc0]
      exact k _ _ w (fun e => absurd e (by decide))
    · have q := w.1
      have h := w.rr
      simp only [w_X5_moveClause, w_X5_moveClause_47, q.t123, q.r123_0, q.t124, q.n124, x_isClause q h, qC hn, x_isReel, qR, h0, rf0 q, rf1 q, rf2 q, rf3 q, hty_sI, hln_sI, hR_sI, cnd1, cnd2, b2i_0, b2i_1, b2i_z, if_true, if_false, true_and, and_true, true_implies, false_implies, ne_eq, not_false_eq_true, not_true_eq_false, eq_self, exIA, exIS, exAI, exAS, exSI, exSA, true_or, or_true, false_or, or_false, Nat.reduceEqDiff, Bool.true_and, Bool.and_true, Bool.false_and, Bool.and_false, Bool.true_eq_false, Bool.false_eq_true, i10, i20, i30, vp0, nc0]
      exact k _ _ w.thr (fun e => absurd e (by decide))
  · skip
    cases h1 : inR b
    · skip
      refine ⟨1, 0, σ, iS, fun X m o K w k => ?_, fun X d o K w k => ?_⟩
      · have q := w.1
        have h : TR X 2 (zG σ) := w.2.1.1
        simp only [w_L_moveClause, w_X4_moveClause, q.t1, q.r1_0, q.r1_1, q.t2, q.t14, e_checkClause q h, e_checkReel, h0, h1, hty_sI, hln_sI, hR_sI, cnd1, cnd2, b2i_0, b2i_1, b2i_z, if_true, if_false, true_and, and_true, true_implies, false_implies, ne_eq, not_false_eq_true, not_true_eq_false, eq_self, exIA, exIS, exAI, exAS, exSI, exSA, true_or, or_true, false_or, or_false, Nat.reduceEqDiff, Bool.true_and, Bool.and_true, Bool.false_and, Bool.and_false, Bool.true_eq_false, Bool.false_eq_true, i10, i20, i30, vp0, nc0]
        exact k _ _ w (fun e => absurd e (by decide))
      · have q := w.1
        have h := w.rr
        simp only [w_X5_moveClause, w_X5_moveClause_47, q.t123, q.r123_0, q.t124, q.n124, x_isClause q h, qC hn, x_isReel, qR, h0, h1, rf0 q, rf1 q, rf2 q, rf3 q, hty_sI, hln_sI, hR_sI, cnd1, cnd2, b2i_0, b2i_1, b2i_z, if_true, if_false, true_and, and_true, true_implies, false_implies, ne_eq, not_false_eq_true, not_true_eq_false, eq_self, exIA, exIS, exAI, exAS, exSI, exSA, true_or, or_true, false_or, or_false, Nat.reduceEqDiff, Bool.true_and, Bool.and_true, Bool.false_and, Bool.and_false, Bool.true_eq_false, Bool.false_eq_true, i10, i20, i30, vp0, nc0]
        exact k _ _ w.thr (fun e => absurd e (by decide))
    · skip
      obtain ⟨c, hc, rfl⟩ := inC_ex hn h0
      obtain ⟨r, hr, rfl⟩ := inR_ex h1
      have hcn := hc
      replace hc : c < 24 := Nat.lt_of_lt_of_le hc hn.2
      cases p0 : pTA (zG σ) c
      rotate_left
      · skip
        refine ⟨2, 0, σ, iS, fun X m o K w k => ?_, fun X d o K w k => ?_⟩
        · have q := w.1
          have h : TR X 2 (zG σ) := w.2.1.1
          simp only [w_L_moveClause, w_X4_moveClause, q.t1, q.r1_0, q.r1_1, q.t2, q.t14, e_checkClause q h, e_checkReel, h0, h1, p0, hty_sI, hln_sI, hR_sI, cnd1, cnd2, b2i_0, b2i_1, b2i_z, if_true, if_false, true_and, and_true, true_implies, false_implies, ne_eq, not_false_eq_true, not_true_eq_false, eq_self, exIA, exIS, exAI, exAS, exSI, exSA, true_or, or_true, false_or, or_false, Nat.reduceEqDiff, Bool.true_and, Bool.and_true, Bool.false_and, Bool.and_false, Bool.true_eq_false, Bool.false_eq_true, i10, i20, i30, vp0, nc0]
          refine s_isRecordedAnywhere q h hc ?_
          simp only [q.t1, q.r1_0, q.r1_1, q.t2, q.t14, e_checkClause q h, e_checkReel, h0, h1, p0, hty_sI, hln_sI, hR_sI, cnd1, cnd2, b2i_0, b2i_1, b2i_z, if_true, if_false, true_and, and_true, true_implies, false_implies, ne_eq, not_false_eq_true, not_true_eq_false, eq_self, exIA, exIS, exAI, exAS, exSI, exSA, true_or, or_true, false_or, or_false, Nat.reduceEqDiff, Bool.true_and, Bool.and_true, Bool.false_and, Bool.and_false, Bool.true_eq_false, Bool.false_eq_true, i10, i20, i30, vp0, nc0]
          exact k _ _ w (fun e => absurd e (by decide))
        · have q := w.1
          have h := w.rr
          simp only [w_X5_moveClause, w_X5_moveClause_47, q.t123, q.r123_0, q.t124, q.n124, x_isClause q h, qC hn, x_isReel, qR, x_isTakenAnywhere q h hc, h0, h1, p0, rf0 q, rf1 q, rf2 q, rf3 q, hty_sI, hln_sI, hR_sI, cnd1, cnd2, b2i_0, b2i_1, b2i_z, if_true, if_false, true_and, and_true, true_implies, false_implies, ne_eq, not_false_eq_true, not_true_eq_false, eq_self, exIA, exIS, exAI, exAS, exSI, exSA, true_or, or_true, false_or, or_false, Nat.reduceEqDiff, Bool.true_and, Bool.and_true, Bool.false_and, Bool.and_false, Bool.true_eq_false, Bool.false_eq_true, i10, i20, i30, vp0, nc0]
          exact k _ _ w.thr (fun e => absurd e (by decide))
      · skip
        by_cases p1 : gR (zG σ) c = Int32.ofNat r
        · skip
          refine ⟨2, 0, σ, iS, fun X m o K w k => ?_, fun X d o K w k => ?_⟩
          · have q := w.1
            have h : TR X 2 (zG σ) := w.2.1.1
            simp only [w_L_moveClause, w_X4_moveClause, q.t1, q.r1_0, q.r1_1, q.t2, q.t14, e_checkClause q h, e_checkReel, e_reelAt q h hc, h0, h1, p0, p1, hty_sI, hln_sI, hR_sI, cnd1, cnd2, b2i_0, b2i_1, b2i_z, if_true, if_false, true_and, and_true, true_implies, false_implies, ne_eq, not_false_eq_true, not_true_eq_false, eq_self, exIA, exIS, exAI, exAS, exSI, exSA, true_or, or_true, false_or, or_false, Nat.reduceEqDiff, Bool.true_and, Bool.and_true, Bool.false_and, Bool.and_false, Bool.true_eq_false, Bool.false_eq_true, i10, i20, i30, vp0, nc0]
            refine s_isRecordedAnywhere q h hc ?_
            simp only [q.t1, q.r1_0, q.r1_1, q.t2, q.t14, e_checkClause q h, e_checkReel, e_reelAt q h hc, h0, h1, p0, p1, hty_sI, hln_sI, hR_sI, cnd1, cnd2, b2i_0, b2i_1, b2i_z, if_true, if_false, true_and, and_true, true_implies, false_implies, ne_eq, not_false_eq_true, not_true_eq_false, eq_self, exIA, exIS, exAI, exAS, exSI, exSA, true_or, or_true, false_or, or_false, Nat.reduceEqDiff, Bool.true_and, Bool.and_true, Bool.false_and, Bool.and_false, Bool.true_eq_false, Bool.false_eq_true, i10, i20, i30, vp0, nc0]
            exact k _ _ w (fun e => absurd e (by decide))
          · have q := w.1
            have h := w.rr
            simp only [w_X5_moveClause, w_X5_moveClause_47, q.t123, q.r123_0, q.t124, q.n124, x_isClause q h, qC hn, x_isReel, qR, x_isTakenAnywhere q h hc, w_X5_at, ix0_eq, vp3 (show 13 * c < 371 by omega), h.v (show 13 * c < 371 by omega), show zG σ (13 * c) = gR (zG σ) c from rfl, h0, h1, p0, p1, rf0 q, rf1 q, rf2 q, rf3 q, hty_sI, hln_sI, hR_sI, cnd1, cnd2, b2i_0, b2i_1, b2i_z, if_true, if_false, true_and, and_true, true_implies, false_implies, ne_eq, not_false_eq_true, not_true_eq_false, eq_self, exIA, exIS, exAI, exAS, exSI, exSA, true_or, or_true, false_or, or_false, Nat.reduceEqDiff, Bool.true_and, Bool.and_true, Bool.false_and, Bool.and_false, Bool.true_eq_false, Bool.false_eq_true, i10, i20, i30, vp0, nc0]
            exact k _ _ w.thr (fun e => absurd e (by decide))
        · skip
          have i' : Inv (unmA (upr (zG σ) (13 * c) (Int32.ofNat r)) r) (n) := by
            exact (i.clause hcn (fun k hk => upr_ne (by omega)) ((i.2.1 c hcn).setR hr)).unmA hr
          refine ⟨0, gR (zG σ) c, ((unmA (upr (zG σ) (13 * c) (Int32.ofNat r)) r), (pushS σ).2), iS.push i', fun X m o K w k => ?_, fun X d o K w k => ?_⟩
          · have q := w.1
            have h : TR X 2 (zG σ) := w.2.1.1
            simp only [w_L_moveClause, w_X4_moveClause, q.t1, q.r1_0, q.r1_1, q.t2, q.t14, e_checkClause q h, e_checkReel, e_reelAt q h hc, h0, h1, p0, p1, hty_sI, hln_sI, hR_sI, cnd1, cnd2, b2i_0, b2i_1, b2i_z, if_true, if_false, true_and, and_true, true_implies, false_implies, ne_eq, not_false_eq_true, not_true_eq_false, eq_self, exIA, exIS, exAI, exAS, exSI, exSA, true_or, or_true, false_or, or_false, Nat.reduceEqDiff, Bool.true_and, Bool.and_true, Bool.false_and, Bool.and_false, Bool.true_eq_false, Bool.false_eq_true, i10, i20, i30, vp0, nc0]
            refine s_isRecordedAnywhere q h hc ?_
            simp only [q.t1, q.r1_0, q.r1_1, q.t2, q.t14, e_checkClause q h, e_checkReel, e_reelAt q h hc, h0, h1, p0, p1, hty_sI, hln_sI, hR_sI, cnd1, cnd2, b2i_0, b2i_1, b2i_z, if_true, if_false, true_and, and_true, true_implies, false_implies, ne_eq, not_false_eq_true, not_true_eq_false, eq_self, exIA, exIS, exAI, exAS, exSI, exSA, true_or, or_true, false_or, or_false, Nat.reduceEqDiff, Bool.true_and, Bool.and_true, Bool.false_and, Bool.and_false, Bool.true_eq_false, Bool.false_eq_true, i10, i20, i30, vp0, nc0]
            refine s_push w (fun X1 w1 => ?_)
            have q1 := w1.1
            have g1 : TR X1 2 (zG σ) := w1.2.1.1
            have q2 : Shp (sI X1 3 c (Int32.ofNat r)) := q1
            simp only [q1.t1, q1.r1_0, q1.t2, q1.r2_1, e_reelAt q1 g1 hc, put_eq q1.t3 q1.n3 hc (show 24 < 4096 by decide), hty_sI, hln_sI, hR_sI, cnd1, cnd2, b2i_0, b2i_1, b2i_z, if_true, if_false, true_and, and_true, true_implies, false_implies, ne_eq, not_false_eq_true, not_true_eq_false, eq_self, exIA, exIS, exAI, exAS, exSI, exSA, true_or, or_true, false_or, or_false, Nat.reduceEqDiff, Bool.true_and, Bool.and_true, Bool.false_and, Bool.and_false, Bool.true_eq_false, Bool.false_eq_true, i10, i20, i30, vp0, nc0]
            refine s_unmixEverywhere (w1.pR hc) hr (fun X2 w2 => ?_)
            exact ⟨w2.1.t129, vpX w2.1, k _ _ w2.out (fun _ => rfl)⟩
          · have q := w.1
            have h := w.rr
            simp only [w_X5_moveClause, w_X5_moveClause_47, q.t123, q.r123_0, q.t124, q.n124, x_isClause q h, qC hn, x_isReel, qR, x_isTakenAnywhere q h hc, w_X5_at, ix0_eq, vp3 (show 13 * c < 371 by omega), h.v (show 13 * c < 371 by omega), show zG σ (13 * c) = gR (zG σ) c from rfl, h0, h1, p0, p1, rf0 q, rf1 q, rf2 q, rf3 q, hty_sI, hln_sI, hR_sI, cnd1, cnd2, b2i_0, b2i_1, b2i_z, if_true, if_false, true_and, and_true, true_implies, false_implies, ne_eq, not_false_eq_true, not_true_eq_false, eq_self, exIA, exIS, exAI, exAS, exSI, exSA, true_or, or_true, false_or, or_false, Nat.reduceEqDiff, Bool.true_and, Bool.and_true, Bool.false_and, Bool.and_false, Bool.true_eq_false, Bool.false_eq_true, i10, i20, i30, vp0, nc0]
            try simp only [ix0_eq]
            exact s_sets w.thr (by omega) (fun X1 w1 => ⟨w1.1.t123, s_unmixes w1 hr (fun X2 w2 => k _ _ w2 (fun _ => rfl))⟩)
theorem op_translate {σ : St} {n : Nat} (iS : InvS σ) (i : Inv (zG σ) n) (a b e : Int32) : OpI (fun X K => w_L_translate 1 a b e 129 X K) (fun X K => w_X5_translate 123 a b e X K) σ := by
  have hn := i.cn
  cases h0 : inC (zG σ 366) a
  · skip
    refine ⟨1, 0, σ, iS, fun X m o K w k => ?_, fun X d o K w k => ?_⟩
    · have q := w.1
      have h : TR X 2 (zG σ) := w.2.1.1
      simp only [w_L_translate, w_X4_translate, q.t1, q.r1_0, q.r1_1, q.t2, q.t14, e_checkTranslation q h, h0, hty_sI, hln_sI, hR_sI, cnd1, cnd2, b2i_0, b2i_1, b2i_z, if_true, if_false, true_and, and_true, true_implies, false_implies, ne_eq, not_false_eq_true, not_true_eq_false, eq_self, exIA, exIS, exAI, exAS, exSI, exSA, true_or, or_true, false_or, or_false, Nat.reduceEqDiff, Bool.true_and, Bool.and_true, Bool.false_and, Bool.and_false, Bool.true_eq_false, Bool.false_eq_true, i10, i20, i30, vp0, nc0]
      exact k _ _ w (fun e => absurd e (by decide))
    · have q := w.1
      have h := w.rr
      simp only [w_X5_translate, w_X5_translate_42, q.t123, q.r123_0, q.t124, q.n124, x_are q h, qC hn, qT, h0, rf0 q, rf1 q, rf2 q, rf3 q, hty_sI, hln_sI, hR_sI, cnd1, cnd2, b2i_0, b2i_1, b2i_z, if_true, if_false, true_and, and_true, true_implies, false_implies, ne_eq, not_false_eq_true, not_true_eq_false, eq_self, exIA, exIS, exAI, exAS, exSI, exSA, true_or, or_true, false_or, or_false, Nat.reduceEqDiff, Bool.true_and, Bool.and_true, Bool.false_and, Bool.and_false, Bool.true_eq_false, Bool.false_eq_true, i10, i20, i30, vp0, nc0]
      exact k _ _ w.thr (fun e => absurd e (by decide))
  · skip
    cases h1 : inT b
    · skip
      refine ⟨1, 0, σ, iS, fun X m o K w k => ?_, fun X d o K w k => ?_⟩
      · have q := w.1
        have h : TR X 2 (zG σ) := w.2.1.1
        simp only [w_L_translate, w_X4_translate, q.t1, q.r1_0, q.r1_1, q.t2, q.t14, e_checkTranslation q h, h0, h1, hty_sI, hln_sI, hR_sI, cnd1, cnd2, b2i_0, b2i_1, b2i_z, if_true, if_false, true_and, and_true, true_implies, false_implies, ne_eq, not_false_eq_true, not_true_eq_false, eq_self, exIA, exIS, exAI, exAS, exSI, exSA, true_or, or_true, false_or, or_false, Nat.reduceEqDiff, Bool.true_and, Bool.and_true, Bool.false_and, Bool.and_false, Bool.true_eq_false, Bool.false_eq_true, i10, i20, i30, vp0, nc0]
        exact k _ _ w (fun e => absurd e (by decide))
      · have q := w.1
        have h := w.rr
        simp only [w_X5_translate, w_X5_translate_42, q.t123, q.r123_0, q.t124, q.n124, x_are q h, qC hn, qT, h0, h1, rf0 q, rf1 q, rf2 q, rf3 q, hty_sI, hln_sI, hR_sI, cnd1, cnd2, b2i_0, b2i_1, b2i_z, if_true, if_false, true_and, and_true, true_implies, false_implies, ne_eq, not_false_eq_true, not_true_eq_false, eq_self, exIA, exIS, exAI, exAS, exSI, exSA, true_or, or_true, false_or, or_false, Nat.reduceEqDiff, Bool.true_and, Bool.and_true, Bool.false_and, Bool.and_false, Bool.true_eq_false, Bool.false_eq_true, i10, i20, i30, vp0, nc0]
        exact k _ _ w.thr (fun e => absurd e (by decide))
    · skip
      obtain ⟨c, hc, rfl⟩ := inC_ex hn h0
      obtain ⟨t, ht, rfl⟩ := inT_ex h1
      have hcn := hc
      replace hc : c < 24 := Nat.lt_of_lt_of_le hc hn.2
      cases p0 : inG e 1 60
      · skip
        refine ⟨2, 0, σ, iS, fun X m o K w k => ?_, fun X d o K w k => ?_⟩
        · have q := w.1
          have h : TR X 2 (zG σ) := w.2.1.1
          simp only [w_L_translate, w_X4_translate, q.t1, q.r1_0, q.r1_1, q.t2, q.t14, e_checkTranslation q h, e_checkRange, h0, h1, p0, hty_sI, hln_sI, hR_sI, cnd1, cnd2, b2i_0, b2i_1, b2i_z, if_true, if_false, true_and, and_true, true_implies, false_implies, ne_eq, not_false_eq_true, not_true_eq_false, eq_self, exIA, exIS, exAI, exAS, exSI, exSA, true_or, or_true, false_or, or_false, Nat.reduceEqDiff, Bool.true_and, Bool.and_true, Bool.false_and, Bool.and_false, Bool.true_eq_false, Bool.false_eq_true, i10, i20, i30, vp0, nc0]
          exact k _ _ w (fun e => absurd e (by decide))
        · have q := w.1
          have h := w.rr
          simp only [w_X5_translate, w_X5_translate_42, q.t123, q.r123_0, q.t124, q.n124, x_are q h, qC hn, qT, x_in, qG (lo := 1) (hi := 60), h0, h1, p0, rf0 q, rf1 q, rf2 q, rf3 q, hty_sI, hln_sI, hR_sI, cnd1, cnd2, b2i_0, b2i_1, b2i_z, if_true, if_false, true_and, and_true, true_implies, false_implies, ne_eq, not_false_eq_true, not_true_eq_false, eq_self, exIA, exIS, exAI, exAS, exSI, exSA, true_or, or_true, false_or, or_false, Nat.reduceEqDiff, Bool.true_and, Bool.and_true, Bool.false_and, Bool.and_false, Bool.true_eq_false, Bool.false_eq_true, i10, i20, i30, vp0, nc0]
          exact k _ _ w.thr (fun e => absurd e (by decide))
      · skip
        obtain ⟨l, hl1, hl2, rfl⟩ := inG_ex (lo := 1) (hi := 60) (by decide) (by decide) p0
        cases p1 : pTk (zG σ) c t
        rotate_left
        · skip
          refine ⟨3, 0, σ, iS, fun X m o K w k => ?_, fun X d o K w k => ?_⟩
          · have q := w.1
            have h : TR X 2 (zG σ) := w.2.1.1
            simp only [w_L_translate, w_X4_translate, q.t1, q.r1_0, q.r1_1, q.t2, q.t14, e_checkTranslation q h, e_checkRange, e_isTaken q h hc ht, h0, h1, p0, p1, hty_sI, hln_sI, hR_sI, cnd1, cnd2, b2i_0, b2i_1, b2i_z, if_true, if_false, true_and, and_true, true_implies, false_implies, ne_eq, not_false_eq_true, not_true_eq_false, eq_self, exIA, exIS, exAI, exAS, exSI, exSA, true_or, or_true, false_or, or_false, Nat.reduceEqDiff, Bool.true_and, Bool.and_true, Bool.false_and, Bool.and_false, Bool.true_eq_false, Bool.false_eq_true, i10, i20, i30, vp0, nc0]
            exact k _ _ w (fun e => absurd e (by decide))
          · have q := w.1
            have h := w.rr
            simp only [w_X5_translate, w_X5_translate_42, q.t123, q.r123_0, q.t124, q.n124, x_are q h, qC hn, qT, x_in, qG (lo := 1) (hi := 60), x_isTaken q h hc ht, h0, h1, p0, p1, rf0 q, rf1 q, rf2 q, rf3 q, hty_sI, hln_sI, hR_sI, cnd1, cnd2, b2i_0, b2i_1, b2i_z, if_true, if_false, true_and, and_true, true_implies, false_implies, ne_eq, not_false_eq_true, not_true_eq_false, eq_self, exIA, exIS, exAI, exAS, exSI, exSA, true_or, or_true, false_or, or_false, Nat.reduceEqDiff, Bool.true_and, Bool.and_true, Bool.false_and, Bool.and_false, Bool.true_eq_false, Bool.false_eq_true, i10, i20, i30, vp0, nc0]
            exact k _ _ w.thr (fun e => absurd e (by decide))
        · skip
          have i' : Inv (upr (upr (zG σ) (13 * c + 4 + t) (Int32.ofNat l)) (13 * c + 7 + t) 0) (n) := by
            refine i.clause hcn (fun k hk => (upr_ne (by omega)).trans (upr_ne (by omega))) ?_
            exact (i.2.1 c hcn).setFA (a := 0) ht (by omega)
          refine ⟨0, gRm (upr (upr (zG σ) (13 * c + 4 + t) (Int32.ofNat l)) (13 * c + 7 + t) 0) c t, ((upr (upr (zG σ) (13 * c + 4 + t) (Int32.ofNat l)) (13 * c + 7 + t) 0), (pushS σ).2), iS.push i', fun X m o K w k => ?_, fun X d o K w k => ?_⟩
          · have q := w.1
            have h : TR X 2 (zG σ) := w.2.1.1
            simp only [w_L_translate, w_X4_translate, q.t1, q.r1_0, q.r1_1, q.t2, q.t14, e_checkTranslation q h, e_checkRange, e_isTaken q h hc ht, h0, h1, p0, p1, hty_sI, hln_sI, hR_sI, cnd1, cnd2, b2i_0, b2i_1, b2i_z, if_true, if_false, true_and, and_true, true_implies, false_implies, ne_eq, not_false_eq_true, not_true_eq_false, eq_self, exIA, exIS, exAI, exAS, exSI, exSA, true_or, or_true, false_or, or_false, Nat.reduceEqDiff, Bool.true_and, Bool.and_true, Bool.false_and, Bool.and_false, Bool.true_eq_false, Bool.false_eq_true, i10, i20, i30, vp0, nc0]
            refine s_push w (fun X1 w1 => ?_)
            have q1 := w1.1
            have w2 := (w1.pF (v := Int32.ofNat l) hc ht).pA (v := 0) hc ht
            have q2 := w2.1
            have g2 := w2.2.1.1
            simp only [q1.t1, q1.r1_0, q1.t2, e_putTranslation q1 hc ht, e_roomAt q2 g2 hc ht, q1.t129, q1.n129, hty_sI, hln_sI, hR_sI, cnd1, cnd2, b2i_0, b2i_1, b2i_z, if_true, if_false, true_and, and_true, true_implies, false_implies, ne_eq, not_false_eq_true, not_true_eq_false, eq_self, exIA, exIS, exAI, exAS, exSI, exSA, true_or, or_true, false_or, or_false, Nat.reduceEqDiff, Bool.true_and, Bool.and_true, Bool.false_and, Bool.and_false, Bool.true_eq_false, Bool.false_eq_true, i10, i20, i30, vp0, nc0]
            exact k _ _ w2.out (fun _ => rfl)
          · have q := w.1
            have h := w.rr
            simp only [w_X5_translate, w_X5_translate_42, q.t123, q.r123_0, q.t124, q.n124, x_are q h, qC hn, qT, x_in, qG (lo := 1) (hi := 60), x_isTaken q h hc ht, h0, h1, p0, p1, rf0 q, rf1 q, rf2 q, rf3 q, hty_sI, hln_sI, hR_sI, cnd1, cnd2, b2i_0, b2i_1, b2i_z, if_true, if_false, true_and, and_true, true_implies, false_implies, ne_eq, not_false_eq_true, not_true_eq_false, eq_self, exIA, exIS, exAI, exAS, exSI, exSA, true_or, or_true, false_or, or_false, Nat.reduceEqDiff, Bool.true_and, Bool.and_true, Bool.false_and, Bool.and_false, Bool.true_eq_false, Bool.false_eq_true, i10, i20, i30, vp0, nc0]
            refine s_saves w.thr (fun X1 w1 => ?_)
            have q1 := w1.1
            have w2 := (w1.mp (k := 13 * c + 4 + t) (v := Int32.ofNat l) (by omega)).mp (k := 13 * c + 7 + t) (v := 0) (by omega)
            have q2 := w2.1
            have h2 := w2.rr
            simp only [q1.t123, q1.r123_0, q1.t124, q1.n124, w_X5_at, ixF_eq, ixA_eq, ix2_eq, vp3 (show 13 * c + 4 + t < 371 by omega), vp3 (show 13 * c + 7 + t < 371 by omega), vp3 (show 13 * c + 2 < 371 by omega), ncv (show 13 * c + 4 + t < 371 by omega), ncv (show 13 * c + 7 + t < 371 by omega), ncv (show 13 * c + 2 < 371 by omega), x_both q2 h2 hc ht, hty_sI, hln_sI, hR_sI, cnd1, cnd2, b2i_0, b2i_1, b2i_z, if_true, if_false, true_and, and_true, true_implies, false_implies, ne_eq, not_false_eq_true, not_true_eq_false, eq_self, exIA, exIS, exAI, exAS, exSI, exSA, true_or, or_true, false_or, or_false, Nat.reduceEqDiff, Bool.true_and, Bool.and_true, Bool.false_and, Bool.and_false, Bool.true_eq_false, Bool.false_eq_true, i10, i20, i30, vp0, nc0]
            exact k _ _ w2 (fun _ => by rw [h2 (13 * c + 2) (by omega)]; rfl)
theorem op_annex {σ : St} {n : Nat} (iS : InvS σ) (i : Inv (zG σ) n) (a b e : Int32) : OpI (fun X K => w_L_annex 1 a b e 129 X K) (fun X K => w_X5_annex 123 a b e X K) σ := by
  have hn := i.cn
  cases h0 : inC (zG σ 366) a
  · skip
    refine ⟨1, 0, σ, iS, fun X m o K w k => ?_, fun X d o K w k => ?_⟩
    · have q := w.1
      have h : TR X 2 (zG σ) := w.2.1.1
      simp only [w_L_annex, w_X4_annex, q.t1, q.r1_0, q.r1_1, q.t2, q.t14, e_checkTranslation q h, h0, hty_sI, hln_sI, hR_sI, cnd1, cnd2, b2i_0, b2i_1, b2i_z, if_true, if_false, true_and, and_true, true_implies, false_implies, ne_eq, not_false_eq_true, not_true_eq_false, eq_self, exIA, exIS, exAI, exAS, exSI, exSA, true_or, or_true, false_or, or_false, Nat.reduceEqDiff, Bool.true_and, Bool.and_true, Bool.false_and, Bool.and_false, Bool.true_eq_false, Bool.false_eq_true, i10, i20, i30, vp0, nc0]
      exact k _ _ w (fun e => absurd e (by decide))
    · have q := w.1
      have h := w.rr
      simp only [w_X5_annex, w_X5_annex_64, q.t123, q.r123_0, q.t124, q.n124, x_are q h, qC hn, qT, h0, rf0 q, rf1 q, rf2 q, rf3 q, hty_sI, hln_sI, hR_sI, cnd1, cnd2, b2i_0, b2i_1, b2i_z, if_true, if_false, true_and, and_true, true_implies, false_implies, ne_eq, not_false_eq_true, not_true_eq_false, eq_self, exIA, exIS, exAI, exAS, exSI, exSA, true_or, or_true, false_or, or_false, Nat.reduceEqDiff, Bool.true_and, Bool.and_true, Bool.false_and, Bool.and_false, Bool.true_eq_false, Bool.false_eq_true, i10, i20, i30, vp0, nc0]
      exact k _ _ w.thr (fun e => absurd e (by decide))
  · skip
    cases h1 : inT b
    · skip
      refine ⟨1, 0, σ, iS, fun X m o K w k => ?_, fun X d o K w k => ?_⟩
      · have q := w.1
        have h : TR X 2 (zG σ) := w.2.1.1
        simp only [w_L_annex, w_X4_annex, q.t1, q.r1_0, q.r1_1, q.t2, q.t14, e_checkTranslation q h, h0, h1, hty_sI, hln_sI, hR_sI, cnd1, cnd2, b2i_0, b2i_1, b2i_z, if_true, if_false, true_and, and_true, true_implies, false_implies, ne_eq, not_false_eq_true, not_true_eq_false, eq_self, exIA, exIS, exAI, exAS, exSI, exSA, true_or, or_true, false_or, or_false, Nat.reduceEqDiff, Bool.true_and, Bool.and_true, Bool.false_and, Bool.and_false, Bool.true_eq_false, Bool.false_eq_true, i10, i20, i30, vp0, nc0]
        exact k _ _ w (fun e => absurd e (by decide))
      · have q := w.1
        have h := w.rr
        simp only [w_X5_annex, w_X5_annex_64, q.t123, q.r123_0, q.t124, q.n124, x_are q h, qC hn, qT, h0, h1, rf0 q, rf1 q, rf2 q, rf3 q, hty_sI, hln_sI, hR_sI, cnd1, cnd2, b2i_0, b2i_1, b2i_z, if_true, if_false, true_and, and_true, true_implies, false_implies, ne_eq, not_false_eq_true, not_true_eq_false, eq_self, exIA, exIS, exAI, exAS, exSI, exSA, true_or, or_true, false_or, or_false, Nat.reduceEqDiff, Bool.true_and, Bool.and_true, Bool.false_and, Bool.and_false, Bool.true_eq_false, Bool.false_eq_true, i10, i20, i30, vp0, nc0]
        exact k _ _ w.thr (fun e => absurd e (by decide))
    · skip
      obtain ⟨c, hc, rfl⟩ := inC_ex hn h0
      obtain ⟨t, ht, rfl⟩ := inT_ex h1
      have hcn := hc
      replace hc : c < 24 := Nat.lt_of_lt_of_le hc hn.2
      cases p0 : inG e 1 59
      · skip
        refine ⟨2, 0, σ, iS, fun X m o K w k => ?_, fun X d o K w k => ?_⟩
        · have q := w.1
          have h : TR X 2 (zG σ) := w.2.1.1
          simp only [w_L_annex, w_X4_annex, q.t1, q.r1_0, q.r1_1, q.t2, q.t14, e_checkTranslation q h, e_checkRange, h0, h1, p0, hty_sI, hln_sI, hR_sI, cnd1, cnd2, b2i_0, b2i_1, b2i_z, if_true, if_false, true_and, and_true, true_implies, false_implies, ne_eq, not_false_eq_true, not_true_eq_false, eq_self, exIA, exIS, exAI, exAS, exSI, exSA, true_or, or_true, false_or, or_false, Nat.reduceEqDiff, Bool.true_and, Bool.and_true, Bool.false_and, Bool.and_false, Bool.true_eq_false, Bool.false_eq_true, i10, i20, i30, vp0, nc0]
          exact k _ _ w (fun e => absurd e (by decide))
        · have q := w.1
          have h := w.rr
          simp only [w_X5_annex, w_X5_annex_64, q.t123, q.r123_0, q.t124, q.n124, x_are q h, qC hn, qT, x_in, qG (lo := 1) (hi := 59), h0, h1, p0, rf0 q, rf1 q, rf2 q, rf3 q, hty_sI, hln_sI, hR_sI, cnd1, cnd2, b2i_0, b2i_1, b2i_z, if_true, if_false, true_and, and_true, true_implies, false_implies, ne_eq, not_false_eq_true, not_true_eq_false, eq_self, exIA, exIS, exAI, exAS, exSI, exSA, true_or, or_true, false_or, or_false, Nat.reduceEqDiff, Bool.true_and, Bool.and_true, Bool.false_and, Bool.and_false, Bool.true_eq_false, Bool.false_eq_true, i10, i20, i30, vp0, nc0]
          exact k _ _ w.thr (fun e => absurd e (by decide))
      · skip
        obtain ⟨l, hl1, hl2, rfl⟩ := inG_ex (lo := 1) (hi := 59) (by decide) (by decide) p0
        obtain ⟨⟨f, a0, hf, eF, eA⟩, -⟩ := (i.2.1 c hcn).2.2.2 t ht
        have eCA := pCA_eq (g := zG σ) (n := n) (c := c) (t := t) eF (by omega) hl1 hl2
        by_cases p1 : gF (zG σ) c t ≤ Int32.ofNat l
        · skip
          have hCA : pCA (zG σ) n c t (Int32.ofNat l) = false := by rw [eCA]; simp [p1]
          refine ⟨3, 0, σ, iS, fun X m o K w k => ?_, fun X d o K w k => ?_⟩
          · have q := w.1
            have h : TR X 2 (zG σ) := w.2.1.1
            simp only [w_L_annex, w_X4_annex, q.t1, q.r1_0, q.r1_1, q.t2, q.t14, e_checkTranslation q h, e_checkRange, h0, h1, p0, p1, hCA, hty_sI, hln_sI, hR_sI, cnd1, cnd2, b2i_0, b2i_1, b2i_z, if_true, if_false, true_and, and_true, true_implies, false_implies, ne_eq, not_false_eq_true, not_true_eq_false, eq_self, exIA, exIS, exAI, exAS, exSI, exSA, true_or, or_true, false_or, or_false, Nat.reduceEqDiff, Bool.true_and, Bool.and_true, Bool.false_and, Bool.and_false, Bool.true_eq_false, Bool.false_eq_true, i10, i20, i30, vp0, nc0]
            refine s_canAnnex q h hn hc ht ?_
            simp only [q.t1, q.r1_0, q.r1_1, q.t2, q.t14, e_checkTranslation q h, e_checkRange, h0, h1, p0, p1, hCA, hty_sI, hln_sI, hR_sI, cnd1, cnd2, b2i_0, b2i_1, b2i_z, if_true, if_false, true_and, and_true, true_implies, false_implies, ne_eq, not_false_eq_true, not_true_eq_false, eq_self, exIA, exIS, exAI, exAS, exSI, exSA, true_or, or_true, false_or, or_false, Nat.reduceEqDiff, Bool.true_and, Bool.and_true, Bool.false_and, Bool.and_false, Bool.true_eq_false, Bool.false_eq_true, i10, i20, i30, vp0, nc0]
            exact k _ _ w (fun e => absurd e (by decide))
          · have q := w.1
            have h := w.rr
            simp only [w_X5_annex, w_X5_annex_64, q.t123, q.r123_0, q.t124, q.n124, x_are q h, qC hn, qT, x_in, qG (lo := 1) (hi := 59), x_frames q h hc ht, h0, h1, p0, p1, hCA, rf0 q, rf1 q, rf2 q, rf3 q, hty_sI, hln_sI, hR_sI, cnd1, cnd2, b2i_0, b2i_1, b2i_z, if_true, if_false, true_and, and_true, true_implies, false_implies, ne_eq, not_false_eq_true, not_true_eq_false, eq_self, exIA, exIS, exAI, exAS, exSI, exSA, true_or, or_true, false_or, or_false, Nat.reduceEqDiff, Bool.true_and, Bool.and_true, Bool.false_and, Bool.and_false, Bool.true_eq_false, Bool.false_eq_true, i10, i20, i30, vp0, nc0]
            exact k _ _ w.thr (fun e => absurd e (by decide))
        · skip
          cases p2 : pTk (zG σ) c t
          rotate_left
          · skip
            have hCA : pCA (zG σ) n c t (Int32.ofNat l) = false := by rw [eCA]; simp [p1, p2]
            refine ⟨3, 0, σ, iS, fun X m o K w k => ?_, fun X d o K w k => ?_⟩
            · have q := w.1
              have h : TR X 2 (zG σ) := w.2.1.1
              simp only [w_L_annex, w_X4_annex, q.t1, q.r1_0, q.r1_1, q.t2, q.t14, e_checkTranslation q h, e_checkRange, h0, h1, p0, p1, p2, hCA, hty_sI, hln_sI, hR_sI, cnd1, cnd2, b2i_0, b2i_1, b2i_z, if_true, if_false, true_and, and_true, true_implies, false_implies, ne_eq, not_false_eq_true, not_true_eq_false, eq_self, exIA, exIS, exAI, exAS, exSI, exSA, true_or, or_true, false_or, or_false, Nat.reduceEqDiff, Bool.true_and, Bool.and_true, Bool.false_and, Bool.and_false, Bool.true_eq_false, Bool.false_eq_true, i10, i20, i30, vp0, nc0]
              refine s_canAnnex q h hn hc ht ?_
              simp only [q.t1, q.r1_0, q.r1_1, q.t2, q.t14, e_checkTranslation q h, e_checkRange, h0, h1, p0, p1, p2, hCA, hty_sI, hln_sI, hR_sI, cnd1, cnd2, b2i_0, b2i_1, b2i_z, if_true, if_false, true_and, and_true, true_implies, false_implies, ne_eq, not_false_eq_true, not_true_eq_false, eq_self, exIA, exIS, exAI, exAS, exSI, exSA, true_or, or_true, false_or, or_false, Nat.reduceEqDiff, Bool.true_and, Bool.and_true, Bool.false_and, Bool.and_false, Bool.true_eq_false, Bool.false_eq_true, i10, i20, i30, vp0, nc0]
              exact k _ _ w (fun e => absurd e (by decide))
            · have q := w.1
              have h := w.rr
              simp only [w_X5_annex, w_X5_annex_64, q.t123, q.r123_0, q.t124, q.n124, x_are q h, qC hn, qT, x_in, qG (lo := 1) (hi := 59), x_frames q h hc ht, x_isTaken q h hc ht, h0, h1, p0, p1, p2, hCA, rf0 q, rf1 q, rf2 q, rf3 q, hty_sI, hln_sI, hR_sI, cnd1, cnd2, b2i_0, b2i_1, b2i_z, if_true, if_false, true_and, and_true, true_implies, false_implies, ne_eq, not_false_eq_true, not_true_eq_false, eq_self, exIA, exIS, exAI, exAS, exSI, exSA, true_or, or_true, false_or, or_false, Nat.reduceEqDiff, Bool.true_and, Bool.and_true, Bool.false_and, Bool.and_false, Bool.true_eq_false, Bool.false_eq_true, i10, i20, i30, vp0, nc0]
              exact k _ _ w.thr (fun e => absurd e (by decide))
          · skip
            by_cases p3 : sAnnex (zG σ) n t + Int32.ofNat l ≤ 99
            rotate_left
            · skip
              have hCA : pCA (zG σ) n c t (Int32.ofNat l) = false := by rw [eCA]; simp [p1, p2, p3]
              refine ⟨3, 0, σ, iS, fun X m o K w k => ?_, fun X d o K w k => ?_⟩
              · have q := w.1
                have h : TR X 2 (zG σ) := w.2.1.1
                simp only [w_L_annex, w_X4_annex, q.t1, q.r1_0, q.r1_1, q.t2, q.t14, e_checkTranslation q h, e_checkRange, h0, h1, p0, p1, p2, p3, hCA, hty_sI, hln_sI, hR_sI, cnd1, cnd2, b2i_0, b2i_1, b2i_z, if_true, if_false, true_and, and_true, true_implies, false_implies, ne_eq, not_false_eq_true, not_true_eq_false, eq_self, exIA, exIS, exAI, exAS, exSI, exSA, true_or, or_true, false_or, or_false, Nat.reduceEqDiff, Bool.true_and, Bool.and_true, Bool.false_and, Bool.and_false, Bool.true_eq_false, Bool.false_eq_true, i10, i20, i30, vp0, nc0]
                refine s_canAnnex q h hn hc ht ?_
                simp only [q.t1, q.r1_0, q.r1_1, q.t2, q.t14, e_checkTranslation q h, e_checkRange, h0, h1, p0, p1, p2, p3, hCA, hty_sI, hln_sI, hR_sI, cnd1, cnd2, b2i_0, b2i_1, b2i_z, if_true, if_false, true_and, and_true, true_implies, false_implies, ne_eq, not_false_eq_true, not_true_eq_false, eq_self, exIA, exIS, exAI, exAS, exSI, exSA, true_or, or_true, false_or, or_false, Nat.reduceEqDiff, Bool.true_and, Bool.and_true, Bool.false_and, Bool.and_false, Bool.true_eq_false, Bool.false_eq_true, i10, i20, i30, vp0, nc0]
                exact k _ _ w (fun e => absurd e (by decide))
              · have q := w.1
                have h := w.rr
                simp only [w_X5_annex, w_X5_annex_64, q.t123, q.r123_0, q.t124, q.n124, x_are q h, qC hn, qT, x_in, qG (lo := 1) (hi := 59), x_frames q h hc ht, x_isTaken q h hc ht, h0, h1, p0, p1, p2, p3, hCA, rf0 q, rf1 q, rf2 q, rf3 q, hty_sI, hln_sI, hR_sI, cnd1, cnd2, b2i_0, b2i_1, b2i_z, if_true, if_false, true_and, and_true, true_implies, false_implies, ne_eq, not_false_eq_true, not_true_eq_false, eq_self, exIA, exIS, exAI, exAS, exSI, exSA, true_or, or_true, false_or, or_false, Nat.reduceEqDiff, Bool.true_and, Bool.and_true, Bool.false_and, Bool.and_false, Bool.true_eq_false, Bool.false_eq_true, i10, i20, i30, vp0, nc0]
                refine s_annexed q h hn ht ?_
                simp only [q.t123, q.r123_0, q.t124, q.n124, x_are q h, qC hn, qT, x_in, qG (lo := 1) (hi := 59), x_frames q h hc ht, x_isTaken q h hc ht, h0, h1, p0, p1, p2, p3, hCA, rf0 q, rf1 q, rf2 q, rf3 q, hty_sI, hln_sI, hR_sI, cnd1, cnd2, b2i_0, b2i_1, b2i_z, if_true, if_false, true_and, and_true, true_implies, false_implies, ne_eq, not_false_eq_true, not_true_eq_false, eq_self, exIA, exIS, exAI, exAS, exSI, exSA, true_or, or_true, false_or, or_false, Nat.reduceEqDiff, Bool.true_and, Bool.and_true, Bool.false_and, Bool.and_false, Bool.true_eq_false, Bool.false_eq_true, i10, i20, i30, vp0, nc0]
                exact k _ _ w.thr (fun e => absurd e (by decide))
            · skip
              have hCA : pCA (zG σ) n c t (Int32.ofNat l) = true := by rw [eCA]; simp [p1, p2, p3]
              have i' : Inv (upr (upr (zG σ) (13 * c + 4 + t) (gF (zG σ) c t - Int32.ofNat l)) (13 * c + 7 + t) (gAn (zG σ) c t + Int32.ofNat l)) (n) := by
                refine i.clause hcn (fun k hk => (upr_ne (by omega)).trans (upr_ne (by omega))) ?_
                rw [eF, of_le (by omega) (by omega)] at p1
                rw [eF, eA, ← Int32.ofNat_sub _ _ (by omega), ← Int32.ofNat_add]
                exact (i.2.1 c hcn).setFA ht (by omega)
              refine ⟨0, sAnnex (upr (upr (zG σ) (13 * c + 4 + t) (gF (zG σ) c t - Int32.ofNat l)) (13 * c + 7 + t) (gAn (zG σ) c t + Int32.ofNat l)) n t, ((upr (upr (zG σ) (13 * c + 4 + t) (gF (zG σ) c t - Int32.ofNat l)) (13 * c + 7 + t) (gAn (zG σ) c t + Int32.ofNat l)), (pushS σ).2), iS.push i', fun X m o K w k => ?_, fun X d o K w k => ?_⟩
              · have q := w.1
                have h : TR X 2 (zG σ) := w.2.1.1
                simp only [w_L_annex, w_X4_annex, q.t1, q.r1_0, q.r1_1, q.t2, q.t14, e_checkTranslation q h, e_checkRange, h0, h1, p0, p1, p2, p3, hCA, hty_sI, hln_sI, hR_sI, cnd1, cnd2, b2i_0, b2i_1, b2i_z, if_true, if_false, true_and, and_true, true_implies, false_implies, ne_eq, not_false_eq_true, not_true_eq_false, eq_self, exIA, exIS, exAI, exAS, exSI, exSA, true_or, or_true, false_or, or_false, Nat.reduceEqDiff, Bool.true_and, Bool.and_true, Bool.false_and, Bool.and_false, Bool.true_eq_false, Bool.false_eq_true, i10, i20, i30, vp0, nc0]
                refine s_canAnnex q h hn hc ht ?_
                simp only [q.t1, q.r1_0, q.r1_1, q.t2, q.t14, e_checkTranslation q h, e_checkRange, h0, h1, p0, p1, p2, p3, hCA, hty_sI, hln_sI, hR_sI, cnd1, cnd2, b2i_0, b2i_1, b2i_z, if_true, if_false, true_and, and_true, true_implies, false_implies, ne_eq, not_false_eq_true, not_true_eq_false, eq_self, exIA, exIS, exAI, exAS, exSI, exSA, true_or, or_true, false_or, or_false, Nat.reduceEqDiff, Bool.true_and, Bool.and_true, Bool.false_and, Bool.and_false, Bool.true_eq_false, Bool.false_eq_true, i10, i20, i30, vp0, nc0]
                refine s_push w (fun X1 w1 => ?_)
                have q1 := w1.1
                have g1 : TR X1 2 (zG σ) := w1.2.1.1
                have w2 := (w1.pF (v := gF (zG σ) c t - Int32.ofNat l) hc ht).pA (v := gAn (zG σ) c t + Int32.ofNat l) hc ht
                have q2 := w2.1
                have g2 := w2.2.1.1
                simp only [q1.t1, q1.r1_0, q1.t2, e_framesAt q1 g1 hc ht, e_annexedAt q1 g1 hc ht, e_putTranslation q1 hc ht, hty_sI, hln_sI, hR_sI, cnd1, cnd2, b2i_0, b2i_1, b2i_z, if_true, if_false, true_and, and_true, true_implies, false_implies, ne_eq, not_false_eq_true, not_true_eq_false, eq_self, exIA, exIS, exAI, exAS, exSI, exSA, true_or, or_true, false_or, or_false, Nat.reduceEqDiff, Bool.true_and, Bool.and_true, Bool.false_and, Bool.and_false, Bool.true_eq_false, Bool.false_eq_true, i10, i20, i30, vp0, nc0]
                refine s_annexTotal q2 g2 i'.cn ht ?_
                exact ⟨w2.1.t129, vpX w2.1, k _ _ w2.out (fun _ => rfl)⟩
              · have q := w.1
                have h := w.rr
                simp only [w_X5_annex, w_X5_annex_64, q.t123, q.r123_0, q.t124, q.n124, x_are q h, qC hn, qT, x_in, qG (lo := 1) (hi := 59), x_frames q h hc ht, x_isTaken q h hc ht, h0, h1, p0, p1, p2, p3, hCA, rf0 q, rf1 q, rf2 q, rf3 q, hty_sI, hln_sI, hR_sI, cnd1, cnd2, b2i_0, b2i_1, b2i_z, if_true, if_false, true_and, and_true, true_implies, false_implies, ne_eq, not_false_eq_true, not_true_eq_false, eq_self, exIA, exIS, exAI, exAS, exSI, exSA, true_or, or_true, false_or, or_false, Nat.reduceEqDiff, Bool.true_and, Bool.and_true, Bool.false_and, Bool.and_false, Bool.true_eq_false, Bool.false_eq_true, i10, i20, i30, vp0, nc0]
                refine s_annexed q h hn ht ?_
                simp only [q.t123, q.r123_0, q.t124, q.n124, x_are q h, qC hn, qT, x_in, qG (lo := 1) (hi := 59), x_frames q h hc ht, x_isTaken q h hc ht, h0, h1, p0, p1, p2, p3, hCA, rf0 q, rf1 q, rf2 q, rf3 q, hty_sI, hln_sI, hR_sI, cnd1, cnd2, b2i_0, b2i_1, b2i_z, if_true, if_false, true_and, and_true, true_implies, false_implies, ne_eq, not_false_eq_true, not_true_eq_false, eq_self, exIA, exIS, exAI, exAS, exSI, exSA, true_or, or_true, false_or, or_false, Nat.reduceEqDiff, Bool.true_and, Bool.and_true, Bool.false_and, Bool.and_false, Bool.true_eq_false, Bool.false_eq_true, i10, i20, i30, vp0, nc0]
                refine s_saves w.thr (fun X1 w1 => ?_)
                have q1 := w1.1
                have h1 : RR X1 (zG σ) := w1.rr
                have eF1 : hI X1 124 (13 * c + 4 + t) = gF (zG σ) c t := h1 _ (by omega)
                have eA1 : hI (sI X1 124 (13 * c + 4 + t) (gF (zG σ) c t - Int32.ofNat l)) 124 (13 * c + 7 + t) = gAn (zG σ) c t := by
                  rw [sI_nk (by omega)]
                  exact h1 _ (by omega)
                have w2 := (w1.mp (k := 13 * c + 4 + t) (v := gF (zG σ) c t - Int32.ofNat l) (by omega)).mp (k := 13 * c + 7 + t) (v := gAn (zG σ) c t + Int32.ofNat l) (by omega)
                have q2 := w2.1
                have h2 := w2.rr
                simp only [q1.t123, q1.r123_0, q1.t124, q1.n124, w_X5_at, ixF_eq, ixA_eq, vp3 (show 13 * c + 4 + t < 371 by omega), vp3 (show 13 * c + 7 + t < 371 by omega), ncv (show 13 * c + 4 + t < 371 by omega), ncv (show 13 * c + 7 + t < 371 by omega), eF1, eA1, hty_sI, hln_sI, hR_sI, cnd1, cnd2, b2i_0, b2i_1, b2i_z, if_true, if_false, true_and, and_true, true_implies, false_implies, ne_eq, not_false_eq_true, not_true_eq_false, eq_self, exIA, exIS, exAI, exAS, exSI, exSA, true_or, or_true, false_or, or_false, Nat.reduceEqDiff, Bool.true_and, Bool.and_true, Bool.false_and, Bool.and_false, Bool.true_eq_false, Bool.false_eq_true, i10, i20, i30, vp0, nc0]
                refine s_annexed q2 h2 i'.cn ht ?_
                exact k _ _ w2 (fun _ => rfl)
theorem op_bringBack {σ : St} {n : Nat} (iS : InvS σ) (i : Inv (zG σ) n) (a b : Int32) : OpI (fun X K => w_L_bringBack 1 a b 129 X K) (fun X K => w_X5_bringBack 123 a b X K) σ := by
  have hn := i.cn
  cases h0 : inC (zG σ 366) a
  · skip
    refine ⟨1, 0, σ, iS, fun X m o K w k => ?_, fun X d o K w k => ?_⟩
    · have q := w.1
      have h : TR X 2 (zG σ) := w.2.1.1
      simp only [w_L_bringBack, w_X4_bringBack, q.t1, q.r1_0, q.r1_1, q.t2, q.t14, e_checkTranslation q h, h0, hty_sI, hln_sI, hR_sI, cnd1, cnd2, b2i_0, b2i_1, b2i_z, if_true, if_false, true_and, and_true, true_implies, false_implies, ne_eq, not_false_eq_true, not_true_eq_false, eq_self, exIA, exIS, exAI, exAS, exSI, exSA, true_or, or_true, false_or, or_false, Nat.reduceEqDiff, Bool.true_and, Bool.and_true, Bool.false_and, Bool.and_false, Bool.true_eq_false, Bool.false_eq_true, i10, i20, i30, vp0, nc0]
      exact k _ _ w (fun e => absurd e (by decide))
    · have q := w.1
      have h := w.rr
      simp only [w_X5_bringBack, w_X5_bringBack_44, q.t123, q.r123_0, q.t124, q.n124, x_are q h, qC hn, qT, h0, rf0 q, rf1 q, rf2 q, rf3 q, hty_sI, hln_sI, hR_sI, cnd1, cnd2, b2i_0, b2i_1, b2i_z, if_true, if_false, true_and, and_true, true_implies, false_implies, ne_eq, not_false_eq_true, not_true_eq_false, eq_self, exIA, exIS, exAI, exAS, exSI, exSA, true_or, or_true, false_or, or_false, Nat.reduceEqDiff, Bool.true_and, Bool.and_true, Bool.false_and, Bool.and_false, Bool.true_eq_false, Bool.false_eq_true, i10, i20, i30, vp0, nc0]
      exact k _ _ w.thr (fun e => absurd e (by decide))
  · skip
    cases h1 : inT b
    · skip
      refine ⟨1, 0, σ, iS, fun X m o K w k => ?_, fun X d o K w k => ?_⟩
      · have q := w.1
        have h : TR X 2 (zG σ) := w.2.1.1
        simp only [w_L_bringBack, w_X4_bringBack, q.t1, q.r1_0, q.r1_1, q.t2, q.t14, e_checkTranslation q h, h0, h1, hty_sI, hln_sI, hR_sI, cnd1, cnd2, b2i_0, b2i_1, b2i_z, if_true, if_false, true_and, and_true, true_implies, false_implies, ne_eq, not_false_eq_true, not_true_eq_false, eq_self, exIA, exIS, exAI, exAS, exSI, exSA, true_or, or_true, false_or, or_false, Nat.reduceEqDiff, Bool.true_and, Bool.and_true, Bool.false_and, Bool.and_false, Bool.true_eq_false, Bool.false_eq_true, i10, i20, i30, vp0, nc0]
        exact k _ _ w (fun e => absurd e (by decide))
      · have q := w.1
        have h := w.rr
        simp only [w_X5_bringBack, w_X5_bringBack_44, q.t123, q.r123_0, q.t124, q.n124, x_are q h, qC hn, qT, h0, h1, rf0 q, rf1 q, rf2 q, rf3 q, hty_sI, hln_sI, hR_sI, cnd1, cnd2, b2i_0, b2i_1, b2i_z, if_true, if_false, true_and, and_true, true_implies, false_implies, ne_eq, not_false_eq_true, not_true_eq_false, eq_self, exIA, exIS, exAI, exAS, exSI, exSA, true_or, or_true, false_or, or_false, Nat.reduceEqDiff, Bool.true_and, Bool.and_true, Bool.false_and, Bool.and_false, Bool.true_eq_false, Bool.false_eq_true, i10, i20, i30, vp0, nc0]
        exact k _ _ w.thr (fun e => absurd e (by decide))
    · skip
      obtain ⟨c, hc, rfl⟩ := inC_ex hn h0
      obtain ⟨t, ht, rfl⟩ := inT_ex h1
      have hcn := hc
      replace hc : c < 24 := Nat.lt_of_lt_of_le hc hn.2
      obtain ⟨⟨f, a0, hf, eF, eA⟩, -⟩ := (i.2.1 c hcn).2.2.2 t ht
      by_cases p0 : gAn (zG σ) c t = 0
      · skip
        refine ⟨2, 0, σ, iS, fun X m o K w k => ?_, fun X d o K w k => ?_⟩
        · have q := w.1
          have h : TR X 2 (zG σ) := w.2.1.1
          simp only [w_L_bringBack, w_X4_bringBack, q.t1, q.r1_0, q.r1_1, q.t2, q.t14, e_checkTranslation q h, e_annexedAt q h hc ht, h0, h1, p0, hty_sI, hln_sI, hR_sI, cnd1, cnd2, b2i_0, b2i_1, b2i_z, if_true, if_false, true_and, and_true, true_implies, false_implies, ne_eq, not_false_eq_true, not_true_eq_false, eq_self, exIA, exIS, exAI, exAS, exSI, exSA, true_or, or_true, false_or, or_false, Nat.reduceEqDiff, Bool.true_and, Bool.and_true, Bool.false_and, Bool.and_false, Bool.true_eq_false, Bool.false_eq_true, i10, i20, i30, vp0, nc0]
          exact k _ _ w (fun e => absurd e (by decide))
        · have q := w.1
          have h := w.rr
          simp only [w_X5_bringBack, w_X5_bringBack_44, q.t123, q.r123_0, q.t124, q.n124, x_are q h, qC hn, qT, w_X5_at, ixA_eq, vp3 (show 13 * c + 7 + t < 371 by omega), h.v (show 13 * c + 7 + t < 371 by omega), show zG σ (13 * c + 7 + t) = gAn (zG σ) c t from rfl, h0, h1, p0, rf0 q, rf1 q, rf2 q, rf3 q, hty_sI, hln_sI, hR_sI, cnd1, cnd2, b2i_0, b2i_1, b2i_z, if_true, if_false, true_and, and_true, true_implies, false_implies, ne_eq, not_false_eq_true, not_true_eq_false, eq_self, exIA, exIS, exAI, exAS, exSI, exSA, true_or, or_true, false_or, or_false, Nat.reduceEqDiff, Bool.true_and, Bool.and_true, Bool.false_and, Bool.and_false, Bool.true_eq_false, Bool.false_eq_true, i10, i20, i30, vp0, nc0]
          exact k _ _ w.thr (fun e => absurd e (by decide))
      · skip
        cases p1 : pTk (zG σ) c t
        rotate_left
        · skip
          refine ⟨2, 0, σ, iS, fun X m o K w k => ?_, fun X d o K w k => ?_⟩
          · have q := w.1
            have h : TR X 2 (zG σ) := w.2.1.1
            simp only [w_L_bringBack, w_X4_bringBack, q.t1, q.r1_0, q.r1_1, q.t2, q.t14, e_checkTranslation q h, e_annexedAt q h hc ht, e_isTaken q h hc ht, h0, h1, p0, p1, hty_sI, hln_sI, hR_sI, cnd1, cnd2, b2i_0, b2i_1, b2i_z, if_true, if_false, true_and, and_true, true_implies, false_implies, ne_eq, not_false_eq_true, not_true_eq_false, eq_self, exIA, exIS, exAI, exAS, exSI, exSA, true_or, or_true, false_or, or_false, Nat.reduceEqDiff, Bool.true_and, Bool.and_true, Bool.false_and, Bool.and_false, Bool.true_eq_false, Bool.false_eq_true, i10, i20, i30, vp0, nc0]
            exact k _ _ w (fun e => absurd e (by decide))
          · have q := w.1
            have h := w.rr
            simp only [w_X5_bringBack, w_X5_bringBack_44, q.t123, q.r123_0, q.t124, q.n124, x_are q h, qC hn, qT, w_X5_at, ixA_eq, vp3 (show 13 * c + 7 + t < 371 by omega), h.v (show 13 * c + 7 + t < 371 by omega), show zG σ (13 * c + 7 + t) = gAn (zG σ) c t from rfl, x_isTaken q h hc ht, h0, h1, p0, p1, rf0 q, rf1 q, rf2 q, rf3 q, hty_sI, hln_sI, hR_sI, cnd1, cnd2, b2i_0, b2i_1, b2i_z, if_true, if_false, true_and, and_true, true_implies, false_implies, ne_eq, not_false_eq_true, not_true_eq_false, eq_self, exIA, exIS, exAI, exAS, exSI, exSA, true_or, or_true, false_or, or_false, Nat.reduceEqDiff, Bool.true_and, Bool.and_true, Bool.false_and, Bool.and_false, Bool.true_eq_false, Bool.false_eq_true, i10, i20, i30, vp0, nc0]
            exact k _ _ w.thr (fun e => absurd e (by decide))
        · skip
          have i' : Inv (upr (upr (zG σ) (13 * c + 7 + t) 0) (13 * c + 4 + t) (gF (zG σ) c t + gAn (zG σ) c t)) (n) := by
            refine i.clause hcn (fun k hk => (upr_ne (by omega)).trans (upr_ne (by omega))) ?_
            rw [upr_comm (by omega), eF, eA, ← Int32.ofNat_add]
            exact (i.2.1 c hcn).setFA (a := 0) ht (by omega)
          refine ⟨0, gAn (zG σ) c t, ((upr (upr (zG σ) (13 * c + 7 + t) 0) (13 * c + 4 + t) (gF (zG σ) c t + gAn (zG σ) c t)), (pushS σ).2), iS.push i', fun X m o K w k => ?_, fun X d o K w k => ?_⟩
          · have q := w.1
            have h : TR X 2 (zG σ) := w.2.1.1
            simp only [w_L_bringBack, w_X4_bringBack, q.t1, q.r1_0, q.r1_1, q.t2, q.t14, e_checkTranslation q h, e_annexedAt q h hc ht, e_isTaken q h hc ht, h0, h1, p0, p1, hty_sI, hln_sI, hR_sI, cnd1, cnd2, b2i_0, b2i_1, b2i_z, if_true, if_false, true_and, and_true, true_implies, false_implies, ne_eq, not_false_eq_true, not_true_eq_false, eq_self, exIA, exIS, exAI, exAS, exSI, exSA, true_or, or_true, false_or, or_false, Nat.reduceEqDiff, Bool.true_and, Bool.and_true, Bool.false_and, Bool.and_false, Bool.true_eq_false, Bool.false_eq_true, i10, i20, i30, vp0, nc0]
            refine s_push w (fun X1 w1 => ?_)
            have q1 := w1.1
            have g1 : TR X1 2 (zG σ) := w1.2.1.1
            have w2 := ((w1.pF (v := gF (zG σ) c t + gAn (zG σ) c t) hc ht).pA (v := 0) hc ht).rowE (upr_comm (by omega))
            simp only [q1.t1, q1.r1_0, q1.t2, q1.t129, q1.n129, e_framesAt q1 g1 hc ht, e_putTranslation q1 hc ht, hty_sI, hln_sI, hR_sI, cnd1, cnd2, b2i_0, b2i_1, b2i_z, if_true, if_false, true_and, and_true, true_implies, false_implies, ne_eq, not_false_eq_true, not_true_eq_false, eq_self, exIA, exIS, exAI, exAS, exSI, exSA, true_or, or_true, false_or, or_false, Nat.reduceEqDiff, Bool.true_and, Bool.and_true, Bool.false_and, Bool.and_false, Bool.true_eq_false, Bool.false_eq_true, i10, i20, i30, vp0, nc0]
            exact k _ _ w2.out (fun _ => rfl)
          · have q := w.1
            have h := w.rr
            simp only [w_X5_bringBack, w_X5_bringBack_44, q.t123, q.r123_0, q.t124, q.n124, x_are q h, qC hn, qT, w_X5_at, ixA_eq, vp3 (show 13 * c + 7 + t < 371 by omega), h.v (show 13 * c + 7 + t < 371 by omega), show zG σ (13 * c + 7 + t) = gAn (zG σ) c t from rfl, x_isTaken q h hc ht, h0, h1, p0, p1, rf0 q, rf1 q, rf2 q, rf3 q, hty_sI, hln_sI, hR_sI, cnd1, cnd2, b2i_0, b2i_1, b2i_z, if_true, if_false, true_and, and_true, true_implies, false_implies, ne_eq, not_false_eq_true, not_true_eq_false, eq_self, exIA, exIS, exAI, exAS, exSI, exSA, true_or, or_true, false_or, or_false, Nat.reduceEqDiff, Bool.true_and, Bool.and_true, Bool.false_and, Bool.and_false, Bool.true_eq_false, Bool.false_eq_true, i10, i20, i30, vp0, nc0]
            try simp only [ixA_eq]
            refine s_sets w.thr (by omega) (fun X1 w1 => ?_)
            have q1 := w1.1
            have eF1 : hI X1 124 (13 * c + 4 + t) = gF (zG σ) c t := (w1.rr _ (by omega)).trans (upr_ne (by omega))
            simp only [q1.t123, q1.r123_0, q1.t124, q1.n124, ixF_eq, vp3 (show 13 * c + 4 + t < 371 by omega), ncv (show 13 * c + 4 + t < 371 by omega), eF1, hty_sI, hln_sI, hR_sI, cnd1, cnd2, b2i_0, b2i_1, b2i_z, if_true, if_false, true_and, and_true, true_implies, false_implies, ne_eq, not_false_eq_true, not_true_eq_false, eq_self, exIA, exIS, exAI, exAS, exSI, exSA, true_or, or_true, false_or, or_false, Nat.reduceEqDiff, Bool.true_and, Bool.and_true, Bool.false_and, Bool.and_false, Bool.true_eq_false, Bool.false_eq_true, i10, i20, i30, vp0, nc0]
            exact k _ _ (w1.mp (k := 13 * c + 4 + t) (by omega)) (fun _ => rfl)
theorem op_cast {σ : St} {n : Nat} (iS : InvS σ) (i : Inv (zG σ) n) (a b e : Int32) : OpI (fun X K => w_L_cast 1 a b e 129 X K) (fun X K => w_X5_cast 123 a b e X K) σ := by
  have hn := i.cn
  cases h0 : inS a
  · skip
    refine ⟨1, 0, σ, iS, fun X m o K w k => ?_, fun X d o K w k => ?_⟩
    · have q := w.1
      have h : TR X 2 (zG σ) := w.2.1.1
      simp only [w_L_cast, w_X4_cast, q.t1, q.r1_0, q.r1_1, q.t2, q.t14, e_checkVoice, h0, hty_sI, hln_sI, hR_sI, cnd1, cnd2, b2i_0, b2i_1, b2i_z, if_true, if_false, true_and, and_true, true_implies, false_implies, ne_eq, not_false_eq_true, not_true_eq_false, eq_self, exIA, exIS, exAI, exAS, exSI, exSA, true_or, or_true, false_or, or_false, Nat.reduceEqDiff, Bool.true_and, Bool.and_true, Bool.false_and, Bool.and_false, Bool.true_eq_false, Bool.false_eq_true, i10, i20, i30, vp0, nc0]
      exact k _ _ w (fun e => absurd e (by decide))
    · have q := w.1
      have h := w.rr
      simp only [w_X5_cast, w_X5_cast_51, q.t123, q.r123_0, q.t124, q.n124, x_isVoice, qS, qT, h0, rf0 q, rf1 q, rf2 q, rf3 q, hty_sI, hln_sI, hR_sI, cnd1, cnd2, b2i_0, b2i_1, b2i_z, if_true, if_false, true_and, and_true, true_implies, false_implies, ne_eq, not_false_eq_true, not_true_eq_false, eq_self, exIA, exIS, exAI, exAS, exSI, exSA, true_or, or_true, false_or, or_false, Nat.reduceEqDiff, Bool.true_and, Bool.and_true, Bool.false_and, Bool.and_false, Bool.true_eq_false, Bool.false_eq_true, i10, i20, i30, vp0, nc0]
      exact k _ _ w.thr (fun e => absurd e (by decide))
  · skip
    cases h1 : inT b
    · skip
      refine ⟨1, 0, σ, iS, fun X m o K w k => ?_, fun X d o K w k => ?_⟩
      · have q := w.1
        have h : TR X 2 (zG σ) := w.2.1.1
        simp only [w_L_cast, w_X4_cast, q.t1, q.r1_0, q.r1_1, q.t2, q.t14, e_checkVoice, h0, h1, hty_sI, hln_sI, hR_sI, cnd1, cnd2, b2i_0, b2i_1, b2i_z, if_true, if_false, true_and, and_true, true_implies, false_implies, ne_eq, not_false_eq_true, not_true_eq_false, eq_self, exIA, exIS, exAI, exAS, exSI, exSA, true_or, or_true, false_or, or_false, Nat.reduceEqDiff, Bool.true_and, Bool.and_true, Bool.false_and, Bool.and_false, Bool.true_eq_false, Bool.false_eq_true, i10, i20, i30, vp0, nc0]
        exact k _ _ w (fun e => absurd e (by decide))
      · have q := w.1
        have h := w.rr
        simp only [w_X5_cast, w_X5_cast_51, q.t123, q.r123_0, q.t124, q.n124, x_isVoice, qS, qT, h0, h1, rf0 q, rf1 q, rf2 q, rf3 q, hty_sI, hln_sI, hR_sI, cnd1, cnd2, b2i_0, b2i_1, b2i_z, if_true, if_false, true_and, and_true, true_implies, false_implies, ne_eq, not_false_eq_true, not_true_eq_false, eq_self, exIA, exIS, exAI, exAS, exSI, exSA, true_or, or_true, false_or, or_false, Nat.reduceEqDiff, Bool.true_and, Bool.and_true, Bool.false_and, Bool.and_false, Bool.true_eq_false, Bool.false_eq_true, i10, i20, i30, vp0, nc0]
        exact k _ _ w.thr (fun e => absurd e (by decide))
    · skip
      obtain ⟨s, hs, rfl⟩ := inS_ex h0
      obtain ⟨t, ht, rfl⟩ := inT_ex h1
      cases p0 : inG e 20 120
      · skip
        refine ⟨2, 0, σ, iS, fun X m o K w k => ?_, fun X d o K w k => ?_⟩
        · have q := w.1
          have h : TR X 2 (zG σ) := w.2.1.1
          simp only [w_L_cast, w_X4_cast, q.t1, q.r1_0, q.r1_1, q.t2, q.t14, e_checkVoice, e_checkRange, h0, h1, p0, hty_sI, hln_sI, hR_sI, cnd1, cnd2, b2i_0, b2i_1, b2i_z, if_true, if_false, true_and, and_true, true_implies, false_implies, ne_eq, not_false_eq_true, not_true_eq_false, eq_self, exIA, exIS, exAI, exAS, exSI, exSA, true_or, or_true, false_or, or_false, Nat.reduceEqDiff, Bool.true_and, Bool.and_true, Bool.false_and, Bool.and_false, Bool.true_eq_false, Bool.false_eq_true, i10, i20, i30, vp0, nc0]
          exact k _ _ w (fun e => absurd e (by decide))
        · have q := w.1
          have h := w.rr
          simp only [w_X5_cast, w_X5_cast_51, q.t123, q.r123_0, q.t124, q.n124, x_isVoice, qS, qT, x_in, qG (lo := 20) (hi := 120), h0, h1, p0, rf0 q, rf1 q, rf2 q, rf3 q, hty_sI, hln_sI, hR_sI, cnd1, cnd2, b2i_0, b2i_1, b2i_z, if_true, if_false, true_and, and_true, true_implies, false_implies, ne_eq, not_false_eq_true, not_true_eq_false, eq_self, exIA, exIS, exAI, exAS, exSI, exSA, true_or, or_true, false_or, or_false, Nat.reduceEqDiff, Bool.true_and, Bool.and_true, Bool.false_and, Bool.and_false, Bool.true_eq_false, Bool.false_eq_true, i10, i20, i30, vp0, nc0]
          exact k _ _ w.thr (fun e => absurd e (by decide))
      · skip
        obtain ⟨l, hl1, hl2, rfl⟩ := inG_ex (lo := 20) (hi := 120) (by decide) (by decide) p0
        by_cases p1 : gU (zG σ) s t ≤ Int32.ofNat l
        rotate_left
        · skip
          refine ⟨3, 0, σ, iS, fun X m o K w k => ?_, fun X d o K w k => ?_⟩
          · have q := w.1
            have h : TR X 2 (zG σ) := w.2.1.1
            simp only [w_L_cast, w_X4_cast, q.t1, q.r1_0, q.r1_1, q.t2, q.t14, e_checkVoice, e_checkRange, e_usedBy q h hs ht, h0, h1, p0, p1, hty_sI, hln_sI, hR_sI, cnd1, cnd2, b2i_0, b2i_1, b2i_z, if_true, if_false, true_and, and_true, true_implies, false_implies, ne_eq, not_false_eq_true, not_true_eq_false, eq_self, exIA, exIS, exAI, exAS, exSI, exSA, true_or, or_true, false_or, or_false, Nat.reduceEqDiff, Bool.true_and, Bool.and_true, Bool.false_and, Bool.and_false, Bool.true_eq_false, Bool.false_eq_true, i10, i20, i30, vp0, nc0]
            exact k _ _ w (fun e => absurd e (by decide))
          · have q := w.1
            have h := w.rr
            simp only [w_X5_cast, w_X5_cast_51, q.t123, q.r123_0, q.t124, q.n124, x_isVoice, qS, qT, x_in, qG (lo := 20) (hi := 120), ixU_eq, vp3 (show 327 + (3 * s + t) < 371 by omega), h.v (show 327 + (3 * s + t) < 371 by omega), show zG σ (327 + (3 * s + t)) = gU (zG σ) s t from rfl, h0, h1, p0, p1, rf0 q, rf1 q, rf2 q, rf3 q, hty_sI, hln_sI, hR_sI, cnd1, cnd2, b2i_0, b2i_1, b2i_z, if_true, if_false, true_and, and_true, true_implies, false_implies, ne_eq, not_false_eq_true, not_true_eq_false, eq_self, exIA, exIS, exAI, exAS, exSI, exSA, true_or, or_true, false_or, or_false, Nat.reduceEqDiff, Bool.true_and, Bool.and_true, Bool.false_and, Bool.and_false, Bool.true_eq_false, Bool.false_eq_true, i10, i20, i30, vp0, nc0]
            exact k _ _ w.thr (fun e => absurd e (by decide))
        · skip
          have i' : Inv (upr (zG σ) (312 + (3 * s + t)) (Int32.ofNat l)) (n) := by
            obtain ⟨x, u, g1, g2, g3, e1, e2⟩ := i.2.2.2.1 s hs t ht
            rw [e2, of_le (by omega) (by omega)] at p1
            exact i.setSt hs ht hl1 hl2 p1 e2
          refine ⟨0, gSt (zG σ) s t, ((upr (zG σ) (312 + (3 * s + t)) (Int32.ofNat l)), (pushS σ).2), iS.push i', fun X m o K w k => ?_, fun X d o K w k => ?_⟩
          · have q := w.1
            have h : TR X 2 (zG σ) := w.2.1.1
            simp only [w_L_cast, w_X4_cast, q.t1, q.r1_0, q.r1_1, q.t2, q.t14, e_checkVoice, e_checkRange, e_usedBy q h hs ht, h0, h1, p0, p1, hty_sI, hln_sI, hR_sI, cnd1, cnd2, b2i_0, b2i_1, b2i_z, if_true, if_false, true_and, and_true, true_implies, false_implies, ne_eq, not_false_eq_true, not_true_eq_false, eq_self, exIA, exIS, exAI, exAS, exSI, exSA, true_or, or_true, false_or, or_false, Nat.reduceEqDiff, Bool.true_and, Bool.and_true, Bool.false_and, Bool.and_false, Bool.true_eq_false, Bool.false_eq_true, i10, i20, i30, vp0, nc0]
            refine s_push w (fun X1 w1 => ?_)
            have q1 := w1.1
            have g1 : TR X1 2 (zG σ) := w1.2.1.1
            simp only [q1.t1, q1.r1_0, q1.t2, q1.t129, q1.n129, e_staminaAt q1 g1 hs ht, e_putStamina q1 hs ht, hty_sI, hln_sI, hR_sI, cnd1, cnd2, b2i_0, b2i_1, b2i_z, if_true, if_false, true_and, and_true, true_implies, false_implies, ne_eq, not_false_eq_true, not_true_eq_false, eq_self, exIA, exIS, exAI, exAS, exSI, exSA, true_or, or_true, false_or, or_false, Nat.reduceEqDiff, Bool.true_and, Bool.and_true, Bool.false_and, Bool.and_false, Bool.true_eq_false, Bool.false_eq_true, i10, i20, i30, vp0, nc0]
            exact k _ _ (w1.pSt hs ht).out (fun _ => rfl)
          · have q := w.1
            have h := w.rr
            simp only [w_X5_cast, w_X5_cast_51, q.t123, q.r123_0, q.t124, q.n124, x_isVoice, qS, qT, x_in, qG (lo := 20) (hi := 120), ixU_eq, vp3 (show 327 + (3 * s + t) < 371 by omega), h.v (show 327 + (3 * s + t) < 371 by omega), show zG σ (327 + (3 * s + t)) = gU (zG σ) s t from rfl, h0, h1, p0, p1, rf0 q, rf1 q, rf2 q, rf3 q, hty_sI, hln_sI, hR_sI, cnd1, cnd2, b2i_0, b2i_1, b2i_z, if_true, if_false, true_and, and_true, true_implies, false_implies, ne_eq, not_false_eq_true, not_true_eq_false, eq_self, exIA, exIS, exAI, exAS, exSI, exSA, true_or, or_true, false_or, or_false, Nat.reduceEqDiff, Bool.true_and, Bool.and_true, Bool.false_and, Bool.and_false, Bool.true_eq_false, Bool.false_eq_true, i10, i20, i30, vp0, nc0]
            simp only [ixSt_eq]
            exact s_sets w.thr (by omega) (fun X1 w1 => k _ _ w1 (fun _ => rfl))
theorem op_record {σ : St} {n : Nat} (iS : InvS σ) (i : Inv (zG σ) n) (a b : Int32) : OpI (fun X K => w_L_record 1 a b 129 X K) (fun X K => w_X5_record 123 a b X K) σ := by
  have hn := i.cn
  cases h0 : inC (zG σ 366) a
  · skip
    refine ⟨1, 0, σ, iS, fun X m o K w k => ?_, fun X d o K w k => ?_⟩
    · have q := w.1
      have h : TR X 2 (zG σ) := w.2.1.1
      simp only [w_L_record, w_X4_record, q.t1, q.r1_0, q.r1_1, q.t2, q.t14, e_checkTranslation q h, h0, hty_sI, hln_sI, hR_sI, cnd1, cnd2, b2i_0, b2i_1, b2i_z, if_true, if_false, true_and, and_true, true_implies, false_implies, ne_eq, not_false_eq_true, not_true_eq_false, eq_self, exIA, exIS, exAI, exAS, exSI, exSA, true_or, or_true, false_or, or_false, Nat.reduceEqDiff, Bool.true_and, Bool.and_true, Bool.false_and, Bool.and_false, Bool.true_eq_false, Bool.false_eq_true, i10, i20, i30, vp0, nc0]
      exact k _ _ w (fun e => absurd e (by decide))
    · have q := w.1
      have h := w.rr
      simp only [w_X5_record, w_X5_record_28, q.t123, q.r123_0, q.t124, q.n124, x_are q h, qC hn, qT, h0, rf0 q, rf1 q, rf2 q, rf3 q, hty_sI, hln_sI, hR_sI, cnd1, cnd2, b2i_0, b2i_1, b2i_z, if_true, if_false, true_and, and_true, true_implies, false_implies, ne_eq, not_false_eq_true, not_true_eq_false, eq_self, exIA, exIS, exAI, exAS, exSI, exSA, true_or, or_true, false_or, or_false, Nat.reduceEqDiff, Bool.true_and, Bool.and_true, Bool.false_and, Bool.and_false, Bool.true_eq_false, Bool.false_eq_true, i10, i20, i30, vp0, nc0]
      exact k _ _ w.thr (fun e => absurd e (by decide))
  · skip
    cases h1 : inT b
    · skip
      refine ⟨1, 0, σ, iS, fun X m o K w k => ?_, fun X d o K w k => ?_⟩
      · have q := w.1
        have h : TR X 2 (zG σ) := w.2.1.1
        simp only [w_L_record, w_X4_record, q.t1, q.r1_0, q.r1_1, q.t2, q.t14, e_checkTranslation q h, h0, h1, hty_sI, hln_sI, hR_sI, cnd1, cnd2, b2i_0, b2i_1, b2i_z, if_true, if_false, true_and, and_true, true_implies, false_implies, ne_eq, not_false_eq_true, not_true_eq_false, eq_self, exIA, exIS, exAI, exAS, exSI, exSA, true_or, or_true, false_or, or_false, Nat.reduceEqDiff, Bool.true_and, Bool.and_true, Bool.false_and, Bool.and_false, Bool.true_eq_false, Bool.false_eq_true, i10, i20, i30, vp0, nc0]
        exact k _ _ w (fun e => absurd e (by decide))
      · have q := w.1
        have h := w.rr
        simp only [w_X5_record, w_X5_record_28, q.t123, q.r123_0, q.t124, q.n124, x_are q h, qC hn, qT, h0, h1, rf0 q, rf1 q, rf2 q, rf3 q, hty_sI, hln_sI, hR_sI, cnd1, cnd2, b2i_0, b2i_1, b2i_z, if_true, if_false, true_and, and_true, true_implies, false_implies, ne_eq, not_false_eq_true, not_true_eq_false, eq_self, exIA, exIS, exAI, exAS, exSI, exSA, true_or, or_true, false_or, or_false, Nat.reduceEqDiff, Bool.true_and, Bool.and_true, Bool.false_and, Bool.and_false, Bool.true_eq_false, Bool.false_eq_true, i10, i20, i30, vp0, nc0]
        exact k _ _ w.thr (fun e => absurd e (by decide))
    · skip
      obtain ⟨c, hc, rfl⟩ := inC_ex hn h0
      obtain ⟨t, ht, rfl⟩ := inT_ex h1
      have hcn := hc
      replace hc : c < 24 := Nat.lt_of_lt_of_le hc hn.2
      obtain ⟨s, hs, eS⟩ := i.S c hcn
      by_cases p0 : gRs (zG σ) c t = 0
      rotate_left
      · skip
        refine ⟨2, 0, σ, iS, fun X m o K w k => ?_, fun X d o K w k => ?_⟩
        · have q := w.1
          have h : TR X 2 (zG σ) := w.2.1.1
          simp only [w_L_record, w_X4_record, q.t1, q.r1_0, q.r1_1, q.t2, q.t14, e_checkTranslation q h, e_reasonAt q h hc ht (i.S c hcn), h0, h1, p0, hty_sI, hln_sI, hR_sI, cnd1, cnd2, b2i_0, b2i_1, b2i_z, if_true, if_false, true_and, and_true, true_implies, false_implies, ne_eq, not_false_eq_true, not_true_eq_false, eq_self, exIA, exIS, exAI, exAS, exSI, exSA, true_or, or_true, false_or, or_false, Nat.reduceEqDiff, Bool.true_and, Bool.and_true, Bool.false_and, Bool.and_false, Bool.true_eq_false, Bool.false_eq_true, i10, i20, i30, vp0, nc0]
          exact k _ _ w (fun e => absurd e (by decide))
        · have q := w.1
          have h := w.rr
          simp only [w_X5_record, w_X5_record_28, q.t123, q.r123_0, q.t124, q.n124, x_are q h, qC hn, qT, x_reason q h hc ht (i.S c hcn) (i.F ht c hcn), gRs_0, h0, h1, p0, rf0 q, rf1 q, rf2 q, rf3 q, hty_sI, hln_sI, hR_sI, cnd1, cnd2, b2i_0, b2i_1, b2i_z, if_true, if_false, true_and, and_true, true_implies, false_implies, ne_eq, not_false_eq_true, not_true_eq_false, eq_self, exIA, exIS, exAI, exAS, exSI, exSA, true_or, or_true, false_or, or_false, Nat.reduceEqDiff, Bool.true_and, Bool.and_true, Bool.false_and, Bool.and_false, Bool.true_eq_false, Bool.false_eq_true, i10, i20, i30, vp0, nc0]
          exact k _ _ w.thr (fun e => absurd e (by decide))
      · skip
        have i' : Inv (takeG (zG σ) c t s) (n) := by
          exact takeG_inv i hcn ht hs eS p0
        refine ⟨0, gSn (takeG (zG σ) c t s) s t, ((takeG (zG σ) c t s), (pushS σ).2), iS.push i', fun X m o K w k => ?_, fun X d o K w k => ?_⟩
        · have q := w.1
          have h : TR X 2 (zG σ) := w.2.1.1
          simp only [w_L_record, w_X4_record, q.t1, q.r1_0, q.r1_1, q.t2, q.t14, e_checkTranslation q h, e_reasonAt q h hc ht (i.S c hcn), h0, h1, p0, hty_sI, hln_sI, hR_sI, cnd1, cnd2, b2i_0, b2i_1, b2i_z, if_true, if_false, true_and, and_true, true_implies, false_implies, ne_eq, not_false_eq_true, not_true_eq_false, eq_self, exIA, exIS, exAI, exAS, exSI, exSA, true_or, or_true, false_or, or_false, Nat.reduceEqDiff, Bool.true_and, Bool.and_true, Bool.false_and, Bool.and_false, Bool.true_eq_false, Bool.false_eq_true, i10, i20, i30, vp0, nc0]
          refine s_push w (fun X1 w1 => ?_)
          have q1 := w1.1
          have g1 : TR X1 2 (zG σ) := w1.2.1.1
          have w2 := ((w1.pU (v := gU (zG σ) s t + gB (zG σ) c t) hs ht).pT (v := zG σ 367 + 1) hc ht).p13 (v := zG σ 368 + 1)
          have q2 := w2.1
          have g2 : TR _ 2 (takeG (zG σ) c t s) := w2.2.1.1
          have eS2 : gS (takeG (zG σ) c t s) c = Int32.ofNat s := (takeG_S hc ht hs).trans eS
          simp only [q1.t1, q1.r1_0, q1.t2, q1.t129, q1.n129, e_take q1 g1 hc ht hs eS, e_speakerAt q2 g2 hc, eS2, e_strengthAt q2 g2 hs ht, hty_sI, hln_sI, hR_sI, cnd1, cnd2, b2i_0, b2i_1, b2i_z, if_true, if_false, true_and, and_true, true_implies, false_implies, ne_eq, not_false_eq_true, not_true_eq_false, eq_self, exIA, exIS, exAI, exAS, exSI, exSA, true_or, or_true, false_or, or_false, Nat.reduceEqDiff, Bool.true_and, Bool.and_true, Bool.false_and, Bool.and_false, Bool.true_eq_false, Bool.false_eq_true, i10, i20, i30, vp0, nc0]
          exact k _ _ w2.out (fun _ => rfl)
        · have q := w.1
          have h := w.rr
          simp only [w_X5_record, w_X5_record_28, q.t123, q.r123_0, q.t124, q.n124, x_are q h, qC hn, qT, x_reason q h hc ht (i.S c hcn) (i.F ht c hcn), gRs_0, h0, h1, p0, rf0 q, rf1 q, rf2 q, rf3 q, hty_sI, hln_sI, hR_sI, cnd1, cnd2, b2i_0, b2i_1, b2i_z, if_true, if_false, true_and, and_true, true_implies, false_implies, ne_eq, not_false_eq_true, not_true_eq_false, eq_self, exIA, exIS, exAI, exAS, exSI, exSA, true_or, or_true, false_or, or_false, Nat.reduceEqDiff, Bool.true_and, Bool.and_true, Bool.false_and, Bool.and_false, Bool.true_eq_false, Bool.false_eq_true, i10, i20, i30, vp0, nc0]
          refine s_saves w.thr (fun X1 w1 => ?_)
          have q1 := w1.1
          have h1 : RR X1 (zG σ) := w1.rr
          have eS1 : hI X1 124 (13 * c + 1) = Int32.ofNat s := (h1 _ (by omega)).trans eS
          have eU1 : hI X1 124 (327 + (3 * s + t)) = gU (zG σ) s t := h1 _ (by omega)
          have w2 := w1.mp (k := 327 + (3 * s + t)) (v := gU (zG σ) s t + gB (zG σ) c t) (by omega)
          have e367 : hI (sI X1 124 (327 + (3 * s + t)) (gU (zG σ) s t + gB (zG σ) c t)) 124 367 = zG σ 367 := by
            rw [sI_nk (by omega)]
            exact h1 _ (by decide)
          have w3 := w2.mp (k := 13 * c + 10 + t) (v := zG σ 367 + 1) (by omega)
          have e368 : hI (sI (sI X1 124 (327 + (3 * s + t)) (gU (zG σ) s t + gB (zG σ) c t)) 124 (13 * c + 10 + t) (zG σ 367 + 1)) 124 368 = zG σ 368 := by
            rw [sI_nk (by omega), sI_nk (by omega)]
            exact h1 _ (by decide)
          have w4 := w3.mp (k := 368) (v := zG σ 368 + 1) (by decide)
          have q4 := w4.1
          have h4 : RR _ (takeG (zG σ) c t s) := w4.rr
          simp only [q1.t123, q1.r123_0, q1.t124, q1.n124, w_X5_at, ix1_eq, ixU_eq, ixT_eq, vp3 (show 13 * c + 1 < 371 by omega), vp3 (show 327 + (3 * s + t) < 371 by omega), vp3 (show 13 * c + 10 + t < 371 by omega), ncv (show 13 * c + 1 < 371 by omega), ncv (show 327 + (3 * s + t) < 371 by omega), ncv (show 13 * c + 10 + t < 371 by omega), vp367, nc367, vp368, nc368, eS1, eU1, x_both q1 h1 hc ht, e367, e368, x_left q4 h4 hs ht, hty_sI, hln_sI, hR_sI, cnd1, cnd2, b2i_0, b2i_1, b2i_z, if_true, if_false, true_and, and_true, true_implies, false_implies, ne_eq, not_false_eq_true, not_true_eq_false, eq_self, exIA, exIS, exAI, exAS, exSI, exSA, true_or, or_true, false_or, or_false, Nat.reduceEqDiff, Bool.true_and, Bool.and_true, Bool.false_and, Bool.and_false, Bool.true_eq_false, Bool.false_eq_true, i10, i20, i30, vp0, nc0]
          exact k _ _ w4 (fun _ => rfl)
theorem op_wipe {σ : St} {n : Nat} (iS : InvS σ) (i : Inv (zG σ) n) (a b : Int32) : OpI (fun X K => w_L_wipe 1 a b 129 X K) (fun X K => w_X5_wipe 123 a b X K) σ := by
  have hn := i.cn
  cases h0 : inC (zG σ 366) a
  · skip
    refine ⟨1, 0, σ, iS, fun X m o K w k => ?_, fun X d o K w k => ?_⟩
    · have q := w.1
      have h : TR X 2 (zG σ) := w.2.1.1
      simp only [w_L_wipe, w_X4_wipe, q.t1, q.r1_0, q.r1_1, q.t2, q.t14, e_checkTranslation q h, h0, hty_sI, hln_sI, hR_sI, cnd1, cnd2, b2i_0, b2i_1, b2i_z, if_true, if_false, true_and, and_true, true_implies, false_implies, ne_eq, not_false_eq_true, not_true_eq_false, eq_self, exIA, exIS, exAI, exAS, exSI, exSA, true_or, or_true, false_or, or_false, Nat.reduceEqDiff, Bool.true_and, Bool.and_true, Bool.false_and, Bool.and_false, Bool.true_eq_false, Bool.false_eq_true, i10, i20, i30, vp0, nc0]
      exact k _ _ w (fun e => absurd e (by decide))
    · have q := w.1
      have h := w.rr
      simp only [w_X5_wipe, w_X5_wipe_28, q.t123, q.r123_0, q.t124, q.n124, x_are q h, qC hn, qT, h0, rf0 q, rf1 q, rf2 q, rf3 q, hty_sI, hln_sI, hR_sI, cnd1, cnd2, b2i_0, b2i_1, b2i_z, if_true, if_false, true_and, and_true, true_implies, false_implies, ne_eq, not_false_eq_true, not_true_eq_false, eq_self, exIA, exIS, exAI, exAS, exSI, exSA, true_or, or_true, false_or, or_false, Nat.reduceEqDiff, Bool.true_and, Bool.and_true, Bool.false_and, Bool.and_false, Bool.true_eq_false, Bool.false_eq_true, i10, i20, i30, vp0, nc0]
      exact k _ _ w.thr (fun e => absurd e (by decide))
  · skip
    cases h1 : inT b
    · skip
      refine ⟨1, 0, σ, iS, fun X m o K w k => ?_, fun X d o K w k => ?_⟩
      · have q := w.1
        have h : TR X 2 (zG σ) := w.2.1.1
        simp only [w_L_wipe, w_X4_wipe, q.t1, q.r1_0, q.r1_1, q.t2, q.t14, e_checkTranslation q h, h0, h1, hty_sI, hln_sI, hR_sI, cnd1, cnd2, b2i_0, b2i_1, b2i_z, if_true, if_false, true_and, and_true, true_implies, false_implies, ne_eq, not_false_eq_true, not_true_eq_false, eq_self, exIA, exIS, exAI, exAS, exSI, exSA, true_or, or_true, false_or, or_false, Nat.reduceEqDiff, Bool.true_and, Bool.and_true, Bool.false_and, Bool.and_false, Bool.true_eq_false, Bool.false_eq_true, i10, i20, i30, vp0, nc0]
        exact k _ _ w (fun e => absurd e (by decide))
      · have q := w.1
        have h := w.rr
        simp only [w_X5_wipe, w_X5_wipe_28, q.t123, q.r123_0, q.t124, q.n124, x_are q h, qC hn, qT, h0, h1, rf0 q, rf1 q, rf2 q, rf3 q, hty_sI, hln_sI, hR_sI, cnd1, cnd2, b2i_0, b2i_1, b2i_z, if_true, if_false, true_and, and_true, true_implies, false_implies, ne_eq, not_false_eq_true, not_true_eq_false, eq_self, exIA, exIS, exAI, exAS, exSI, exSA, true_or, or_true, false_or, or_false, Nat.reduceEqDiff, Bool.true_and, Bool.and_true, Bool.false_and, Bool.and_false, Bool.true_eq_false, Bool.false_eq_true, i10, i20, i30, vp0, nc0]
        exact k _ _ w.thr (fun e => absurd e (by decide))
    · skip
      obtain ⟨c, hc, rfl⟩ := inC_ex hn h0
      obtain ⟨t, ht, rfl⟩ := inT_ex h1
      have hcn := hc
      replace hc : c < 24 := Nat.lt_of_lt_of_le hc hn.2
      obtain ⟨r, hr, eR⟩ := (i.2.1 c hcn).1
      cases p0 : pTk (zG σ) c t
      · skip
        refine ⟨2, 0, σ, iS, fun X m o K w k => ?_, fun X d o K w k => ?_⟩
        · have q := w.1
          have h : TR X 2 (zG σ) := w.2.1.1
          simp only [w_L_wipe, w_X4_wipe, q.t1, q.r1_0, q.r1_1, q.t2, q.t14, e_checkTranslation q h, e_checkTaken q h hc ht, h0, h1, p0, hty_sI, hln_sI, hR_sI, cnd1, cnd2, b2i_0, b2i_1, b2i_z, if_true, if_false, true_and, and_true, true_implies, false_implies, ne_eq, not_false_eq_true, not_true_eq_false, eq_self, exIA, exIS, exAI, exAS, exSI, exSA, true_or, or_true, false_or, or_false, Nat.reduceEqDiff, Bool.true_and, Bool.and_true, Bool.false_and, Bool.and_false, Bool.true_eq_false, Bool.false_eq_true, i10, i20, i30, vp0, nc0]
          exact k _ _ w (fun e => absurd e (by decide))
        · have q := w.1
          have h := w.rr
          simp only [w_X5_wipe, w_X5_wipe_28, q.t123, q.r123_0, q.t124, q.n124, x_are q h, qC hn, qT, x_isTaken q h hc ht, h0, h1, p0, rf0 q, rf1 q, rf2 q, rf3 q, hty_sI, hln_sI, hR_sI, cnd1, cnd2, b2i_0, b2i_1, b2i_z, if_true, if_false, true_and, and_true, true_implies, false_implies, ne_eq, not_false_eq_true, not_true_eq_false, eq_self, exIA, exIS, exAI, exAS, exSI, exSA, true_or, or_true, false_or, or_false, Nat.reduceEqDiff, Bool.true_and, Bool.and_true, Bool.false_and, Bool.and_false, Bool.true_eq_false, Bool.false_eq_true, i10, i20, i30, vp0, nc0]
          exact k _ _ w.thr (fun e => absurd e (by decide))
      · skip
        have i' : Inv (unm (upr (upr (zG σ) (13 * c + 10 + t) 0) 369 (zG σ 369 + 1)) r t) (n) := by
          refine Inv.unm ?_ hr ht
          refine Inv.acc8 ?_ (by decide)
          exact i.clause hcn (fun k hk => upr_ne (by omega)) ((i.2.1 c hcn).setT (f := 0) ht (by decide))
        refine ⟨0, gT (zG σ) c t - 1, ((unm (upr (upr (zG σ) (13 * c + 10 + t) 0) 369 (zG σ 369 + 1)) r t), (pushS σ).2), iS.push i', fun X m o K w k => ?_, fun X d o K w k => ?_⟩
        · have q := w.1
          have h : TR X 2 (zG σ) := w.2.1.1
          simp only [w_L_wipe, w_X4_wipe, q.t1, q.r1_0, q.r1_1, q.t2, q.t14, e_checkTranslation q h, e_checkTaken q h hc ht, h0, h1, p0, hty_sI, hln_sI, hR_sI, cnd1, cnd2, b2i_0, b2i_1, b2i_z, if_true, if_false, true_and, and_true, true_implies, false_implies, ne_eq, not_false_eq_true, not_true_eq_false, eq_self, exIA, exIS, exAI, exAS, exSI, exSA, true_or, or_true, false_or, or_false, Nat.reduceEqDiff, Bool.true_and, Bool.and_true, Bool.false_and, Bool.and_false, Bool.true_eq_false, Bool.false_eq_true, i10, i20, i30, vp0, nc0]
          refine s_push w (fun X1 w1 => ?_)
          have q1 := w1.1
          have g1 : TR X1 2 (zG σ) := w1.2.1.1
          have w2 := (((w1.pT (v := 0) hc ht).p14 (v := zG σ 369 + 1)).pM (v := 0) hr ht).pZ (v := 0) hr ht
          simp only [q1.t1, q1.r1_0, q1.t2, q1.t129, q1.n129, e_takenIn q1 g1 hc ht, e_dropTaken q1 g1 hc ht hr eR, hty_sI, hln_sI, hR_sI, cnd1, cnd2, b2i_0, b2i_1, b2i_z, if_true, if_false, true_and, and_true, true_implies, false_implies, ne_eq, not_false_eq_true, not_true_eq_false, eq_self, exIA, exIS, exAI, exAS, exSI, exSA, true_or, or_true, false_or, or_false, Nat.reduceEqDiff, Bool.true_and, Bool.and_true, Bool.false_and, Bool.and_false, Bool.true_eq_false, Bool.false_eq_true, i10, i20, i30, vp0, nc0]
          exact k _ _ w2.out (fun _ => rfl)
        · have q := w.1
          have h := w.rr
          simp only [w_X5_wipe, w_X5_wipe_28, q.t123, q.r123_0, q.t124, q.n124, x_are q h, qC hn, qT, x_isTaken q h hc ht, h0, h1, p0, rf0 q, rf1 q, rf2 q, rf3 q, hty_sI, hln_sI, hR_sI, cnd1, cnd2, b2i_0, b2i_1, b2i_z, if_true, if_false, true_and, and_true, true_implies, false_implies, ne_eq, not_false_eq_true, not_true_eq_false, eq_self, exIA, exIS, exAI, exAS, exSI, exSA, true_or, or_true, false_or, or_false, Nat.reduceEqDiff, Bool.true_and, Bool.and_true, Bool.false_and, Bool.and_false, Bool.true_eq_false, Bool.false_eq_true, i10, i20, i30, vp0, nc0]
          simp only [w_X5_at, ixT_eq]
          refine ⟨w.1.t123, s_sets (i := 13 * c + 10 + t) w.thr (by omega) (fun X1 w1 => ?_)⟩
          have q1 := w1.1
          have eR1 : hI X1 124 (13 * c) = Int32.ofNat r := ((w1.rr _ (by omega)).trans (upr_ne (by omega))).trans eR
          have w2 := (w1.mp (k := 342 + (3 * r + t)) (v := 0) (by omega)).mp (k := 354 + (3 * r + t)) (v := 0) (by omega)
          have e369 : hI (sI (sI X1 124 (342 + (3 * r + t)) 0) 124 (354 + (3 * r + t)) 0) 124 369 = zG σ 369 := by
            rw [sI_nk (by omega), sI_nk (by omega)]
            exact (w1.rr _ (by decide)).trans (upr_ne (by omega))
          have w3 := (w2.mp (k := 369) (v := zG σ 369 + 1) (by decide)).rowM (g' := unm (upr (upr (zG σ) (13 * c + 10 + t) 0) 369 (zG σ 369 + 1)) r t) (by
            show upr (upr (upr (upr (zG σ) (13 * c + 10 + t) 0) (342 + (3 * r + t)) 0) (354 + (3 * r + t)) 0) 369 (zG σ 369 + 1) = _
            unfold unm
            rw [upr_comm (i := 354 + (3 * r + t)) (j := 369) (by omega), upr_comm (i := 342 + (3 * r + t)) (j := 369) (by omega)])
          simp only [q1.t123, q1.r123_0, q1.t124, q1.n124, ix0_eq, vp3 (show 13 * c < 371 by omega), ncv (show 13 * c < 371 by omega), eR1, x_unmix q1 hr ht, vp369, nc369, e369, hty_sI, hln_sI, hR_sI, cnd1, cnd2, b2i_0, b2i_1, b2i_z, if_true, if_false, true_and, and_true, true_implies, false_implies, ne_eq, not_false_eq_true, not_true_eq_false, eq_self, exIA, exIS, exAI, exAS, exSI, exSA, true_or, or_true, false_or, or_false, Nat.reduceEqDiff, Bool.true_and, Bool.and_true, Bool.false_and, Bool.and_false, Bool.true_eq_false, Bool.false_eq_true, i10, i20, i30, vp0, nc0]
          exact k _ _ w3 (fun _ => rfl)
theorem op_nextSession {σ : St} {n : Nat} (iS : InvS σ) (i : Inv (zG σ) n)  : OpI (fun X K => w_L_nextSession 1 129 X K) (fun X K => w_X5_nextSession 123 X K) σ := by
  have hn := i.cn
  obtain ⟨e, he, eE⟩ := i.2.2.2.2.2
  by_cases p0 : e < 999
  rotate_left
  · skip
    have e9 : e = 999 := by omega
    have f1 : (Int32.ofNat e < 999) = False := by rw [e9]; decide
    have f2 : (Int32.ofNat e = 999) = True := by rw [e9]; decide
    refine ⟨1, 0, σ, iS, fun X m o K w k => ?_, fun X d o K w k => ?_⟩
    · have q := w.1
      have h : TR X 2 (zG σ) := w.2.1.1
      simp only [w_L_nextSession, w_X4_nextSession, q.t1, q.r1_0, q.r1_1, q.t2, q.t14, show hI X 2 12 = Int32.ofNat e from (h 0 12 rfl).trans eE, p0, f1, f2, hty_sI, hln_sI, hR_sI, cnd1, cnd2, b2i_0, b2i_1, b2i_z, if_true, if_false, true_and, and_true, true_implies, false_implies, ne_eq, not_false_eq_true, not_true_eq_false, eq_self, exIA, exIS, exAI, exAS, exSI, exSA, true_or, or_true, false_or, or_false, Nat.reduceEqDiff, Bool.true_and, Bool.and_true, Bool.false_and, Bool.and_false, Bool.true_eq_false, Bool.false_eq_true, i10, i20, i30, vp0, nc0]
      exact k _ _ w (fun e => absurd e (by decide))
    · have q := w.1
      have h := w.rr
      simp only [w_X5_nextSession, w_X5_nextSession_20, q.t123, q.r123_0, q.t124, q.n124, vp367, nc367, show hI X 124 367 = Int32.ofNat e from (h 367 (by decide)).trans eE, p0, f1, f2, rf0 q, rf1 q, rf2 q, rf3 q, hty_sI, hln_sI, hR_sI, cnd1, cnd2, b2i_0, b2i_1, b2i_z, if_true, if_false, true_and, and_true, true_implies, false_implies, ne_eq, not_false_eq_true, not_true_eq_false, eq_self, exIA, exIS, exAI, exAS, exSI, exSA, true_or, or_true, false_or, or_false, Nat.reduceEqDiff, Bool.true_and, Bool.and_true, Bool.false_and, Bool.and_false, Bool.true_eq_false, Bool.false_eq_true, i10, i20, i30, vp0, nc0]
      exact k _ _ w.thr (fun e => absurd e (by decide))
  · skip
    have f1 : (Int32.ofNat e < 999) = True := (of_lt (j := 999) (by omega) (by decide)).trans (eq_true p0)
    have f2 : (Int32.ofNat e = 999) = False := (of_inj (j := 999) (by omega) (by decide)).trans (eq_false (by omega))
    have i' : Inv (zUi (upr (zG σ) 367 (zG σ 367 + 1)) 15) (n) := by
      have i1 : Inv (upr (zG σ) 367 (zG σ 367 + 1)) n := i.acc (fun k hk => upr_ne (by omega)) ⟨e + 1, by omega, by rw [upr_eq, eE, of_s]⟩
      refine i1.voices (fun k hk => zUi_ne (by omega) (by decide)) (fun s hs t ht => ?_)
      obtain ⟨x, u, g1, g2, g3, e1, e2⟩ := i1.2.2.2.1 s hs t ht
      refine ⟨x, 0, g1, g2, Nat.zero_le _, (zUi_ne (by omega) (by decide)).trans e1, ?_⟩
      unfold gU zUi
      rw [if_pos (by omega)]
      rfl
    refine ⟨0, zG σ 367 + 1, ((zUi (upr (zG σ) 367 (zG σ 367 + 1)) 15), (pushS σ).2), iS.push i', fun X m o K w k => ?_, fun X d o K w k => ?_⟩
    · have q := w.1
      have h : TR X 2 (zG σ) := w.2.1.1
      simp only [w_L_nextSession, w_X4_nextSession, q.t1, q.r1_0, q.r1_1, q.t2, q.t14, show hI X 2 12 = Int32.ofNat e from (h 0 12 rfl).trans eE, p0, f1, f2, hty_sI, hln_sI, hR_sI, cnd1, cnd2, b2i_0, b2i_1, b2i_z, if_true, if_false, true_and, and_true, true_implies, false_implies, ne_eq, not_false_eq_true, not_true_eq_false, eq_self, exIA, exIS, exAI, exAS, exSI, exSA, true_or, or_true, false_or, or_false, Nat.reduceEqDiff, Bool.true_and, Bool.and_true, Bool.false_and, Bool.and_false, Bool.true_eq_false, Bool.false_eq_true, i10, i20, i30, vp0, nc0]
      refine s_push w (fun X1 w1 => ?_)
      have q1 := w1.1
      simp only [q1.t1, q1.r1_0, q1.t2, hty_sI, hln_sI, hR_sI, cnd1, cnd2, b2i_0, b2i_1, b2i_z, if_true, if_false, true_and, and_true, true_implies, false_implies, ne_eq, not_false_eq_true, not_true_eq_false, eq_self, exIA, exIS, exAI, exAS, exSI, exSA, true_or, or_true, false_or, or_false, Nat.reduceEqDiff, Bool.true_and, Bool.and_true, Bool.false_and, Bool.and_false, Bool.true_eq_false, Bool.false_eq_true, i10, i20, i30, vp0, nc0]
      refine s_beginSession w1 (fun X2 w2 => ?_)
      have q2 := w2.1
      have e12 : hI X2 2 12 = zG σ 367 + 1 := (w2.2.1.1 0 12 rfl).trans ((show zUi (upr (zG σ) 367 (zG σ 367 + 1)) 15 367 = upr (zG σ) 367 (zG σ 367 + 1) 367 from zUi_ne (by omega) (by decide)).trans upr_eq)
      simp only [q2.t1, q2.r1_0, q2.t2, q2.t129, q2.n129, e12, hty_sI, hln_sI, hR_sI, cnd1, cnd2, b2i_0, b2i_1, b2i_z, if_true, if_false, true_and, and_true, true_implies, false_implies, ne_eq, not_false_eq_true, not_true_eq_false, eq_self, exIA, exIS, exAI, exAS, exSI, exSA, true_or, or_true, false_or, or_false, Nat.reduceEqDiff, Bool.true_and, Bool.and_true, Bool.false_and, Bool.and_false, Bool.true_eq_false, Bool.false_eq_true, i10, i20, i30, vp0, nc0]
      exact k _ _ w2.out (fun _ => rfl)
    · have q := w.1
      have h := w.rr
      simp only [w_X5_nextSession, w_X5_nextSession_20, q.t123, q.r123_0, q.t124, q.n124, vp367, nc367, show hI X 124 367 = Int32.ofNat e from (h 367 (by decide)).trans eE, p0, f1, f2, rf0 q, rf1 q, rf2 q, rf3 q, hty_sI, hln_sI, hR_sI, cnd1, cnd2, b2i_0, b2i_1, b2i_z, if_true, if_false, true_and, and_true, true_implies, false_implies, ne_eq, not_false_eq_true, not_true_eq_false, eq_self, exIA, exIS, exAI, exAS, exSI, exSA, true_or, or_true, false_or, or_false, Nat.reduceEqDiff, Bool.true_and, Bool.and_true, Bool.false_and, Bool.and_false, Bool.true_eq_false, Bool.false_eq_true, i10, i20, i30, vp0, nc0]
      refine s_saves w.thr (fun X1 w1 => ?_)
      have q1 := w1.1
      have e1 : hI X1 124 367 = zG σ 367 := w1.rr 367 (by decide)
      simp only [q1.t123, q1.r123_0, q1.t124, q1.n124, vp367, nc367, e1, hty_sI, hln_sI, hR_sI, cnd1, cnd2, b2i_0, b2i_1, b2i_z, if_true, if_false, true_and, and_true, true_implies, false_implies, ne_eq, not_false_eq_true, not_true_eq_false, eq_self, exIA, exIS, exAI, exAS, exSI, exSA, true_or, or_true, false_or, or_false, Nat.reduceEqDiff, Bool.true_and, Bool.and_true, Bool.false_and, Bool.and_false, Bool.true_eq_false, Bool.false_eq_true, i10, i20, i30, vp0, nc0]
      refine s_nextSes46 (w1.mp (k := 367) (v := zG σ 367 + 1) (by decide)) (fun X2 w2 => ?_)
      exact k _ _ w2 (fun _ => (show upr (zG σ) 367 (zG σ 367 + 1) 367 = zG σ 367 + 1 from upr_eq))
theorem op_mix {σ : St} {n : Nat} (iS : InvS σ) (i : Inv (zG σ) n) (a b : Int32) : OpI (fun X K => w_L_mix 1 a b 129 X K) (fun X K => w_X5_mix 123 a b X K) σ := by
  have hn := i.cn
  cases h0 : inR a
  · skip
    refine ⟨1, 0, σ, iS, fun X m o K w k => ?_, fun X d o K w k => ?_⟩
    · have q := w.1
      have h : TR X 2 (zG σ) := w.2.1.1
      simp only [w_L_mix, w_X4_mix, q.t1, q.r1_0, q.r1_1, q.t2, q.t14, e_checkReel, e_checkTongue, h0, hty_sI, hln_sI, hR_sI, cnd1, cnd2, b2i_0, b2i_1, b2i_z, if_true, if_false, true_and, and_true, true_implies, false_implies, ne_eq, not_false_eq_true, not_true_eq_false, eq_self, exIA, exIS, exAI, exAS, exSI, exSA, true_or, or_true, false_or, or_false, Nat.reduceEqDiff, Bool.true_and, Bool.and_true, Bool.false_and, Bool.and_false, Bool.true_eq_false, Bool.false_eq_true, i10, i20, i30, vp0, nc0]
      exact k _ _ w (fun e => absurd e (by decide))
    · have q := w.1
      have h := w.rr
      simp only [w_X5_mix, w_X5_mix_36, q.t123, q.r123_0, q.t124, q.n124, x_isPlace, qR, qT, h0, rf0 q, rf1 q, rf2 q, rf3 q, hty_sI, hln_sI, hR_sI, cnd1, cnd2, b2i_0, b2i_1, b2i_z, if_true, if_false, true_and, and_true, true_implies, false_implies, ne_eq, not_false_eq_true, not_true_eq_false, eq_self, exIA, exIS, exAI, exAS, exSI, exSA, true_or, or_true, false_or, or_false, Nat.reduceEqDiff, Bool.true_and, Bool.and_true, Bool.false_and, Bool.and_false, Bool.true_eq_false, Bool.false_eq_true, i10, i20, i30, vp0, nc0]
      exact k _ _ w.thr (fun e => absurd e (by decide))
  · skip
    cases h1 : inT b
    · skip
      refine ⟨1, 0, σ, iS, fun X m o K w k => ?_, fun X d o K w k => ?_⟩
      · have q := w.1
        have h : TR X 2 (zG σ) := w.2.1.1
        simp only [w_L_mix, w_X4_mix, q.t1, q.r1_0, q.r1_1, q.t2, q.t14, e_checkReel, e_checkTongue, h0, h1, hty_sI, hln_sI, hR_sI, cnd1, cnd2, b2i_0, b2i_1, b2i_z, if_true, if_false, true_and, and_true, true_implies, false_implies, ne_eq, not_false_eq_true, not_true_eq_false, eq_self, exIA, exIS, exAI, exAS, exSI, exSA, true_or, or_true, false_or, or_false, Nat.reduceEqDiff, Bool.true_and, Bool.and_true, Bool.false_and, Bool.and_false, Bool.true_eq_false, Bool.false_eq_true, i10, i20, i30, vp0, nc0]
        exact k _ _ w (fun e => absurd e (by decide))
      · have q := w.1
        have h := w.rr
        simp only [w_X5_mix, w_X5_mix_36, q.t123, q.r123_0, q.t124, q.n124, x_isPlace, qR, qT, h0, h1, rf0 q, rf1 q, rf2 q, rf3 q, hty_sI, hln_sI, hR_sI, cnd1, cnd2, b2i_0, b2i_1, b2i_z, if_true, if_false, true_and, and_true, true_implies, false_implies, ne_eq, not_false_eq_true, not_true_eq_false, eq_self, exIA, exIS, exAI, exAS, exSI, exSA, true_or, or_true, false_or, or_false, Nat.reduceEqDiff, Bool.true_and, Bool.and_true, Bool.false_and, Bool.and_false, Bool.true_eq_false, Bool.false_eq_true, i10, i20, i30, vp0, nc0]
        exact k _ _ w.thr (fun e => absurd e (by decide))
    · skip
      obtain ⟨r, hr, rfl⟩ := inR_ex h0
      obtain ⟨t, ht, rfl⟩ := inT_ex h1
      cases p0 : pMx (zG σ) r t
      rotate_left
      · skip
        refine ⟨2, 0, σ, iS, fun X m o K w k => ?_, fun X d o K w k => ?_⟩
        · have q := w.1
          have h : TR X 2 (zG σ) := w.2.1.1
          simp only [w_L_mix, w_X4_mix, q.t1, q.r1_0, q.r1_1, q.t2, q.t14, e_checkReel, e_checkTongue, e_hasMix q h hr ht, h0, h1, p0, hty_sI, hln_sI, hR_sI, cnd1, cnd2, b2i_0, b2i_1, b2i_z, if_true, if_false, true_and, and_true, true_implies, false_implies, ne_eq, not_false_eq_true, not_true_eq_false, eq_self, exIA, exIS, exAI, exAS, exSI, exSA, true_or, or_true, false_or, or_false, Nat.reduceEqDiff, Bool.true_and, Bool.and_true, Bool.false_and, Bool.and_false, Bool.true_eq_false, Bool.false_eq_true, i10, i20, i30, vp0, nc0]
          exact k _ _ w (fun e => absurd e (by decide))
        · have q := w.1
          have h := w.rr
          simp only [w_X5_mix, w_X5_mix_36, q.t123, q.r123_0, q.t124, q.n124, x_isPlace, qR, qT, x_mixed q h hr ht, h0, h1, p0, rf0 q, rf1 q, rf2 q, rf3 q, hty_sI, hln_sI, hR_sI, cnd1, cnd2, b2i_0, b2i_1, b2i_z, if_true, if_false, true_and, and_true, true_implies, false_implies, ne_eq, not_false_eq_true, not_true_eq_false, eq_self, exIA, exIS, exAI, exAS, exSI, exSA, true_or, or_true, false_or, or_false, Nat.reduceEqDiff, Bool.true_and, Bool.and_true, Bool.false_and, Bool.and_false, Bool.true_eq_false, Bool.false_eq_true, i10, i20, i30, vp0, nc0]
          exact k _ _ w.thr (fun e => absurd e (by decide))
      · skip
        cases p1 : pWh (zG σ) n (Int32.ofNat r) t
        · skip
          refine ⟨2, 0, σ, iS, fun X m o K w k => ?_, fun X d o K w k => ?_⟩
          · have q := w.1
            have h : TR X 2 (zG σ) := w.2.1.1
            simp only [w_L_mix, w_X4_mix, q.t1, q.r1_0, q.r1_1, q.t2, q.t14, e_checkReel, e_checkTongue, e_hasMix q h hr ht, h0, h1, p0, p1, hty_sI, hln_sI, hR_sI, cnd1, cnd2, b2i_0, b2i_1, b2i_z, if_true, if_false, true_and, and_true, true_implies, false_implies, ne_eq, not_false_eq_true, not_true_eq_false, eq_self, exIA, exIS, exAI, exAS, exSI, exSA, true_or, or_true, false_or, or_false, Nat.reduceEqDiff, Bool.true_and, Bool.and_true, Bool.false_and, Bool.and_false, Bool.true_eq_false, Bool.false_eq_true, i10, i20, i30, vp0, nc0]
            refine s_isWholeReel q h hn ht ?_
            simp only [q.t1, q.r1_0, q.r1_1, q.t2, q.t14, e_checkReel, e_checkTongue, e_hasMix q h hr ht, h0, h1, p0, p1, hty_sI, hln_sI, hR_sI, cnd1, cnd2, b2i_0, b2i_1, b2i_z, if_true, if_false, true_and, and_true, true_implies, false_implies, ne_eq, not_false_eq_true, not_true_eq_false, eq_self, exIA, exIS, exAI, exAS, exSI, exSA, true_or, or_true, false_or, or_false, Nat.reduceEqDiff, Bool.true_and, Bool.and_true, Bool.false_and, Bool.and_false, Bool.true_eq_false, Bool.false_eq_true, i10, i20, i30, vp0, nc0]
            exact k _ _ w (fun e => absurd e (by decide))
          · have q := w.1
            have h := w.rr
            simp only [w_X5_mix, w_X5_mix_36, q.t123, q.r123_0, q.t124, q.n124, x_isPlace, qR, qT, x_mixed q h hr ht, h0, h1, p0, p1, rf0 q, rf1 q, rf2 q, rf3 q, hty_sI, hln_sI, hR_sI, cnd1, cnd2, b2i_0, b2i_1, b2i_z, if_true, if_false, true_and, and_true, true_implies, false_implies, ne_eq, not_false_eq_true, not_true_eq_false, eq_self, exIA, exIS, exAI, exAS, exSI, exSA, true_or, or_true, false_or, or_false, Nat.reduceEqDiff, Bool.true_and, Bool.and_true, Bool.false_and, Bool.and_false, Bool.true_eq_false, Bool.false_eq_true, i10, i20, i30, vp0, nc0]
            refine s_complete q h hn ht ?_
            simp only [q.t123, q.r123_0, q.t124, q.n124, x_isPlace, qR, qT, x_mixed q h hr ht, h0, h1, p0, p1, rf0 q, rf1 q, rf2 q, rf3 q, hty_sI, hln_sI, hR_sI, cnd1, cnd2, b2i_0, b2i_1, b2i_z, if_true, if_false, true_and, and_true, true_implies, false_implies, ne_eq, not_false_eq_true, not_true_eq_false, eq_self, exIA, exIS, exAI, exAS, exSI, exSA, true_or, or_true, false_or, or_false, Nat.reduceEqDiff, Bool.true_and, Bool.and_true, Bool.false_and, Bool.and_false, Bool.true_eq_false, Bool.false_eq_true, i10, i20, i30, vp0, nc0]
            exact k _ _ w.thr (fun e => absurd e (by decide))
        · skip
          have i' : Inv (upr (upr (zG σ) (342 + (3 * r + t)) 1) 370 (zG σ 370 + 1)) (n) := by
            exact Inv.acc8 (i.setM hr ht (Or.inr rfl)) (by decide)
          refine ⟨0, sSil (upr (upr (zG σ) (342 + (3 * r + t)) 1) 370 (zG σ 370 + 1)) n (Int32.ofNat r) t, ((upr (upr (zG σ) (342 + (3 * r + t)) 1) 370 (zG σ 370 + 1)), (pushS σ).2), iS.push i', fun X m o K w k => ?_, fun X d o K w k => ?_⟩
          · have q := w.1
            have h : TR X 2 (zG σ) := w.2.1.1
            simp only [w_L_mix, w_X4_mix, q.t1, q.r1_0, q.r1_1, q.t2, q.t14, e_checkReel, e_checkTongue, e_hasMix q h hr ht, h0, h1, p0, p1, hty_sI, hln_sI, hR_sI, cnd1, cnd2, b2i_0, b2i_1, b2i_z, if_true, if_false, true_and, and_true, true_implies, false_implies, ne_eq, not_false_eq_true, not_true_eq_false, eq_self, exIA, exIS, exAI, exAS, exSI, exSA, true_or, or_true, false_or, or_false, Nat.reduceEqDiff, Bool.true_and, Bool.and_true, Bool.false_and, Bool.and_false, Bool.true_eq_false, Bool.false_eq_true, i10, i20, i30, vp0, nc0]
            refine s_isWholeReel q h hn ht ?_
            simp only [q.t1, q.r1_0, q.r1_1, q.t2, q.t14, e_checkReel, e_checkTongue, e_hasMix q h hr ht, h0, h1, p0, p1, hty_sI, hln_sI, hR_sI, cnd1, cnd2, b2i_0, b2i_1, b2i_z, if_true, if_false, true_and, and_true, true_implies, false_implies, ne_eq, not_false_eq_true, not_true_eq_false, eq_self, exIA, exIS, exAI, exAS, exSI, exSA, true_or, or_true, false_or, or_false, Nat.reduceEqDiff, Bool.true_and, Bool.and_true, Bool.false_and, Bool.and_false, Bool.true_eq_false, Bool.false_eq_true, i10, i20, i30, vp0, nc0]
            refine s_push w (fun X1 w1 => ?_)
            have q1 := w1.1
            have g1 : TR X1 2 (zG σ) := w1.2.1.1
            have w2 := (w1.pM (v := 1) hr ht).p15 (v := zG σ 370 + 1)
            have q2 := w2.1
            have g2 := w2.2.1.1
            simp only [q1.t1, q1.r1_0, q1.t2, e_putMix q1 g1 hr ht, hty_sI, hln_sI, hR_sI, cnd1, cnd2, b2i_0, b2i_1, b2i_z, if_true, if_false, true_and, and_true, true_implies, false_implies, ne_eq, not_false_eq_true, not_true_eq_false, eq_self, exIA, exIS, exAI, exAS, exSI, exSA, true_or, or_true, false_or, or_false, Nat.reduceEqDiff, Bool.true_and, Bool.and_true, Bool.false_and, Bool.and_false, Bool.true_eq_false, Bool.false_eq_true, i10, i20, i30, vp0, nc0]
            refine s_silenceIn q2 g2 i'.cn ht ?_
            exact ⟨w2.1.t129, vpX w2.1, k _ _ w2.out (fun _ => rfl)⟩
          · have q := w.1
            have h := w.rr
            simp only [w_X5_mix, w_X5_mix_36, q.t123, q.r123_0, q.t124, q.n124, x_isPlace, qR, qT, x_mixed q h hr ht, h0, h1, p0, p1, rf0 q, rf1 q, rf2 q, rf3 q, hty_sI, hln_sI, hR_sI, cnd1, cnd2, b2i_0, b2i_1, b2i_z, if_true, if_false, true_and, and_true, true_implies, false_implies, ne_eq, not_false_eq_true, not_true_eq_false, eq_self, exIA, exIS, exAI, exAS, exSI, exSA, true_or, or_true, false_or, or_false, Nat.reduceEqDiff, Bool.true_and, Bool.and_true, Bool.false_and, Bool.and_false, Bool.true_eq_false, Bool.false_eq_true, i10, i20, i30, vp0, nc0]
            refine s_complete q h hn ht ?_
            simp only [q.t123, q.r123_0, q.t124, q.n124, x_isPlace, qR, qT, x_mixed q h hr ht, h0, h1, p0, p1, rf0 q, rf1 q, rf2 q, rf3 q, hty_sI, hln_sI, hR_sI, cnd1, cnd2, b2i_0, b2i_1, b2i_z, if_true, if_false, true_and, and_true, true_implies, false_implies, ne_eq, not_false_eq_true, not_true_eq_false, eq_self, exIA, exIS, exAI, exAS, exSI, exSA, true_or, or_true, false_or, or_false, Nat.reduceEqDiff, Bool.true_and, Bool.and_true, Bool.false_and, Bool.and_false, Bool.true_eq_false, Bool.false_eq_true, i10, i20, i30, vp0, nc0]
            refine s_saves w.thr (fun X1 w1 => ?_)
            have q1 := w1.1
            have e370 : hI (sI X1 124 (342 + (3 * r + t)) 1) 124 370 = zG σ 370 := by
              rw [sI_nk (by omega)]
              exact w1.rr 370 (by decide)
            have w2 := (w1.mp (k := 342 + (3 * r + t)) (v := 1) (by omega)).mp (k := 370) (v := zG σ 370 + 1) (by decide)
            have q2 := w2.1
            have h2 := w2.rr
            simp only [q1.t123, q1.r123_0, q1.t124, q1.n124, ixM_eq, vp3 (show 342 + (3 * r + t) < 371 by omega), ncv (show 342 + (3 * r + t) < 371 by omega), vp370, nc370, e370, hty_sI, hln_sI, hR_sI, cnd1, cnd2, b2i_0, b2i_1, b2i_z, if_true, if_false, true_and, and_true, true_implies, false_implies, ne_eq, not_false_eq_true, not_true_eq_false, eq_self, exIA, exIS, exAI, exAS, exSI, exSA, true_or, or_true, false_or, or_false, Nat.reduceEqDiff, Bool.true_and, Bool.and_true, Bool.false_and, Bool.and_false, Bool.true_eq_false, Bool.false_eq_true, i10, i20, i30, vp0, nc0]
            refine l_mixl q2 h2 i'.cn ht ?_
            exact k _ _ w2 (fun _ => rfl)
theorem op_sign {σ : St} {n : Nat} (iS : InvS σ) (i : Inv (zG σ) n) (a b e : Int32) : OpI (fun X K => w_L_sign 1 a b e 129 X K) (fun X K => w_X5_sign 123 a b e X K) σ := by
  have hn := i.cn
  cases h0 : inS a
  · skip
    refine ⟨1, 0, σ, iS, fun X m o K w k => ?_, fun X d o K w k => ?_⟩
    · have q := w.1
      have h : TR X 2 (zG σ) := w.2.1.1
      simp only [w_L_sign, w_X4_sign, q.t1, q.r1_0, q.r1_1, q.t2, q.t14, e_checkState, e_checkReel, e_checkTongue, h0, hty_sI, hln_sI, hR_sI, cnd1, cnd2, b2i_0, b2i_1, b2i_z, if_true, if_false, true_and, and_true, true_implies, false_implies, ne_eq, not_false_eq_true, not_true_eq_false, eq_self, exIA, exIS, exAI, exAS, exSI, exSA, true_or, or_true, false_or, or_false, Nat.reduceEqDiff, Bool.true_and, Bool.and_true, Bool.false_and, Bool.and_false, Bool.true_eq_false, Bool.false_eq_true, i10, i20, i30, vp0, nc0]
      exact k _ _ w (fun e => absurd e (by decide))
    · have q := w.1
      have h := w.rr
      simp only [w_X5_sign, w_X5_sign_53, q.t123, q.r123_0, q.t124, q.n124, x_isState, x_isPlace, qS, qR, qT, h0, rf0 q, rf1 q, rf2 q, rf3 q, hty_sI, hln_sI, hR_sI, cnd1, cnd2, b2i_0, b2i_1, b2i_z, if_true, if_false, true_and, and_true, true_implies, false_implies, ne_eq, not_false_eq_true, not_true_eq_false, eq_self, exIA, exIS, exAI, exAS, exSI, exSA, true_or, or_true, false_or, or_false, Nat.reduceEqDiff, Bool.true_and, Bool.and_true, Bool.false_and, Bool.and_false, Bool.true_eq_false, Bool.false_eq_true, i10, i20, i30, vp0, nc0]
      exact k _ _ w.thr (fun e => absurd e (by decide))
  · skip
    cases h1 : inR b
    · skip
      refine ⟨1, 0, σ, iS, fun X m o K w k => ?_, fun X d o K w k => ?_⟩
      · have q := w.1
        have h : TR X 2 (zG σ) := w.2.1.1
        simp only [w_L_sign, w_X4_sign, q.t1, q.r1_0, q.r1_1, q.t2, q.t14, e_checkState, e_checkReel, e_checkTongue, h0, h1, hty_sI, hln_sI, hR_sI, cnd1, cnd2, b2i_0, b2i_1, b2i_z, if_true, if_false, true_and, and_true, true_implies, false_implies, ne_eq, not_false_eq_true, not_true_eq_false, eq_self, exIA, exIS, exAI, exAS, exSI, exSA, true_or, or_true, false_or, or_false, Nat.reduceEqDiff, Bool.true_and, Bool.and_true, Bool.false_and, Bool.and_false, Bool.true_eq_false, Bool.false_eq_true, i10, i20, i30, vp0, nc0]
        exact k _ _ w (fun e => absurd e (by decide))
      · have q := w.1
        have h := w.rr
        simp only [w_X5_sign, w_X5_sign_53, q.t123, q.r123_0, q.t124, q.n124, x_isState, x_isPlace, qS, qR, qT, h0, h1, rf0 q, rf1 q, rf2 q, rf3 q, hty_sI, hln_sI, hR_sI, cnd1, cnd2, b2i_0, b2i_1, b2i_z, if_true, if_false, true_and, and_true, true_implies, false_implies, ne_eq, not_false_eq_true, not_true_eq_false, eq_self, exIA, exIS, exAI, exAS, exSI, exSA, true_or, or_true, false_or, or_false, Nat.reduceEqDiff, Bool.true_and, Bool.and_true, Bool.false_and, Bool.and_false, Bool.true_eq_false, Bool.false_eq_true, i10, i20, i30, vp0, nc0]
        exact k _ _ w.thr (fun e => absurd e (by decide))
    · skip
      cases h2 : inT e
      · skip
        refine ⟨1, 0, σ, iS, fun X m o K w k => ?_, fun X d o K w k => ?_⟩
        · have q := w.1
          have h : TR X 2 (zG σ) := w.2.1.1
          simp only [w_L_sign, w_X4_sign, q.t1, q.r1_0, q.r1_1, q.t2, q.t14, e_checkState, e_checkReel, e_checkTongue, h0, h1, h2, hty_sI, hln_sI, hR_sI, cnd1, cnd2, b2i_0, b2i_1, b2i_z, if_true, if_false, true_and, and_true, true_implies, false_implies, ne_eq, not_false_eq_true, not_true_eq_false, eq_self, exIA, exIS, exAI, exAS, exSI, exSA, true_or, or_true, false_or, or_false, Nat.reduceEqDiff, Bool.true_and, Bool.and_true, Bool.false_and, Bool.and_false, Bool.true_eq_false, Bool.false_eq_true, i10, i20, i30, vp0, nc0]
          exact k _ _ w (fun e => absurd e (by decide))
        · have q := w.1
          have h := w.rr
          simp only [w_X5_sign, w_X5_sign_53, q.t123, q.r123_0, q.t124, q.n124, x_isState, x_isPlace, qS, qR, qT, h0, h1, h2, rf0 q, rf1 q, rf2 q, rf3 q, hty_sI, hln_sI, hR_sI, cnd1, cnd2, b2i_0, b2i_1, b2i_z, if_true, if_false, true_and, and_true, true_implies, false_implies, ne_eq, not_false_eq_true, not_true_eq_false, eq_self, exIA, exIS, exAI, exAS, exSI, exSA, true_or, or_true, false_or, or_false, Nat.reduceEqDiff, Bool.true_and, Bool.and_true, Bool.false_and, Bool.and_false, Bool.true_eq_false, Bool.false_eq_true, i10, i20, i30, vp0, nc0]
          exact k _ _ w.thr (fun e => absurd e (by decide))
      · skip
        obtain ⟨s, hs, rfl⟩ := inS_ex h0
        obtain ⟨r, hr, rfl⟩ := inR_ex h1
        obtain ⟨t, ht, rfl⟩ := inT_ex h2
        obtain ⟨z, hz, eZ⟩ := (i.2.2.2.2.1 r hr t ht).2
        obtain ⟨z2, hz2, eZ2⟩ := sgn_in z hz s hs
        cases p0 : pMx (zG σ) r t
        · skip
          refine ⟨2, 0, σ, iS, fun X m o K w k => ?_, fun X d o K w k => ?_⟩
          · have q := w.1
            have h : TR X 2 (zG σ) := w.2.1.1
            simp only [w_L_sign, w_X4_sign, q.t1, q.r1_0, q.r1_1, q.t2, q.t14, e_checkState, e_checkReel, e_checkTongue, e_hasMix q h hr ht, h0, h1, h2, p0, hty_sI, hln_sI, hR_sI, cnd1, cnd2, b2i_0, b2i_1, b2i_z, if_true, if_false, true_and, and_true, true_implies, false_implies, ne_eq, not_false_eq_true, not_true_eq_false, eq_self, exIA, exIS, exAI, exAS, exSI, exSA, true_or, or_true, false_or, or_false, Nat.reduceEqDiff, Bool.true_and, Bool.and_true, Bool.false_and, Bool.and_false, Bool.true_eq_false, Bool.false_eq_true, i10, i20, i30, vp0, nc0]
            exact k _ _ w (fun e => absurd e (by decide))
          · have q := w.1
            have h := w.rr
            simp only [w_X5_sign, w_X5_sign_53, q.t123, q.r123_0, q.t124, q.n124, x_isState, x_isPlace, qS, qR, qT, x_mixed q h hr ht, h0, h1, h2, p0, rf0 q, rf1 q, rf2 q, rf3 q, hty_sI, hln_sI, hR_sI, cnd1, cnd2, b2i_0, b2i_1, b2i_z, if_true, if_false, true_and, and_true, true_implies, false_implies, ne_eq, not_false_eq_true, not_true_eq_false, eq_self, exIA, exIS, exAI, exAS, exSI, exSA, true_or, or_true, false_or, or_false, Nat.reduceEqDiff, Bool.true_and, Bool.and_true, Bool.false_and, Bool.and_false, Bool.true_eq_false, Bool.false_eq_true, i10, i20, i30, vp0, nc0]
            exact k _ _ w.thr (fun e => absurd e (by decide))
        · skip
          cases p1 : pHd (zG σ) n (Int32.ofNat s) (Int32.ofNat r)
          · skip
            refine ⟨2, 0, σ, iS, fun X m o K w k => ?_, fun X d o K w k => ?_⟩
            · have q := w.1
              have h : TR X 2 (zG σ) := w.2.1.1
              simp only [w_L_sign, w_X4_sign, q.t1, q.r1_0, q.r1_1, q.t2, q.t14, e_checkState, e_checkReel, e_checkTongue, e_hasMix q h hr ht, h0, h1, h2, p0, p1, hty_sI, hln_sI, hR_sI, cnd1, cnd2, b2i_0, b2i_1, b2i_z, if_true, if_false, true_and, and_true, true_implies, false_implies, ne_eq, not_false_eq_true, not_true_eq_false, eq_self, exIA, exIS, exAI, exAS, exSI, exSA, true_or, or_true, false_or, or_false, Nat.reduceEqDiff, Bool.true_and, Bool.and_true, Bool.false_and, Bool.and_false, Bool.true_eq_false, Bool.false_eq_true, i10, i20, i30, vp0, nc0]
              refine s_isHeardIn q h hn ?_
              simp only [q.t1, q.r1_0, q.r1_1, q.t2, q.t14, e_checkState, e_checkReel, e_checkTongue, e_hasMix q h hr ht, h0, h1, h2, p0, p1, hty_sI, hln_sI, hR_sI, cnd1, cnd2, b2i_0, b2i_1, b2i_z, if_true, if_false, true_and, and_true, true_implies, false_implies, ne_eq, not_false_eq_true, not_true_eq_false, eq_self, exIA, exIS, exAI, exAS, exSI, exSA, true_or, or_true, false_or, or_false, Nat.reduceEqDiff, Bool.true_and, Bool.and_true, Bool.false_and, Bool.and_false, Bool.true_eq_false, Bool.false_eq_true, i10, i20, i30, vp0, nc0]
              exact k _ _ w (fun e => absurd e (by decide))
            · have q := w.1
              have h := w.rr
              simp only [w_X5_sign, w_X5_sign_53, q.t123, q.r123_0, q.t124, q.n124, x_isState, x_isPlace, qS, qR, qT, x_mixed q h hr ht, h0, h1, h2, p0, p1, rf0 q, rf1 q, rf2 q, rf3 q, hty_sI, hln_sI, hR_sI, cnd1, cnd2, b2i_0, b2i_1, b2i_z, if_true, if_false, true_and, and_true, true_implies, false_implies, ne_eq, not_false_eq_true, not_true_eq_false, eq_self, exIA, exIS, exAI, exAS, exSI, exSA, true_or, or_true, false_or, or_false, Nat.reduceEqDiff, Bool.true_and, Bool.and_true, Bool.false_and, Bool.and_false, Bool.true_eq_false, Bool.false_eq_true, i10, i20, i30, vp0, nc0]
              refine s_speaks q h hn ?_
              simp only [q.t123, q.r123_0, q.t124, q.n124, x_isState, x_isPlace, qS, qR, qT, x_mixed q h hr ht, h0, h1, h2, p0, p1, rf0 q, rf1 q, rf2 q, rf3 q, hty_sI, hln_sI, hR_sI, cnd1, cnd2, b2i_0, b2i_1, b2i_z, if_true, if_false, true_and, and_true, true_implies, false_implies, ne_eq, not_false_eq_true, not_true_eq_false, eq_self, exIA, exIS, exAI, exAS, exSI, exSA, true_or, or_true, false_or, or_false, Nat.reduceEqDiff, Bool.true_and, Bool.and_true, Bool.false_and, Bool.and_false, Bool.true_eq_false, Bool.false_eq_true, i10, i20, i30, vp0, nc0]
              exact k _ _ w.thr (fun e => absurd e (by decide))
          · skip
            cases p2 : pSg (zG σ) s r t
            rotate_left
            · skip
              refine ⟨2, 0, σ, iS, fun X m o K w k => ?_, fun X d o K w k => ?_⟩
              · have q := w.1
                have h : TR X 2 (zG σ) := w.2.1.1
                simp only [w_L_sign, w_X4_sign, q.t1, q.r1_0, q.r1_1, q.t2, q.t14, e_checkState, e_checkReel, e_checkTongue, e_hasMix q h hr ht, e_hasSignature q h hs hr ht, h0, h1, h2, p0, p1, p2, hty_sI, hln_sI, hR_sI, cnd1, cnd2, b2i_0, b2i_1, b2i_z, if_true, if_false, true_and, and_true, true_implies, false_implies, ne_eq, not_false_eq_true, not_true_eq_false, eq_self, exIA, exIS, exAI, exAS, exSI, exSA, true_or, or_true, false_or, or_false, Nat.reduceEqDiff, Bool.true_and, Bool.and_true, Bool.false_and, Bool.and_false, Bool.true_eq_false, Bool.false_eq_true, i10, i20, i30, vp0, nc0]
                refine s_isHeardIn q h hn ?_
                simp only [q.t1, q.r1_0, q.r1_1, q.t2, q.t14, e_checkState, e_checkReel, e_checkTongue, e_hasMix q h hr ht, e_hasSignature q h hs hr ht, h0, h1, h2, p0, p1, p2, hty_sI, hln_sI, hR_sI, cnd1, cnd2, b2i_0, b2i_1, b2i_z, if_true, if_false, true_and, and_true, true_implies, false_implies, ne_eq, not_false_eq_true, not_true_eq_false, eq_self, exIA, exIS, exAI, exAS, exSI, exSA, true_or, or_true, false_or, or_false, Nat.reduceEqDiff, Bool.true_and, Bool.and_true, Bool.false_and, Bool.and_false, Bool.true_eq_false, Bool.false_eq_true, i10, i20, i30, vp0, nc0]
                exact k _ _ w (fun e => absurd e (by decide))
              · have q := w.1
                have h := w.rr
                simp only [w_X5_sign, w_X5_sign_53, q.t123, q.r123_0, q.t124, q.n124, x_isState, x_isPlace, qS, qR, qT, x_mixed q h hr ht, x_signed q h hs hr ht, h0, h1, h2, p0, p1, p2, rf0 q, rf1 q, rf2 q, rf3 q, hty_sI, hln_sI, hR_sI, cnd1, cnd2, b2i_0, b2i_1, b2i_z, if_true, if_false, true_and, and_true, true_implies, false_implies, ne_eq, not_false_eq_true, not_true_eq_false, eq_self, exIA, exIS, exAI, exAS, exSI, exSA, true_or, or_true, false_or, or_false, Nat.reduceEqDiff, Bool.true_and, Bool.and_true, Bool.false_and, Bool.and_false, Bool.true_eq_false, Bool.false_eq_true, i10, i20, i30, vp0, nc0]
                refine s_speaks q h hn ?_
                simp only [q.t123, q.r123_0, q.t124, q.n124, x_isState, x_isPlace, qS, qR, qT, x_mixed q h hr ht, x_signed q h hs hr ht, h0, h1, h2, p0, p1, p2, rf0 q, rf1 q, rf2 q, rf3 q, hty_sI, hln_sI, hR_sI, cnd1, cnd2, b2i_0, b2i_1, b2i_z, if_true, if_false, true_and, and_true, true_implies, false_implies, ne_eq, not_false_eq_true, not_true_eq_false, eq_self, exIA, exIS, exAI, exAS, exSI, exSA, true_or, or_true, false_or, or_false, Nat.reduceEqDiff, Bool.true_and, Bool.and_true, Bool.false_and, Bool.and_false, Bool.true_eq_false, Bool.false_eq_true, i10, i20, i30, vp0, nc0]
                exact k _ _ w.thr (fun e => absurd e (by decide))
            · skip
              have i' : Inv (upr (zG σ) (354 + (3 * r + t)) (gZ (zG σ) r t ||| (1 <<< (Int32.ofNat s &&& 31)))) (n) := by
                rw [eZ, eZ2]
                exact i.setZ hr ht hz2
              refine ⟨0, sMiss (upr (zG σ) (354 + (3 * r + t)) (gZ (zG σ) r t ||| (1 <<< (Int32.ofNat s &&& 31)))) n r t, ((upr (zG σ) (354 + (3 * r + t)) (gZ (zG σ) r t ||| (1 <<< (Int32.ofNat s &&& 31)))), (pushS σ).2), iS.push i', fun X m o K w k => ?_, fun X d o K w k => ?_⟩
              · have q := w.1
                have h : TR X 2 (zG σ) := w.2.1.1
                simp only [w_L_sign, w_X4_sign, q.t1, q.r1_0, q.r1_1, q.t2, q.t14, e_checkState, e_checkReel, e_checkTongue, e_hasMix q h hr ht, e_hasSignature q h hs hr ht, h0, h1, h2, p0, p1, p2, hty_sI, hln_sI, hR_sI, cnd1, cnd2, b2i_0, b2i_1, b2i_z, if_true, if_false, true_and, and_true, true_implies, false_implies, ne_eq, not_false_eq_true, not_true_eq_false, eq_self, exIA, exIS, exAI, exAS, exSI, exSA, true_or, or_true, false_or, or_false, Nat.reduceEqDiff, Bool.true_and, Bool.and_true, Bool.false_and, Bool.and_false, Bool.true_eq_false, Bool.false_eq_true, i10, i20, i30, vp0, nc0]
                refine s_isHeardIn q h hn ?_
                simp only [q.t1, q.r1_0, q.r1_1, q.t2, q.t14, e_checkState, e_checkReel, e_checkTongue, e_hasMix q h hr ht, e_hasSignature q h hs hr ht, h0, h1, h2, p0, p1, p2, hty_sI, hln_sI, hR_sI, cnd1, cnd2, b2i_0, b2i_1, b2i_z, if_true, if_false, true_and, and_true, true_implies, false_implies, ne_eq, not_false_eq_true, not_true_eq_false, eq_self, exIA, exIS, exAI, exAS, exSI, exSA, true_or, or_true, false_or, or_false, Nat.reduceEqDiff, Bool.true_and, Bool.and_true, Bool.false_and, Bool.and_false, Bool.true_eq_false, Bool.false_eq_true, i10, i20, i30, vp0, nc0]
                refine s_push w (fun X1 w1 => ?_)
                have q1 := w1.1
                have g1 : TR X1 2 (zG σ) := w1.2.1.1
                have w2 := w1.pZ (v := gZ (zG σ) r t ||| (1 <<< (Int32.ofNat s &&& 31))) hr ht
                have q2 := w2.1
                have g2 := w2.2.1.1
                simp only [q1.t1, q1.r1_0, q1.t2, e_putSignature q1 g1 hs hr ht, hty_sI, hln_sI, hR_sI, cnd1, cnd2, b2i_0, b2i_1, b2i_z, if_true, if_false, true_and, and_true, true_implies, false_implies, ne_eq, not_false_eq_true, not_true_eq_false, eq_self, exIA, exIS, exAI, exAS, exSI, exSA, true_or, or_true, false_or, or_false, Nat.reduceEqDiff, Bool.true_and, Bool.and_true, Bool.false_and, Bool.and_false, Bool.true_eq_false, Bool.false_eq_true, i10, i20, i30, vp0, nc0]
                refine s_signaturesMissing q2 g2 i'.cn hr ht ?_
                exact ⟨w2.1.t129, vpX w2.1, k _ _ w2.out (fun _ => rfl)⟩
              · have q := w.1
                have h := w.rr
                simp only [w_X5_sign, w_X5_sign_53, q.t123, q.r123_0, q.t124, q.n124, x_isState, x_isPlace, qS, qR, qT, x_mixed q h hr ht, x_signed q h hs hr ht, h0, h1, h2, p0, p1, p2, rf0 q, rf1 q, rf2 q, rf3 q, hty_sI, hln_sI, hR_sI, cnd1, cnd2, b2i_0, b2i_1, b2i_z, if_true, if_false, true_and, and_true, true_implies, false_implies, ne_eq, not_false_eq_true, not_true_eq_false, eq_self, exIA, exIS, exAI, exAS, exSI, exSA, true_or, or_true, false_or, or_false, Nat.reduceEqDiff, Bool.true_and, Bool.and_true, Bool.false_and, Bool.and_false, Bool.true_eq_false, Bool.false_eq_true, i10, i20, i30, vp0, nc0]
                refine s_speaks q h hn ?_
                simp only [q.t123, q.r123_0, q.t124, q.n124, x_isState, x_isPlace, qS, qR, qT, x_mixed q h hr ht, x_signed q h hs hr ht, h0, h1, h2, p0, p1, p2, rf0 q, rf1 q, rf2 q, rf3 q, hty_sI, hln_sI, hR_sI, cnd1, cnd2, b2i_0, b2i_1, b2i_z, if_true, if_false, true_and, and_true, true_implies, false_implies, ne_eq, not_false_eq_true, not_true_eq_false, eq_self, exIA, exIS, exAI, exAS, exSI, exSA, true_or, or_true, false_or, or_false, Nat.reduceEqDiff, Bool.true_and, Bool.and_true, Bool.false_and, Bool.and_false, Bool.true_eq_false, Bool.false_eq_true, i10, i20, i30, vp0, nc0]
                refine s_saves w.thr (fun X1 w1 => ?_)
                have q1 := w1.1
                have eZ1 : hI X1 124 (354 + (3 * r + t)) = gZ (zG σ) r t := w1.rr _ (by omega)
                have w2 := w1.mp (k := 354 + (3 * r + t)) (v := gZ (zG σ) r t ||| (1 <<< (Int32.ofNat s &&& 31))) (by omega)
                have q2 := w2.1
                have h2 := w2.rr
                simp only [q1.t123, q1.r123_0, q1.t124, q1.n124, ixZ_eq, vp3 (show 354 + (3 * r + t) < 371 by omega), ncv (show 354 + (3 * r + t) < 371 by omega), eZ1, hty_sI, hln_sI, hR_sI, cnd1, cnd2, b2i_0, b2i_1, b2i_z, if_true, if_false, true_and, and_true, true_implies, false_implies, ne_eq, not_false_eq_true, not_true_eq_false, eq_self, exIA, exIS, exAI, exAS, exSI, exSA, true_or, or_true, false_or, or_false, Nat.reduceEqDiff, Bool.true_and, Bool.and_true, Bool.false_and, Bool.and_false, Bool.true_eq_false, Bool.false_eq_true, i10, i20, i30, vp0, nc0]
                refine s_missing q2 h2 i'.cn hr ht ?_
                exact k _ _ w2 (fun _ => rfl)
end PN2
