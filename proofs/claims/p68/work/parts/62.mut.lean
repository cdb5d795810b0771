/-! the calls that change the row: the class -/
section PN
variable {X : XH} {g : Row} {c t s r n : Nat}
theorem vp366 : vp_in (366 : Int32) 371 = True := vp3 (i := 366) (by decide)
theorem vp367 : vp_in (367 : Int32) 371 = True := vp3 (i := 367) (by decide)
theorem vp368 : vp_in (368 : Int32) 371 = True := vp3 (i := 368) (by decide)
theorem vp369 : vp_in (369 : Int32) 371 = True := vp3 (i := 369) (by decide)
theorem vp370 : vp_in (370 : Int32) 371 = True := vp3 (i := 370) (by decide)
theorem nc366 : (366 : Int32).toNatClampNeg = 366 := rfl
theorem nc367 : (367 : Int32).toNatClampNeg = 367 := rfl
theorem nc368 : (368 : Int32).toNatClampNeg = 368 := rfl
theorem nc369 : (369 : Int32).toNatClampNeg = 369 := rfl
theorem nc370 : (370 : Int32).toNatClampNeg = 370 := rfl
theorem ncv {i : Nat} (hi : i < 371) : (Int32.ofNat i).toNatClampNeg = i := nc (by omega)
theorem e_putTranslation {u v : Int32} {K : XH → Prop} (q : Shp X) (hc : c < 24) (ht : t < 3) : w_X3_putTranslation 2 (Int32.ofNat c) (Int32.ofNat t) u v X K = K (sI (sI X 7 (3 * c + t) u) 8 (3 * c + t) v) := by
  have q2 : Shp (sI X 7 (3 * c + t) u) := q
  simp only [w_X3_putTranslation, w_X3_place, q.t2, q.r2_5, q.r2_6, pl_eq, put_eq q.t7 q.n7 (show 3 * c + t < 72 by omega) (by decide), put_eq q2.t8 q2.n8 (show 3 * c + t < 72 by omega) (by decide), hty_sI, hln_sI, hR_sI, cnd1, cnd2, b2i_0, b2i_1, b2i_z, if_true, if_false, true_and, and_true, true_implies, false_implies, ne_eq, not_false_eq_true, not_true_eq_false, eq_self, exIA, exIS, exAI, exAS, exSI, exSA, true_or, or_true, false_or, or_false, Nat.reduceEqDiff, Bool.true_and, Bool.and_true, Bool.false_and, Bool.and_false, Bool.true_eq_false, Bool.false_eq_true, i10, i20, i30, vp0, nc0]
theorem e_putStamina {u : Int32} {K : XH → Prop} (q : Shp X) (hs : s < 5) (ht : t < 3) : w_X3_putStamina 2 (Int32.ofNat s) (Int32.ofNat t) u X K = K (sI X 10 (3 * s + t) u) := by
  simp only [w_X3_putStamina, w_X3_place, q.t2, q.r2_8, pl_eq, put_eq q.t10 q.n10 (show 3 * s + t < 15 by omega) (by decide), hty_sI, hln_sI, hR_sI, cnd1, cnd2, b2i_0, b2i_1, b2i_z, if_true, if_false, true_and, and_true, true_implies, false_implies, ne_eq, not_false_eq_true, not_true_eq_false, eq_self, exIA, exIS, exAI, exAS, exSI, exSA, true_or, or_true, false_or, or_false, Nat.reduceEqDiff, Bool.true_and, Bool.and_true, Bool.false_and, Bool.and_false, Bool.true_eq_false, Bool.false_eq_true, i10, i20, i30, vp0, nc0]
theorem e_take {K : XH → Prop} (q : Shp X) (h : TR X 2 g) (hc : c < 24) (ht : t < 3) (hs : s < 5) (eS : gS g c = Int32.ofNat s) : w_X3_take 2 (Int32.ofNat c) (Int32.ofNat t) X K = K (sI (sI (sI X 11 (3 * s + t) (gU g s t + gB g c t)) 9 (3 * c + t) (g 367 + 1)) 2 13 (g 368 + 1)) := by
  have q2 : Shp (sI X 11 (3 * s + t) (gU g s t + gB g c t)) := q
  have e12 : hI (sI X 11 (3 * s + t) (gU g s t + gB g c t)) 2 12 = g 367 := by rw [sI_ne (by decide)]; exact h 0 12 rfl
  have e13 : hI (sI (sI X 11 (3 * s + t) (gU g s t + gB g c t)) 9 (3 * c + t) (g 367 + 1)) 2 13 = g 368 := by rw [sI_ne (by decide), sI_ne (by decide)]; exact h 0 13 rfl
  simp only [w_X3_take, w_X3_place, q.t2, q.r2_9, q.r2_7, e_speakerAt q h hc, eS, at_eq q.t11 q.n11 (show 3 * s + t < 15 by omega) (by decide), h.U hs ht, e_spokenAt q h hc ht, pl_eq, put_eq q.t11 q.n11 (show 3 * s + t < 15 by omega) (by decide), put_eq q2.t9 q2.n9 (show 3 * c + t < 72 by omega) (by decide), e12, e13, hty_sI, hln_sI, hR_sI, cnd1, cnd2, b2i_0, b2i_1, b2i_z, if_true, if_false, true_and, and_true, true_implies, false_implies, ne_eq, not_false_eq_true, not_true_eq_false, eq_self, exIA, exIS, exAI, exAS, exSI, exSA, true_or, or_true, false_or, or_false, Nat.reduceEqDiff, Bool.true_and, Bool.and_true, Bool.false_and, Bool.and_false, Bool.true_eq_false, Bool.false_eq_true, i10, i20, i30, vp0, nc0]
theorem e_dropTaken {K : XH → Prop} (q : Shp X) (h : TR X 2 g) (hc : c < 24) (ht : t < 3) (hr : r < 4) (eR : gR g c = Int32.ofNat r) : w_X3_dropTaken 2 (Int32.ofNat c) (Int32.ofNat t) X K = K (sI (sI (sI (sI X 9 (3 * c + t) 0) 2 14 (g 369 + 1)) 12 (3 * r + t) 0) 13 (3 * r + t) 0) := by
  have e14 : hI (sI X 9 (3 * c + t) 0) 2 14 = g 369 := by rw [sI_ne (by decide)]; exact h 0 14 rfl
  have q2 : Shp (sI (sI X 9 (3 * c + t) 0) 2 14 (g 369 + 1)) := q
  have e3 : w_X3_reelAt 2 (Int32.ofNat c) (sI (sI X 9 (3 * c + t) 0) 2 14 (g 369 + 1)) = fun K => K (Int32.ofNat r) (sI (sI X 9 (3 * c + t) 0) 2 14 (g 369 + 1)) := by
    funext K
    have e5 : hI (sI (sI X 9 (3 * c + t) 0) 2 14 (g 369 + 1)) 3 c = Int32.ofNat r := by rw [sI_ne (by decide), sI_ne (by decide), h.R hc]; exact eR
    simp only [w_X3_reelAt, q2.t2, q2.r2_1, at_eq q2.t3 q2.n3 hc (by decide), e5, hty_sI, hln_sI, hR_sI, cnd1, cnd2, b2i_0, b2i_1, b2i_z, if_true, if_false, true_and, and_true, true_implies, false_implies, ne_eq, not_false_eq_true, not_true_eq_false, eq_self, exIA, exIS, exAI, exAS, exSI, exSA, true_or, or_true, false_or, or_false, Nat.reduceEqDiff, Bool.true_and, Bool.and_true, Bool.false_and, Bool.and_false, Bool.true_eq_false, Bool.false_eq_true, i10, i20, i30, vp0, nc0]
  simp only [w_X3_dropTaken, w_X3_place, q.t2, q.r2_7, pl_eq, put_eq q.t9 q.n9 (show 3 * c + t < 72 by omega) (by decide), e14, e3, e_unmix q2 hr ht, hty_sI, hln_sI, hR_sI, cnd1, cnd2, b2i_0, b2i_1, b2i_z, if_true, if_false, true_and, and_true, true_implies, false_implies, ne_eq, not_false_eq_true, not_true_eq_false, eq_self, exIA, exIS, exAI, exAS, exSI, exSA, true_or, or_true, false_or, or_false, Nat.reduceEqDiff, Bool.true_and, Bool.and_true, Bool.false_and, Bool.and_false, Bool.true_eq_false, Bool.false_eq_true, i10, i20, i30, vp0, nc0]
theorem e_putMix {K : XH → Prop} (q : Shp X) (h : TR X 2 g) (hr : r < 4) (ht : t < 3) : w_X3_putMix 2 (Int32.ofNat r) (Int32.ofNat t) X K = K (sI (sI X 12 (3 * r + t) 1) 2 15 (g 370 + 1)) := by
  have e15 : hI (sI X 12 (3 * r + t) 1) 2 15 = g 370 := by rw [sI_ne (by decide)]; exact h 0 15 rfl
  simp only [w_X3_putMix, w_X3_place, q.t2, q.r2_10, pl_eq, put_eq q.t12 q.n12 (show 3 * r + t < 12 by omega) (by decide), e15, hty_sI, hln_sI, hR_sI, cnd1, cnd2, b2i_0, b2i_1, b2i_z, if_true, if_false, true_and, and_true, true_implies, false_implies, ne_eq, not_false_eq_true, not_true_eq_false, eq_self, exIA, exIS, exAI, exAS, exSI, exSA, true_or, or_true, false_or, or_false, Nat.reduceEqDiff, Bool.true_and, Bool.and_true, Bool.false_and, Bool.and_false, Bool.true_eq_false, Bool.false_eq_true, i10, i20, i30, vp0, nc0]
theorem e_putSignature {K : XH → Prop} (q : Shp X) (h : TR X 2 g) (hs : s < 5) (hr : r < 4) (ht : t < 3) : w_X3_putSignature 2 (Int32.ofNat s) (Int32.ofNat r) (Int32.ofNat t) X K = K (sI X 13 (3 * r + t) (gZ g r t ||| (1 <<< (Int32.ofNat s &&& 31)))) := by
  simp only [w_X3_putSignature, w_X3_place, q.t2, q.r2_11, at_eq q.t13 q.n13 (show 3 * r + t < 12 by omega) (by decide), h.Z hr ht, pl_eq, put_eq q.t13 q.n13 (show 3 * r + t < 12 by omega) (by decide), hty_sI, hln_sI, hR_sI, cnd1, cnd2, b2i_0, b2i_1, b2i_z, if_true, if_false, true_and, and_true, true_implies, false_implies, ne_eq, not_false_eq_true, not_true_eq_false, eq_self, exIA, exIS, exAI, exAS, exSI, exSA, true_or, or_true, false_or, or_false, Nat.reduceEqDiff, Bool.true_and, Bool.and_true, Bool.false_and, Bool.and_false, Bool.true_eq_false, Bool.false_eq_true, i10, i20, i30, vp0, nc0]
theorem gRs_0 : (gRs g c t ≤ 0) = (gRs g c t = 0) := by
  unfold gRs
  split
  · decide
  · split
    · decide
    · split
      · decide
      · split <;> decide
theorem pCA_eq {x f : Nat} (hF : gF g c t = Int32.ofNat f) (hf : f ≤ 60) (h1 : 1 ≤ x) (h2 : x ≤ 59) : pCA g n c t (Int32.ofNat x) = (!(decide (gF g c t ≤ Int32.ofNat x)) && (!(pTk g c t) && decide (sAnnex g n t + Int32.ofNat x ≤ 99))) := by
  unfold pCA pHas
  have e1 : (gF g c t - Int32.ofNat x < 1) = (gF g c t ≤ Int32.ofNat x) := by
    rw [hF, Int32.lt_iff_toInt_lt, Int32.le_iff_toInt_le, sub_toInt (by rw [of_toInt (by omega), of_toInt (by omega)]; omega) (by rw [of_toInt (by omega), of_toInt (by omega)]; omega), of_toInt (by omega), of_toInt (by omega), t1]
    exact propext ⟨fun _ => by omega, fun _ => by omega⟩
  have e2 : ¬ (gF g c t ≤ Int32.ofNat x) → ¬ (gF g c t ≤ 0) := by
    intro h3 h4
    refine h3 ?_
    rw [hF, show (0 : Int32) = Int32.ofNat 0 from rfl, of_le (by omega) (by omega)] at h4
    rw [hF, of_le (by omega) (by omega)]
    omega
  have e3 : decide (99 < sAnnex g n t + Int32.ofNat x) = !(decide (sAnnex g n t + Int32.ofNat x ≤ 99)) := by
    by_cases h5 : sAnnex g n t + Int32.ofNat x ≤ 99
    · have : ¬ (99 < sAnnex g n t + Int32.ofNat x) := by rw [Int32.not_lt]; exact h5
      simp [h5, this]
    · have : 99 < sAnnex g n t + Int32.ofNat x := by rw [Int32.not_le] at h5; exact h5
      simp [this, h5]
  simp only [e1, e3, Bool.not_not]
  by_cases h6 : gF g c t ≤ Int32.ofNat x
  · simp [h6]
  · simp [h6, e2 h6]
theorem addG_366 {S L Y : Int32} (hr : r < 4) : addG g n r S L Y 366 = Int32.ofNat n + 1 := by
  unfold addG unmA unm
  rw [upr_ne (by omega), upr_ne (by omega), upr_ne (by omega), upr_ne (by omega), upr_ne (by omega), upr_ne (by omega), upr_eq]
theorem sgn_in : ∀ z, z < 32 → ∀ s, s < 5 → ∃ z', z' < 32 ∧ Int32.ofNat z ||| (1 <<< (Int32.ofNat s &&& 31)) = Int32.ofNat z' := by
  intro z hz s hs
  have h : (Int32.ofNat z ||| (1 <<< (Int32.ofNat s &&& 31))).toNatClampNeg < 32 ∧ Int32.ofNat (Int32.ofNat z ||| (1 <<< (Int32.ofNat s &&& 31))).toNatClampNeg = Int32.ofNat z ||| (1 <<< (Int32.ofNat s &&& 31)) := by
    revert z
    revert s
    decide +kernel
  exact ⟨_, h.1, h.2.symm⟩
def takeG (g : Row) (c t s : Nat) : Row := upr (upr (upr g (327 + (3 * s + t)) (gU g s t + gB g c t)) (13 * c + 10 + t) (g 367 + 1)) 368 (g 368 + 1)
theorem takeG_S (hc : c < 24) (ht : t < 3) (hs : s < 5) : gS (takeG g c t s) c = gS g c := (upr_ne (by omega)).trans ((upr_ne (by omega)).trans (upr_ne (by omega)))
theorem takeG_inv (i : Inv g n) (hc : c < n) (ht : t < 3) (hs : s < 5) (eS : gS g c = Int32.ofNat s) (h0 : gRs g c t = 0) : Inv (takeG g c t s) n := by
  have hn2 := i.1.2
  obtain ⟨e, he, eE⟩ := i.2.2.2.2.2
  obtain ⟨b, hb, eB⟩ := (i.2.1 c hc).B ht
  obtain ⟨x, u, h1, h2, h3, e1, e2⟩ := i.2.2.2.1 s hs t ht
  have h4 : gB g c t ≤ gSn g s t := by
    unfold gRs at h0
    rw [eS, nc (by omega)] at h0
    split at h0
    · exact absurd h0 (by decide)
    · split at h0
      · exact absurd h0 (by decide)
      · split at h0
        · exact absurd h0 (by decide)
        · split at h0
          · assumption
          · exact absurd h0 (by decide)
  unfold gSn at h4
  rw [eB, e1, e2, ← Int32.ofNat_sub _ _ h3, of_le (by omega) (by omega)] at h4
  unfold takeG
  refine Inv.acc8 ?_ (by decide)
  rw [eE, of_s]
  have i1 : Inv (upr g (327 + (3 * s + t)) (gU g s t + gB g c t)) n := by
    rw [e2, eB, ← Int32.ofNat_add]
    exact i.setU hs ht h1 h2 (by omega) e1
  exact i1.clause hc (fun k hk => upr_ne (by omega)) ((i1.2.1 c hc).setT ht (by omega))
/-- what the voices have used is 0 -/
def zUi (g : Row) (i : Nat) : Row := fun k => if 327 ≤ k ∧ k < 327 + i then 0 else g k
theorem zUi_s {i : Nat} : upr (zUi g i) (327 + i) 0 = zUi g (i + 1) := by
  funext k
  unfold upr zUi
  by_cases h1 : k = 327 + i
  · rw [if_pos h1, if_pos (by omega)]
  · rw [if_neg h1]
    by_cases h2 : 327 ≤ k ∧ k < 327 + i
    · rw [if_pos h2, if_pos (by omega)]
    · rw [if_neg h2, if_neg (by omega)]
theorem zUi_0 : zUi g 0 = g := by
  funext k
  unfold zUi
  rw [if_neg (by omega)]
theorem zUi_ne {i k : Nat} (h : k < 327 ∨ 342 ≤ k) (hi : i ≤ 15) : zUi g i k = g k := by
  unfold zUi
  rw [if_neg (by omega)]
theorem s_beginSession {cc : St} {Zz : XH} {K : XH → Prop} (w : Wd X cc Zz) (k : ∀ X1, Wd X1 (zUi (upr (zG cc) 367 (zG cc 367 + 1)) 15, cc.2) Zz → K X1) : w_X3_beginSession 2 X K := by
  have q := w.1
  have e : hI X 2 12 = zG cc 367 := w.2.1.1 0 12 rfl
  unfold w_X3_beginSession
  rw [e]
  refine ⟨q.t2, ?_⟩
  intro P hP
  have := dwn (n := 15) (p := fun i => ∀ X1, Wd X1 (zUi (upr (zG cc) 367 (zG cc 367 + 1)) i, cc.2) Zz → P 2 (Int32.ofNat i) X1) (fun X1 w1 => hP _ _ _ ?_) (fun i hi ih X1 w1 => hP _ _ _ ?_)
  · refine this _ ?_
    rw [zUi_0]
    exact w.p12
  · clear hP
    have q1 := w1.1
    simp only [q1.t2, q1.r2_9, q1.t11, q1.n11, ltt (show 15 < 4096 by decide), show (100 ≤ 100) = True from by decide, hty_sI, hln_sI, hR_sI, cnd1, cnd2, b2i_0, b2i_1, b2i_z, if_true, if_false, true_and, and_true, true_implies, false_implies, ne_eq, not_false_eq_true, not_true_eq_false, eq_self, exIA, exIS, exAI, exAS, exSI, exSA, true_or, or_true, false_or, or_false, Nat.reduceEqDiff, Bool.true_and, Bool.and_true, Bool.false_and, Bool.and_false, Bool.true_eq_false, Bool.false_eq_true, i10, i20, i30, vp0, nc0]
    exact k X1 w1
  · clear hP
    have q1 := w1.1
    simp only [q1.t2, q1.r2_9, q1.t11, q1.n11, ltl hi (show 15 < 4096 by decide), vp_of hi (show 15 < 4096 by decide), nc (show i < 4096 by omega), of_s, show (100 ≤ 100) = True from by decide, hty_sI, hln_sI, hR_sI, cnd1, cnd2, b2i_0, b2i_1, b2i_z, if_true, if_false, true_and, and_true, true_implies, false_implies, ne_eq, not_false_eq_true, not_true_eq_false, eq_self, exIA, exIS, exAI, exAS, exSI, exSA, true_or, or_true, false_or, or_false, Nat.reduceEqDiff, Bool.true_and, Bool.and_true, Bool.false_and, Bool.and_false, Bool.true_eq_false, Bool.false_eq_true, i10, i20, i30, vp0, nc0]
    refine ih _ ?_
    rw [← zUi_s]
    exact w1.pU1 hi
end PN

section PN2
theorem rf_addClause_0 {σ : St} {n : Nat} {a b e : Int32} (h0 : inR a = false) : Op (fun X K => w_L_addClause 1 a b e X K) σ (-2) σ := by
  intro X Zz K w k
  have q := w.1
  have h : TR X 2 (zG σ) := w.2.1.1
  simp only [w_L_addClause, w_X4_addClause, q.t1, q.r1_0, q.r1_1, q.t2, q.t14, e_checkReel, e_checkState, h0, hty_sI, hln_sI, hR_sI, cnd1, cnd2, b2i_0, b2i_1, b2i_z, if_true, if_false, true_and, and_true, true_implies, false_implies, ne_eq, not_false_eq_true, not_true_eq_false, eq_self, exIA, exIS, exAI, exAS, exSI, exSA, true_or, or_true, false_or, or_false, Nat.reduceEqDiff, Bool.true_and, Bool.and_true, Bool.false_and, Bool.and_false, Bool.true_eq_false, Bool.false_eq_true, i10, i20, i30, vp0, nc0]
  exact k _ w
theorem rf_addClause_1 {σ : St} {n : Nat} {a b e : Int32} (h0 : inR a = true) (h1 : inS b = false) : Op (fun X K => w_L_addClause 1 a b e X K) σ (-2) σ := by
  intro X Zz K w k
  have q := w.1
  have h : TR X 2 (zG σ) := w.2.1.1
  simp only [w_L_addClause, w_X4_addClause, q.t1, q.r1_0, q.r1_1, q.t2, q.t14, e_checkReel, e_checkState, h0, h1, hty_sI, hln_sI, hR_sI, cnd1, cnd2, b2i_0, b2i_1, b2i_z, if_true, if_false, true_and, and_true, true_implies, false_implies, ne_eq, not_false_eq_true, not_true_eq_false, eq_self, exIA, exIS, exAI, exAS, exSI, exSA, true_or, or_true, false_or, or_false, Nat.reduceEqDiff, Bool.true_and, Bool.and_true, Bool.false_and, Bool.and_false, Bool.true_eq_false, Bool.false_eq_true, i10, i20, i30, vp0, nc0]
  exact k _ w
theorem rf_addClause_2 {σ : St} {n : Nat} (i : Inv (zG σ) n) {e : Int32} {r s : Nat} (hr : r < 4) (hs : s < 5) (p0 : inG e 4 60 = false) : Op (fun X K => w_L_addClause 1 (Int32.ofNat r) (Int32.ofNat s) e X K) σ (-3) σ := by
  have hn := i.cn
  have h0 : inR (Int32.ofNat r) = true := inR_of hr
  have h1 : inS (Int32.ofNat s) = true := inS_of hs
  intro X Zz K w k
  have q := w.1
  have h : TR X 2 (zG σ) := w.2.1.1
  simp only [w_L_addClause, w_X4_addClause, q.t1, q.r1_0, q.r1_1, q.t2, q.t14, e_checkReel, e_checkState, e_checkRange, h0, h1, p0, hty_sI, hln_sI, hR_sI, cnd1, cnd2, b2i_0, b2i_1, b2i_z, if_true, if_false, true_and, and_true, true_implies, false_implies, ne_eq, not_false_eq_true, not_true_eq_false, eq_self, exIA, exIS, exAI, exAS, exSI, exSA, true_or, or_true, false_or, or_false, Nat.reduceEqDiff, Bool.true_and, Bool.and_true, Bool.false_and, Bool.and_false, Bool.true_eq_false, Bool.false_eq_true, i10, i20, i30, vp0, nc0]
  exact k _ w
theorem rf_addClause_3 {σ : St} {n : Nat} (i : Inv (zG σ) n) {r s : Nat} (hr : r < 4) (hs : s < 5) {l : Nat} (hl1 : 4 ≤ l) (hl2 : l ≤ 60) (p1 : ¬ (n < 24)) : Op (fun X K => w_L_addClause 1 (Int32.ofNat r) (Int32.ofNat s) (Int32.ofNat l) X K) σ (-4) σ := by
  have hn := i.cn
  have h0 : inR (Int32.ofNat r) = true := inR_of hr
  have h1 : inS (Int32.ofNat s) = true := inS_of hs
  have p0 : inG (Int32.ofNat l) 4 60 = true := inG_of (lo := 4) (hi := 60) hl1 hl2 (by decide)
  have h24 := hn.2
  have e24 : n = 24 := by omega
  have f1 : (Int32.ofNat n < 24) = False := by rw [e24]; decide
  have f2 : (24 ≤ Int32.ofNat n) = True := by rw [e24]; decide
  intro X Zz K w k
  have q := w.1
  have h : TR X 2 (zG σ) := w.2.1.1
  simp only [w_L_addClause, w_X4_addClause, q.t1, q.r1_0, q.r1_1, q.t2, q.t14, e_checkReel, e_checkState, e_checkRange, h.cn hn, h0, h1, p0, p1, f1, f2, hty_sI, hln_sI, hR_sI, cnd1, cnd2, b2i_0, b2i_1, b2i_z, if_true, if_false, true_and, and_true, true_implies, false_implies, ne_eq, not_false_eq_true, not_true_eq_false, eq_self, exIA, exIS, exAI, exAS, exSI, exSA, true_or, or_true, false_or, or_false, Nat.reduceEqDiff, Bool.true_and, Bool.and_true, Bool.false_and, Bool.and_false, Bool.true_eq_false, Bool.false_eq_true, i10, i20, i30, vp0, nc0]
  exact k _ w
theorem ok_addClause {σ : St} {n : Nat} (i : Inv (zG σ) n) {r s : Nat} (hr : r < 4) (hs : s < 5) {l : Nat} (hl1 : 4 ≤ l) (hl2 : l ≤ 60) (p1 : n < 24)  : Op (fun X K => w_L_addClause 1 (Int32.ofNat r) (Int32.ofNat s) (Int32.ofNat l) X K) σ (Int32.ofNat n) ((addG (zG σ) n r (Int32.ofNat s) (Int32.ofNat l) (Int32.ofNat 0)), (pushS σ).2) := by
  have hn := i.cn
  have h0 : inR (Int32.ofNat r) = true := inR_of hr
  have h1 : inS (Int32.ofNat s) = true := inS_of hs
  have p0 : inG (Int32.ofNat l) 4 60 = true := inG_of (lo := 4) (hi := 60) hl1 hl2 (by decide)
  have f1 : (Int32.ofNat n < 24) = True := (of_lt (j := 24) (by omega) (by decide)).trans (eq_true p1)
  have f2 : (24 ≤ Int32.ofNat n) = False := (of_le (i := 24) (by decide) (by omega)).trans (eq_false (by omega))
  have i' : Inv (addG (zG σ) n r (Int32.ofNat s) (Int32.ofNat l) (Int32.ofNat 0)) (n + 1) := by
    exact i.add p1 hr hs hl1 hl2 (Nat.zero_le _) (Nat.zero_le _)
  intro X Zz K w k
  have q := w.1
  have h : TR X 2 (zG σ) := w.2.1.1
  simp only [w_L_addClause, w_X4_addClause, q.t1, q.r1_0, q.r1_1, q.t2, q.t14, e_checkReel, e_checkState, e_checkRange, h.cn hn, h0, h1, p0, p1, f1, f2, hty_sI, hln_sI, hR_sI, cnd1, cnd2, b2i_0, b2i_1, b2i_z, if_true, if_false, true_and, and_true, true_implies, false_implies, ne_eq, not_false_eq_true, not_true_eq_false, eq_self, exIA, exIS, exAI, exAS, exSI, exSA, true_or, or_true, false_or, or_false, Nat.reduceEqDiff, Bool.true_and, Bool.and_true, Bool.false_and, Bool.and_false, Bool.true_eq_false, Bool.false_eq_true, i10, i20, i30, vp0, nc0]
  refine s_push w (fun X1 w1 => ?_)
  have q1 := w1.1
  simp only [q1.t1, q1.r1_0, q1.t2, hty_sI, hln_sI, hR_sI, cnd1, cnd2, b2i_0, b2i_1, b2i_z, if_true, if_false, true_and, and_true, true_implies, false_implies, ne_eq, not_false_eq_true, not_true_eq_false, eq_self, exIA, exIS, exAI, exAS, exSI, exSA, true_or, or_true, false_or, or_false, Nat.reduceEqDiff, Bool.true_and, Bool.and_true, Bool.false_and, Bool.and_false, Bool.true_eq_false, Bool.false_eq_true, i10, i20, i30, vp0, nc0]
  exact s_add w1 hn p1 hr (fun X2 w2 => k _ w2)
theorem iv_addClause {σ : St} {n : Nat} (i : Inv (zG σ) n) {r s : Nat} (hr : r < 4) (hs : s < 5) {l : Nat} (hl1 : 4 ≤ l) (hl2 : l ≤ 60) (p1 : n < 24)  : Inv (addG (zG σ) n r (Int32.ofNat s) (Int32.ofNat l) (Int32.ofNat 0)) (n + 1) := by
  have hn := i.cn
  have f1 : (Int32.ofNat n < 24) = True := (of_lt (j := 24) (by omega) (by decide)).trans (eq_true p1)
  have f2 : (24 ≤ Int32.ofNat n) = False := (of_le (i := 24) (by decide) (by omega)).trans (eq_false (by omega))
  exact i.add p1 hr hs hl1 hl2 (Nat.zero_le _) (Nat.zero_le _)
theorem rf_changeLips_0 {σ : St} {n : Nat} (hn : Cn (zG σ) n) {a b : Int32} (h0 : inC (zG σ 366) a = false) : Op (fun X K => w_L_changeLips 1 a b X K) σ (-2) σ := by
  intro X Zz K w k
  have q := w.1
  have h : TR X 2 (zG σ) := w.2.1.1
  simp only [w_L_changeLips, w_X4_changeLips, q.t1, q.r1_0, q.r1_1, q.t2, q.t14, e_checkClause q h, h0, hty_sI, hln_sI, hR_sI, cnd1, cnd2, b2i_0, b2i_1, b2i_z, if_true, if_false, true_and, and_true, true_implies, false_implies, ne_eq, not_false_eq_true, not_true_eq_false, eq_self, exIA, exIS, exAI, exAS, exSI, exSA, true_or, or_true, false_or, or_false, Nat.reduceEqDiff, Bool.true_and, Bool.and_true, Bool.false_and, Bool.and_false, Bool.true_eq_false, Bool.false_eq_true, i10, i20, i30, vp0, nc0]
  exact k _ w
theorem rf_changeLips_1 {σ : St} {n : Nat} (i : Inv (zG σ) n) {b : Int32} {c : Nat} (hc : c < n) (p0 : inG b 4 60 = false) : Op (fun X K => w_L_changeLips 1 (Int32.ofNat c) b X K) σ (-3) σ := by
  have hn := i.cn
  have h0 : inC (zG σ 366) (Int32.ofNat c) = true := inC_of hn hc
  have hcn := hc
  replace hc : c < 24 := Nat.lt_of_lt_of_le hc hn.2
  intro X Zz K w k
  have q := w.1
  have h : TR X 2 (zG σ) := w.2.1.1
  simp only [w_L_changeLips, w_X4_changeLips, q.t1, q.r1_0, q.r1_1, q.t2, q.t14, e_checkClause q h, e_checkRange, h0, p0, hty_sI, hln_sI, hR_sI, cnd1, cnd2, b2i_0, b2i_1, b2i_z, if_true, if_false, true_and, and_true, true_implies, false_implies, ne_eq, not_false_eq_true, not_true_eq_false, eq_self, exIA, exIS, exAI, exAS, exSI, exSA, true_or, or_true, false_or, or_false, Nat.reduceEqDiff, Bool.true_and, Bool.and_true, Bool.false_and, Bool.and_false, Bool.true_eq_false, Bool.false_eq_true, i10, i20, i30, vp0, nc0]
  exact k _ w
theorem rf_changeLips_2 {σ : St} {n : Nat} (i : Inv (zG σ) n) {c : Nat} (hc : c < n) {l : Nat} (hl1 : 4 ≤ l) (hl2 : l ≤ 60) (p1 : pTA (zG σ) c = true) : Op (fun X K => w_L_changeLips 1 (Int32.ofNat c) (Int32.ofNat l) X K) σ (-4) σ := by
  have hn := i.cn
  have h0 : inC (zG σ 366) (Int32.ofNat c) = true := inC_of hn hc
  have hcn := hc
  replace hc : c < 24 := Nat.lt_of_lt_of_le hc hn.2
  have p0 : inG (Int32.ofNat l) 4 60 = true := inG_of (lo := 4) (hi := 60) hl1 hl2 (by decide)
  intro X Zz K w k
  have q := w.1
  have h : TR X 2 (zG σ) := w.2.1.1
  simp only [w_L_changeLips, w_X4_changeLips, q.t1, q.r1_0, q.r1_1, q.t2, q.t14, e_checkClause q h, e_checkRange, h0, p0, p1, hty_sI, hln_sI, hR_sI, cnd1, cnd2, b2i_0, b2i_1, b2i_z, if_true, if_false, true_and, and_true, true_implies, false_implies, ne_eq, not_false_eq_true, not_true_eq_false, eq_self, exIA, exIS, exAI, exAS, exSI, exSA, true_or, or_true, false_or, or_false, Nat.reduceEqDiff, Bool.true_and, Bool.and_true, Bool.false_and, Bool.and_false, Bool.true_eq_false, Bool.false_eq_true, i10, i20, i30, vp0, nc0]
  refine s_isRecordedAnywhere q h hc ?_
  simp only [q.t1, q.r1_0, q.r1_1, q.t2, q.t14, e_checkClause q h, e_checkRange, h0, p0, p1, hty_sI, hln_sI, hR_sI, cnd1, cnd2, b2i_0, b2i_1, b2i_z, if_true, if_false, true_and, and_true, true_implies, false_implies, ne_eq, not_false_eq_true, not_true_eq_false, eq_self, exIA, exIS, exAI, exAS, exSI, exSA, true_or, or_true, false_or, or_false, Nat.reduceEqDiff, Bool.true_and, Bool.and_true, Bool.false_and, Bool.and_false, Bool.true_eq_false, Bool.false_eq_true, i10, i20, i30, vp0, nc0]
  exact k _ w
theorem rf_changeLips_3 {σ : St} {n : Nat} (i : Inv (zG σ) n) {c : Nat} (hc : c < n) {l : Nat} (hl1 : 4 ≤ l) (hl2 : l ≤ 60) (p1 : pTA (zG σ) c = false) (p2 : ¬ (gH (zG σ) c ≤ Int32.ofNat l)) : Op (fun X K => w_L_changeLips 1 (Int32.ofNat c) (Int32.ofNat l) X K) σ (-4) σ := by
  have hn := i.cn
  have h0 : inC (zG σ 366) (Int32.ofNat c) = true := inC_of hn hc
  have hcn := hc
  replace hc : c < 24 := Nat.lt_of_lt_of_le hc hn.2
  have p0 : inG (Int32.ofNat l) 4 60 = true := inG_of (lo := 4) (hi := 60) hl1 hl2 (by decide)
  intro X Zz K w k
  have q := w.1
  have h : TR X 2 (zG σ) := w.2.1.1
  simp only [w_L_changeLips, w_X4_changeLips, q.t1, q.r1_0, q.r1_1, q.t2, q.t14, e_checkClause q h, e_checkRange, e_sighAt q h hc, h0, p0, p1, p2, hty_sI, hln_sI, hR_sI, cnd1, cnd2, b2i_0, b2i_1, b2i_z, if_true, if_false, true_and, and_true, true_implies, false_implies, ne_eq, not_false_eq_true, not_true_eq_false, eq_self, exIA, exIS, exAI, exAS, exSI, exSA, true_or, or_true, false_or, or_false, Nat.reduceEqDiff, Bool.true_and, Bool.and_true, Bool.false_and, Bool.and_false, Bool.true_eq_false, Bool.false_eq_true, i10, i20, i30, vp0, nc0]
  refine s_isRecordedAnywhere q h hc ?_
  simp only [q.t1, q.r1_0, q.r1_1, q.t2, q.t14, e_checkClause q h, e_checkRange, e_sighAt q h hc, h0, p0, p1, p2, hty_sI, hln_sI, hR_sI, cnd1, cnd2, b2i_0, b2i_1, b2i_z, if_true, if_false, true_and, and_true, true_implies, false_implies, ne_eq, not_false_eq_true, not_true_eq_false, eq_self, exIA, exIS, exAI, exAS, exSI, exSA, true_or, or_true, false_or, or_false, Nat.reduceEqDiff, Bool.true_and, Bool.and_true, Bool.false_and, Bool.and_false, Bool.true_eq_false, Bool.false_eq_true, i10, i20, i30, vp0, nc0]
  exact k _ w
theorem ok_changeLips {σ : St} {n : Nat} (i : Inv (zG σ) n) {c : Nat} (hc : c < n) {l : Nat} (hl1 : 4 ≤ l) (hl2 : l ≤ 60) (p1 : pTA (zG σ) c = false) (p2 : gH (zG σ) c ≤ Int32.ofNat l)  : Op (fun X K => w_L_changeLips 1 (Int32.ofNat c) (Int32.ofNat l) X K) σ (gL (zG σ) c) ((upr (zG σ) (13 * c + 2) (Int32.ofNat l)), (pushS σ).2) := by
  have hn := i.cn
  have h0 : inC (zG σ 366) (Int32.ofNat c) = true := inC_of hn hc
  have hcn := hc
  replace hc : c < 24 := Nat.lt_of_lt_of_le hc hn.2
  have p0 : inG (Int32.ofNat l) 4 60 = true := inG_of (lo := 4) (hi := 60) hl1 hl2 (by decide)
  have i' : Inv (upr (zG σ) (13 * c + 2) (Int32.ofNat l)) (n) := by
    obtain ⟨l0, y, g1, g2, g3, g4, e1, e2⟩ := (i.2.1 c hcn).2.2.1
    rw [e2, of_le (by omega) (by omega)] at p2
    exact i.clause hcn (fun k hk => upr_ne (by omega)) ((i.2.1 c hcn).setL hl1 hl2 e2 g3 p2)
  intro X Zz K w k
  have q := w.1
  have h : TR X 2 (zG σ) := w.2.1.1
  simp only [w_L_changeLips, w_X4_changeLips, q.t1, q.r1_0, q.r1_1, q.t2, q.t14, e_checkClause q h, e_checkRange, e_sighAt q h hc, h0, p0, p1, p2, hty_sI, hln_sI, hR_sI, cnd1, cnd2, b2i_0, b2i_1, b2i_z, if_true, if_false, true_and, and_true, true_implies, false_implies, ne_eq, not_false_eq_true, not_true_eq_false, eq_self, exIA, exIS, exAI, exAS, exSI, exSA, true_or, or_true, false_or, or_false, Nat.reduceEqDiff, Bool.true_and, Bool.and_true, Bool.false_and, Bool.and_false, Bool.true_eq_false, Bool.false_eq_true, i10, i20, i30, vp0, nc0]
  refine s_isRecordedAnywhere q h hc ?_
  simp only [q.t1, q.r1_0, q.r1_1, q.t2, q.t14, e_checkClause q h, e_checkRange, e_sighAt q h hc, h0, p0, p1, p2, hty_sI, hln_sI, hR_sI, cnd1, cnd2, b2i_0, b2i_1, b2i_z, if_true, if_false, true_and, and_true, true_implies, false_implies, ne_eq, not_false_eq_true, not_true_eq_false, eq_self, exIA, exIS, exAI, exAS, exSI, exSA, true_or, or_true, false_or, or_false, Nat.reduceEqDiff, Bool.true_and, Bool.and_true, Bool.false_and, Bool.and_false, Bool.true_eq_false, Bool.false_eq_true, i10, i20, i30, vp0, nc0]
  refine s_push w (fun X1 w1 => ?_)
  have q1 := w1.1
  have g1 : TR X1 2 (zG σ) := w1.2.1.1
  simp only [q1.t1, q1.r1_0, q1.t2, q1.r2_3, e_lipsAt q1 g1 hc, put_eq q1.t5 q1.n5 hc (show 24 < 4096 by decide), hty_sI, hln_sI, hR_sI, cnd1, cnd2, b2i_0, b2i_1, b2i_z, if_true, if_false, true_and, and_true, true_implies, false_implies, ne_eq, not_false_eq_true, not_true_eq_false, eq_self, exIA, exIS, exAI, exAS, exSI, exSA, true_or, or_true, false_or, or_false, Nat.reduceEqDiff, Bool.true_and, Bool.and_true, Bool.false_and, Bool.and_false, Bool.true_eq_false, Bool.false_eq_true, i10, i20, i30, vp0, nc0]
  exact k _ (w1.pL hc)
theorem iv_changeLips {σ : St} {n : Nat} (i : Inv (zG σ) n) {c : Nat} (hc : c < n) {l : Nat} (hl1 : 4 ≤ l) (hl2 : l ≤ 60) (p1 : pTA (zG σ) c = false) (p2 : gH (zG σ) c ≤ Int32.ofNat l)  : Inv (upr (zG σ) (13 * c + 2) (Int32.ofNat l)) (n) := by
  have hn := i.cn
  have hcn := hc
  replace hc : c < 24 := Nat.lt_of_lt_of_le hc hn.2
  obtain ⟨l0, y, g1, g2, g3, g4, e1, e2⟩ := (i.2.1 c hcn).2.2.1
  rw [e2, of_le (by omega) (by omega)] at p2
  exact i.clause hcn (fun k hk => upr_ne (by omega)) ((i.2.1 c hcn).setL hl1 hl2 e2 g3 p2)
theorem rf_changeSigh_0 {σ : St} {n : Nat} (hn : Cn (zG σ) n) {a b : Int32} (h0 : inC (zG σ 366) a = false) : Op (fun X K => w_L_changeSigh 1 a b X K) σ (-2) σ := by
  intro X Zz K w k
  have q := w.1
  have h : TR X 2 (zG σ) := w.2.1.1
  simp only [w_L_changeSigh, w_X4_changeSigh, q.t1, q.r1_0, q.r1_1, q.t2, q.t14, e_checkClause q h, h0, hty_sI, hln_sI, hR_sI, cnd1, cnd2, b2i_0, b2i_1, b2i_z, if_true, if_false, true_and, and_true, true_implies, false_implies, ne_eq, not_false_eq_true, not_true_eq_false, eq_self, exIA, exIS, exAI, exAS, exSI, exSA, true_or, or_true, false_or, or_false, Nat.reduceEqDiff, Bool.true_and, Bool.and_true, Bool.false_and, Bool.and_false, Bool.true_eq_false, Bool.false_eq_true, i10, i20, i30, vp0, nc0]
  exact k _ w
theorem rf_changeSigh_1 {σ : St} {n : Nat} (i : Inv (zG σ) n) {b : Int32} {c : Nat} (hc : c < n) (p0 : inG b 0 20 = false) : Op (fun X K => w_L_changeSigh 1 (Int32.ofNat c) b X K) σ (-3) σ := by
  have hn := i.cn
  have h0 : inC (zG σ 366) (Int32.ofNat c) = true := inC_of hn hc
  have hcn := hc
  replace hc : c < 24 := Nat.lt_of_lt_of_le hc hn.2
  intro X Zz K w k
  have q := w.1
  have h : TR X 2 (zG σ) := w.2.1.1
  simp only [w_L_changeSigh, w_X4_changeSigh, q.t1, q.r1_0, q.r1_1, q.t2, q.t14, e_checkClause q h, e_checkRange, h0, p0, hty_sI, hln_sI, hR_sI, cnd1, cnd2, b2i_0, b2i_1, b2i_z, if_true, if_false, true_and, and_true, true_implies, false_implies, ne_eq, not_false_eq_true, not_true_eq_false, eq_self, exIA, exIS, exAI, exAS, exSI, exSA, true_or, or_true, false_or, or_false, Nat.reduceEqDiff, Bool.true_and, Bool.and_true, Bool.false_and, Bool.and_false, Bool.true_eq_false, Bool.false_eq_true, i10, i20, i30, vp0, nc0]
  exact k _ w
theorem rf_changeSigh_2 {σ : St} {n : Nat} (i : Inv (zG σ) n) {c : Nat} (hc : c < n) {l : Nat} (hl1 : 0 ≤ l) (hl2 : l ≤ 20) (p1 : pTA (zG σ) c = true) : Op (fun X K => w_L_changeSigh 1 (Int32.ofNat c) (Int32.ofNat l) X K) σ (-4) σ := by
  have hn := i.cn
  have h0 : inC (zG σ 366) (Int32.ofNat c) = true := inC_of hn hc
  have hcn := hc
  replace hc : c < 24 := Nat.lt_of_lt_of_le hc hn.2
  have p0 : inG (Int32.ofNat l) 0 20 = true := inG_of (lo := 0) (hi := 20) hl1 hl2 (by decide)
  intro X Zz K w k
  have q := w.1
  have h : TR X 2 (zG σ) := w.2.1.1
  simp only [w_L_changeSigh, w_X4_changeSigh, q.t1, q.r1_0, q.r1_1, q.t2, q.t14, e_checkClause q h, e_checkRange, h0, p0, p1, hty_sI, hln_sI, hR_sI, cnd1, cnd2, b2i_0, b2i_1, b2i_z, if_true, if_false, true_and, and_true, true_implies, false_implies, ne_eq, not_false_eq_true, not_true_eq_false, eq_self, exIA, exIS, exAI, exAS, exSI, exSA, true_or, or_true, false_or, or_false, Nat.reduceEqDiff, Bool.true_and, Bool.and_true, Bool.false_and, Bool.and_false, Bool.true_eq_false, Bool.false_eq_true, i10, i20, i30, vp0, nc0]
  refine s_isRecordedAnywhere q h hc ?_
  simp only [q.t1, q.r1_0, q.r1_1, q.t2, q.t14, e_checkClause q h, e_checkRange, h0, p0, p1, hty_sI, hln_sI, hR_sI, cnd1, cnd2, b2i_0, b2i_1, b2i_z, if_true, if_false, true_and, and_true, true_implies, false_implies, ne_eq, not_false_eq_true, not_true_eq_false, eq_self, exIA, exIS, exAI, exAS, exSI, exSA, true_or, or_true, false_or, or_false, Nat.reduceEqDiff, Bool.true_and, Bool.and_true, Bool.false_and, Bool.and_false, Bool.true_eq_false, Bool.false_eq_true, i10, i20, i30, vp0, nc0]
  exact k _ w
theorem rf_changeSigh_3 {σ : St} {n : Nat} (i : Inv (zG σ) n) {c : Nat} (hc : c < n) {l : Nat} (hl1 : 0 ≤ l) (hl2 : l ≤ 20) (p1 : pTA (zG σ) c = false) (p2 : ¬ (Int32.ofNat l ≤ gL (zG σ) c)) : Op (fun X K => w_L_changeSigh 1 (Int32.ofNat c) (Int32.ofNat l) X K) σ (-4) σ := by
  have hn := i.cn
  have h0 : inC (zG σ 366) (Int32.ofNat c) = true := inC_of hn hc
  have hcn := hc
  replace hc : c < 24 := Nat.lt_of_lt_of_le hc hn.2
  have p0 : inG (Int32.ofNat l) 0 20 = true := inG_of (lo := 0) (hi := 20) hl1 hl2 (by decide)
  intro X Zz K w k
  have q := w.1
  have h : TR X 2 (zG σ) := w.2.1.1
  simp only [w_L_changeSigh, w_X4_changeSigh, q.t1, q.r1_0, q.r1_1, q.t2, q.t14, e_checkClause q h, e_checkRange, e_lipsAt q h hc, h0, p0, p1, p2, hty_sI, hln_sI, hR_sI, cnd1, cnd2, b2i_0, b2i_1, b2i_z, if_true, if_false, true_and, and_true, true_implies, false_implies, ne_eq, not_false_eq_true, not_true_eq_false, eq_self, exIA, exIS, exAI, exAS, exSI, exSA, true_or, or_true, false_or, or_false, Nat.reduceEqDiff, Bool.true_and, Bool.and_true, Bool.false_and, Bool.and_false, Bool.true_eq_false, Bool.false_eq_true, i10, i20, i30, vp0, nc0]
  refine s_isRecordedAnywhere q h hc ?_
  simp only [q.t1, q.r1_0, q.r1_1, q.t2, q.t14, e_checkClause q h, e_checkRange, e_lipsAt q h hc, h0, p0, p1, p2, hty_sI, hln_sI, hR_sI, cnd1, cnd2, b2i_0, b2i_1, b2i_z, if_true, if_false, true_and, and_true, true_implies, false_implies, ne_eq, not_false_eq_true, not_true_eq_false, eq_self, exIA, exIS, exAI, exAS, exSI, exSA, true_or, or_true, false_or, or_false, Nat.reduceEqDiff, Bool.true_and, Bool.and_true, Bool.false_and, Bool.and_false, Bool.true_eq_false, Bool.false_eq_true, i10, i20, i30, vp0, nc0]
  exact k _ w
theorem ok_changeSigh {σ : St} {n : Nat} (i : Inv (zG σ) n) {c : Nat} (hc : c < n) {l : Nat} (hl1 : 0 ≤ l) (hl2 : l ≤ 20) (p1 : pTA (zG σ) c = false) (p2 : Int32.ofNat l ≤ gL (zG σ) c)  : Op (fun X K => w_L_changeSigh 1 (Int32.ofNat c) (Int32.ofNat l) X K) σ (gH (zG σ) c) ((upr (zG σ) (13 * c + 3) (Int32.ofNat l)), (pushS σ).2) := by
  have hn := i.cn
  have h0 : inC (zG σ 366) (Int32.ofNat c) = true := inC_of hn hc
  have hcn := hc
  replace hc : c < 24 := Nat.lt_of_lt_of_le hc hn.2
  have p0 : inG (Int32.ofNat l) 0 20 = true := inG_of (lo := 0) (hi := 20) hl1 hl2 (by decide)
  have i' : Inv (upr (zG σ) (13 * c + 3) (Int32.ofNat l)) (n) := by
    obtain ⟨l0, y, g1, g2, g3, g4, e1, e2⟩ := (i.2.1 c hcn).2.2.1
    rw [e1, of_le (by omega) (by omega)] at p2
    exact i.clause hcn (fun k hk => upr_ne (by omega)) ((i.2.1 c hcn).setH g1 g2 e1 hl2 p2)
  intro X Zz K w k
  have q := w.1
  have h : TR X 2 (zG σ) := w.2.1.1
  simp only [w_L_changeSigh, w_X4_changeSigh, q.t1, q.r1_0, q.r1_1, q.t2, q.t14, e_checkClause q h, e_checkRange, e_lipsAt q h hc, h0, p0, p1, p2, hty_sI, hln_sI, hR_sI, cnd1, cnd2, b2i_0, b2i_1, b2i_z, if_true, if_false, true_and, and_true, true_implies, false_implies, ne_eq, not_false_eq_true, not_true_eq_false, eq_self, exIA, exIS, exAI, exAS, exSI, exSA, true_or, or_true, false_or, or_false, Nat.reduceEqDiff, Bool.true_and, Bool.and_true, Bool.false_and, Bool.and_false, Bool.true_eq_false, Bool.false_eq_true, i10, i20, i30, vp0, nc0]
  refine s_isRecordedAnywhere q h hc ?_
  simp only [q.t1, q.r1_0, q.r1_1, q.t2, q.t14, e_checkClause q h, e_checkRange, e_lipsAt q h hc, h0, p0, p1, p2, hty_sI, hln_sI, hR_sI, cnd1, cnd2, b2i_0, b2i_1, b2i_z, if_true, if_false, true_and, and_true, true_implies, false_implies, ne_eq, not_false_eq_true, not_true_eq_false, eq_self, exIA, exIS, exAI, exAS, exSI, exSA, true_or, or_true, false_or, or_false, Nat.reduceEqDiff, Bool.true_and, Bool.and_true, Bool.false_and, Bool.and_false, Bool.true_eq_false, Bool.false_eq_true, i10, i20, i30, vp0, nc0]
  refine s_push w (fun X1 w1 => ?_)
  have q1 := w1.1
  have g1 : TR X1 2 (zG σ) := w1.2.1.1
  simp only [q1.t1, q1.r1_0, q1.t2, q1.r2_4, e_sighAt q1 g1 hc, put_eq q1.t6 q1.n6 hc (show 24 < 4096 by decide), hty_sI, hln_sI, hR_sI, cnd1, cnd2, b2i_0, b2i_1, b2i_z, if_true, if_false, true_and, and_true, true_implies, false_implies, ne_eq, not_false_eq_true, not_true_eq_false, eq_self, exIA, exIS, exAI, exAS, exSI, exSA, true_or, or_true, false_or, or_false, Nat.reduceEqDiff, Bool.true_and, Bool.and_true, Bool.false_and, Bool.and_false, Bool.true_eq_false, Bool.false_eq_true, i10, i20, i30, vp0, nc0]
  exact k _ (w1.pH hc)
theorem iv_changeSigh {σ : St} {n : Nat} (i : Inv (zG σ) n) {c : Nat} (hc : c < n) {l : Nat} (hl1 : 0 ≤ l) (hl2 : l ≤ 20) (p1 : pTA (zG σ) c = false) (p2 : Int32.ofNat l ≤ gL (zG σ) c)  : Inv (upr (zG σ) (13 * c + 3) (Int32.ofNat l)) (n) := by
  have hn := i.cn
  have hcn := hc
  replace hc : c < 24 := Nat.lt_of_lt_of_le hc hn.2
  obtain ⟨l0, y, g1, g2, g3, g4, e1, e2⟩ := (i.2.1 c hcn).2.2.1
  rw [e1, of_le (by omega) (by omega)] at p2
  exact i.clause hcn (fun k hk => upr_ne (by omega)) ((i.2.1 c hcn).setH g1 g2 e1 hl2 p2)
theorem rf_moveClause_0 {σ : St} {n : Nat} (hn : Cn (zG σ) n) {a b : Int32} (h0 : inC (zG σ 366) a = false) : Op (fun X K => w_L_moveClause 1 a b X K) σ (-2) σ := by
  intro X Zz K w k
  have q := w.1
  have h : TR X 2 (zG σ) := w.2.1.1
  simp only [w_L_moveClause, w_X4_moveClause, q.t1, q.r1_0, q.r1_1, q.t2, q.t14, e_checkClause q h, e_checkReel, h0, hty_sI, hln_sI, hR_sI, cnd1, cnd2, b2i_0, b2i_1, b2i_z, if_true, if_false, true_and, and_true, true_implies, false_implies, ne_eq, not_false_eq_true, not_true_eq_false, eq_self, exIA, exIS, exAI, exAS, exSI, exSA, true_or, or_true, false_or, or_false, Nat.reduceEqDiff, Bool.true_and, Bool.and_true, Bool.false_and, Bool.and_false, Bool.true_eq_false, Bool.false_eq_true, i10, i20, i30, vp0, nc0]
  exact k _ w
theorem rf_moveClause_1 {σ : St} {n : Nat} (hn : Cn (zG σ) n) {a b : Int32} (h0 : inC (zG σ 366) a = true) (h1 : inR b = false) : Op (fun X K => w_L_moveClause 1 a b X K) σ (-2) σ := by
  intro X Zz K w k
  have q := w.1
  have h : TR X 2 (zG σ) := w.2.1.1
  simp only [w_L_moveClause, w_X4_moveClause, q.t1, q.r1_0, q.r1_1, q.t2, q.t14, e_checkClause q h, e_checkReel, h0, h1, hty_sI, hln_sI, hR_sI, cnd1, cnd2, b2i_0, b2i_1, b2i_z, if_true, if_false, true_and, and_true, true_implies, false_implies, ne_eq, not_false_eq_true, not_true_eq_false, eq_self, exIA, exIS, exAI, exAS, exSI, exSA, true_or, or_true, false_or, or_false, Nat.reduceEqDiff, Bool.true_and, Bool.and_true, Bool.false_and, Bool.and_false, Bool.true_eq_false, Bool.false_eq_true, i10, i20, i30, vp0, nc0]
  exact k _ w
theorem rf_moveClause_2 {σ : St} {n : Nat} (i : Inv (zG σ) n) {c r : Nat} (hc : c < n) (hr : r < 4) (p1 : pTA (zG σ) c = true) : Op (fun X K => w_L_moveClause 1 (Int32.ofNat c) (Int32.ofNat r) X K) σ (-4) σ := by
  have hn := i.cn
  have h0 : inC (zG σ 366) (Int32.ofNat c) = true := inC_of hn hc
  have h1 : inR (Int32.ofNat r) = true := inR_of hr
  have hcn := hc
  replace hc : c < 24 := Nat.lt_of_lt_of_le hc hn.2
  intro X Zz K w k
  have q := w.1
  have h : TR X 2 (zG σ) := w.2.1.1
  simp only [w_L_moveClause, w_X4_moveClause, q.t1, q.r1_0, q.r1_1, q.t2, q.t14, e_checkClause q h, e_checkReel, h0, h1, p1, hty_sI, hln_sI, hR_sI, cnd1, cnd2, b2i_0, b2i_1, b2i_z, if_true, if_false, true_and, and_true, true_implies, false_implies, ne_eq, not_false_eq_true, not_true_eq_false, eq_self, exIA, exIS, exAI, exAS, exSI, exSA, true_or, or_true, false_or, or_false, Nat.reduceEqDiff, Bool.true_and, Bool.and_true, Bool.false_and, Bool.and_false, Bool.true_eq_false, Bool.false_eq_true, i10, i20, i30, vp0, nc0]
  refine s_isRecordedAnywhere q h hc ?_
  simp only [q.t1, q.r1_0, q.r1_1, q.t2, q.t14, e_checkClause q h, e_checkReel, h0, h1, p1, hty_sI, hln_sI, hR_sI, cnd1, cnd2, b2i_0, b2i_1, b2i_z, if_true, if_false, true_and, and_true, true_implies, false_implies, ne_eq, not_false_eq_true, not_true_eq_false, eq_self, exIA, exIS, exAI, exAS, exSI, exSA, true_or, or_true, false_or, or_false, Nat.reduceEqDiff, Bool.true_and, Bool.and_true, Bool.false_and, Bool.and_false, Bool.true_eq_false, Bool.false_eq_true, i10, i20, i30, vp0, nc0]
  exact k _ w
theorem rf_moveClause_3 {σ : St} {n : Nat} (i : Inv (zG σ) n) {c r : Nat} (hc : c < n) (hr : r < 4) (p1 : pTA (zG σ) c = false) (p2 : gR (zG σ) c = Int32.ofNat r) : Op (fun X K => w_L_moveClause 1 (Int32.ofNat c) (Int32.ofNat r) X K) σ (-4) σ := by
  have hn := i.cn
  have h0 : inC (zG σ 366) (Int32.ofNat c) = true := inC_of hn hc
  have h1 : inR (Int32.ofNat r) = true := inR_of hr
  have hcn := hc
  replace hc : c < 24 := Nat.lt_of_lt_of_le hc hn.2
  intro X Zz K w k
  have q := w.1
  have h : TR X 2 (zG σ) := w.2.1.1
  simp only [w_L_moveClause, w_X4_moveClause, q.t1, q.r1_0, q.r1_1, q.t2, q.t14, e_checkClause q h, e_checkReel, e_reelAt q h hc, h0, h1, p1, p2, hty_sI, hln_sI, hR_sI, cnd1, cnd2, b2i_0, b2i_1, b2i_z, if_true, if_false, true_and, and_true, true_implies, false_implies, ne_eq, not_false_eq_true, not_true_eq_false, eq_self, exIA, exIS, exAI, exAS, exSI, exSA, true_or, or_true, false_or, or_false, Nat.reduceEqDiff, Bool.true_and, Bool.and_true, Bool.false_and, Bool.and_false, Bool.true_eq_false, Bool.false_eq_true, i10, i20, i30, vp0, nc0]
  refine s_isRecordedAnywhere q h hc ?_
  simp only [q.t1, q.r1_0, q.r1_1, q.t2, q.t14, e_checkClause q h, e_checkReel, e_reelAt q h hc, h0, h1, p1, p2, hty_sI, hln_sI, hR_sI, cnd1, cnd2, b2i_0, b2i_1, b2i_z, if_true, if_false, true_and, and_true, true_implies, false_implies, ne_eq, not_false_eq_true, not_true_eq_false, eq_self, exIA, exIS, exAI, exAS, exSI, exSA, true_or, or_true, false_or, or_false, Nat.reduceEqDiff, Bool.true_and, Bool.and_true, Bool.false_and, Bool.and_false, Bool.true_eq_false, Bool.false_eq_true, i10, i20, i30, vp0, nc0]
  exact k _ w
theorem ok_moveClause {σ : St} {n : Nat} (i : Inv (zG σ) n) {c r : Nat} (hc : c < n) (hr : r < 4) (p1 : pTA (zG σ) c = false) (p2 : ¬ (gR (zG σ) c = Int32.ofNat r))  : Op (fun X K => w_L_moveClause 1 (Int32.ofNat c) (Int32.ofNat r) X K) σ (gR (zG σ) c) ((unmA (upr (zG σ) (13 * c) (Int32.ofNat r)) r), (pushS σ).2) := by
  have hn := i.cn
  have h0 : inC (zG σ 366) (Int32.ofNat c) = true := inC_of hn hc
  have h1 : inR (Int32.ofNat r) = true := inR_of hr
  have hcn := hc
  replace hc : c < 24 := Nat.lt_of_lt_of_le hc hn.2
  have i' : Inv (unmA (upr (zG σ) (13 * c) (Int32.ofNat r)) r) (n) := by
    exact (i.clause hcn (fun k hk => upr_ne (by omega)) ((i.2.1 c hcn).setR hr)).unmA hr
  intro X Zz K w k
  have q := w.1
  have h : TR X 2 (zG σ) := w.2.1.1
  simp only [w_L_moveClause, w_X4_moveClause, q.t1, q.r1_0, q.r1_1, q.t2, q.t14, e_checkClause q h, e_checkReel, e_reelAt q h hc, h0, h1, p1, p2, hty_sI, hln_sI, hR_sI, cnd1, cnd2, b2i_0, b2i_1, b2i_z, if_true, if_false, true_and, and_true, true_implies, false_implies, ne_eq, not_false_eq_true, not_true_eq_false, eq_self, exIA, exIS, exAI, exAS, exSI, exSA, true_or, or_true, false_or, or_false, Nat.reduceEqDiff, Bool.true_and, Bool.and_true, Bool.false_and, Bool.and_false, Bool.true_eq_false, Bool.false_eq_true, i10, i20, i30, vp0, nc0]
  refine s_isRecordedAnywhere q h hc ?_
  simp only [q.t1, q.r1_0, q.r1_1, q.t2, q.t14, e_checkClause q h, e_checkReel, e_reelAt q h hc, h0, h1, p1, p2, hty_sI, hln_sI, hR_sI, cnd1, cnd2, b2i_0, b2i_1, b2i_z, if_true, if_false, true_and, and_true, true_implies, false_implies, ne_eq, not_false_eq_true, not_true_eq_false, eq_self, exIA, exIS, exAI, exAS, exSI, exSA, true_or, or_true, false_or, or_false, Nat.reduceEqDiff, Bool.true_and, Bool.and_true, Bool.false_and, Bool.and_false, Bool.true_eq_false, Bool.false_eq_true, i10, i20, i30, vp0, nc0]
  refine s_push w (fun X1 w1 => ?_)
  have q1 := w1.1
  have g1 : TR X1 2 (zG σ) := w1.2.1.1
  have q2 : Shp (sI X1 3 c (Int32.ofNat r)) := q1
  simp only [q1.t1, q1.r1_0, q1.t2, q1.r2_1, e_reelAt q1 g1 hc, put_eq q1.t3 q1.n3 hc (show 24 < 4096 by decide), hty_sI, hln_sI, hR_sI, cnd1, cnd2, b2i_0, b2i_1, b2i_z, if_true, if_false, true_and, and_true, true_implies, false_implies, ne_eq, not_false_eq_true, not_true_eq_false, eq_self, exIA, exIS, exAI, exAS, exSI, exSA, true_or, or_true, false_or, or_false, Nat.reduceEqDiff, Bool.true_and, Bool.and_true, Bool.false_and, Bool.and_false, Bool.true_eq_false, Bool.false_eq_true, i10, i20, i30, vp0, nc0]
  exact s_unmixEverywhere (w1.pR hc) hr (fun X2 w2 => k _ w2)
theorem iv_moveClause {σ : St} {n : Nat} (i : Inv (zG σ) n) {c r : Nat} (hc : c < n) (hr : r < 4) (p1 : pTA (zG σ) c = false) (p2 : ¬ (gR (zG σ) c = Int32.ofNat r))  : Inv (unmA (upr (zG σ) (13 * c) (Int32.ofNat r)) r) (n) := by
  have hn := i.cn
  have hcn := hc
  replace hc : c < 24 := Nat.lt_of_lt_of_le hc hn.2
  exact (i.clause hcn (fun k hk => upr_ne (by omega)) ((i.2.1 c hcn).setR hr)).unmA hr
theorem rf_translate_0 {σ : St} {n : Nat} (hn : Cn (zG σ) n) {a b e : Int32} (h0 : inC (zG σ 366) a = false) : Op (fun X K => w_L_translate 1 a b e X K) σ (-902) σ := by
  intro X Zz K w k
  have q := w.1
  have h : TR X 2 (zG σ) := w.2.1.1
  simp only [w_L_translate, w_X4_translate, q.t1, q.r1_0, q.r1_1, q.t2, q.t14, e_checkTranslation q h, h0, hty_sI, hln_sI, hR_sI, cnd1, cnd2, b2i_0, b2i_1, b2i_z, if_true, if_false, true_and, and_true, true_implies, false_implies, ne_eq, not_false_eq_true, not_true_eq_false, eq_self, exIA, exIS, exAI, exAS, exSI, exSA, true_or, or_true, false_or, or_false, Nat.reduceEqDiff, Bool.true_and, Bool.and_true, Bool.false_and, Bool.and_false, Bool.true_eq_false, Bool.false_eq_true, i10, i20, i30, vp0, nc0]
  exact k _ w
theorem rf_translate_1 {σ : St} {n : Nat} (hn : Cn (zG σ) n) {a b e : Int32} (h0 : inC (zG σ 366) a = true) (h1 : inT b = false) : Op (fun X K => w_L_translate 1 a b e X K) σ (-902) σ := by
  intro X Zz K w k
  have q := w.1
  have h : TR X 2 (zG σ) := w.2.1.1
  simp only [w_L_translate, w_X4_translate, q.t1, q.r1_0, q.r1_1, q.t2, q.t14, e_checkTranslation q h, h0, h1, hty_sI, hln_sI, hR_sI, cnd1, cnd2, b2i_0, b2i_1, b2i_z, if_true, if_false, true_and, and_true, true_implies, false_implies, ne_eq, not_false_eq_true, not_true_eq_false, eq_self, exIA, exIS, exAI, exAS, exSI, exSA, true_or, or_true, false_or, or_false, Nat.reduceEqDiff, Bool.true_and, Bool.and_true, Bool.false_and, Bool.and_false, Bool.true_eq_false, Bool.false_eq_true, i10, i20, i30, vp0, nc0]
  exact k _ w
theorem rf_translate_2 {σ : St} {n : Nat} (i : Inv (zG σ) n) {e : Int32} {c t : Nat} (hc : c < n) (ht : t < 3) (p0 : inG e 1 60 = false) : Op (fun X K => w_L_translate 1 (Int32.ofNat c) (Int32.ofNat t) e X K) σ (-903) σ := by
  have hn := i.cn
  have h0 : inC (zG σ 366) (Int32.ofNat c) = true := inC_of hn hc
  have h1 : inT (Int32.ofNat t) = true := inT_of ht
  have hcn := hc
  replace hc : c < 24 := Nat.lt_of_lt_of_le hc hn.2
  intro X Zz K w k
  have q := w.1
  have h : TR X 2 (zG σ) := w.2.1.1
  simp only [w_L_translate, w_X4_translate, q.t1, q.r1_0, q.r1_1, q.t2, q.t14, e_checkTranslation q h, e_checkRange, h0, h1, p0, hty_sI, hln_sI, hR_sI, cnd1, cnd2, b2i_0, b2i_1, b2i_z, if_true, if_false, true_and, and_true, true_implies, false_implies, ne_eq, not_false_eq_true, not_true_eq_false, eq_self, exIA, exIS, exAI, exAS, exSI, exSA, true_or, or_true, false_or, or_false, Nat.reduceEqDiff, Bool.true_and, Bool.and_true, Bool.false_and, Bool.and_false, Bool.true_eq_false, Bool.false_eq_true, i10, i20, i30, vp0, nc0]
  exact k _ w
theorem rf_translate_3 {σ : St} {n : Nat} (i : Inv (zG σ) n) {c t : Nat} (hc : c < n) (ht : t < 3) {l : Nat} (hl1 : 1 ≤ l) (hl2 : l ≤ 60) (p1 : pTk (zG σ) c t = true) : Op (fun X K => w_L_translate 1 (Int32.ofNat c) (Int32.ofNat t) (Int32.ofNat l) X K) σ (-904) σ := by
  have hn := i.cn
  have h0 : inC (zG σ 366) (Int32.ofNat c) = true := inC_of hn hc
  have h1 : inT (Int32.ofNat t) = true := inT_of ht
  have hcn := hc
  replace hc : c < 24 := Nat.lt_of_lt_of_le hc hn.2
  have p0 : inG (Int32.ofNat l) 1 60 = true := inG_of (lo := 1) (hi := 60) hl1 hl2 (by decide)
  intro X Zz K w k
  have q := w.1
  have h : TR X 2 (zG σ) := w.2.1.1
  simp only [w_L_translate, w_X4_translate, q.t1, q.r1_0, q.r1_1, q.t2, q.t14, e_checkTranslation q h, e_checkRange, e_isTaken q h hc ht, h0, h1, p0, p1, hty_sI, hln_sI, hR_sI, cnd1, cnd2, b2i_0, b2i_1, b2i_z, if_true, if_false, true_and, and_true, true_implies, false_implies, ne_eq, not_false_eq_true, not_true_eq_false, eq_self, exIA, exIS, exAI, exAS, exSI, exSA, true_or, or_true, false_or, or_false, Nat.reduceEqDiff, Bool.true_and, Bool.and_true, Bool.false_and, Bool.and_false, Bool.true_eq_false, Bool.false_eq_true, i10, i20, i30, vp0, nc0]
  exact k _ w
theorem ok_translate {σ : St} {n : Nat} (i : Inv (zG σ) n) {c t : Nat} (hc : c < n) (ht : t < 3) {l : Nat} (hl1 : 1 ≤ l) (hl2 : l ≤ 60) (p1 : pTk (zG σ) c t = false)  : Op (fun X K => w_L_translate 1 (Int32.ofNat c) (Int32.ofNat t) (Int32.ofNat l) X K) σ (gRm (upr (upr (zG σ) (13 * c + 4 + t) (Int32.ofNat l)) (13 * c + 7 + t) 0) c t) ((upr (upr (zG σ) (13 * c + 4 + t) (Int32.ofNat l)) (13 * c + 7 + t) 0), (pushS σ).2) := by
  have hn := i.cn
  have h0 : inC (zG σ 366) (Int32.ofNat c) = true := inC_of hn hc
  have h1 : inT (Int32.ofNat t) = true := inT_of ht
  have hcn := hc
  replace hc : c < 24 := Nat.lt_of_lt_of_le hc hn.2
  have p0 : inG (Int32.ofNat l) 1 60 = true := inG_of (lo := 1) (hi := 60) hl1 hl2 (by decide)
  have i' : Inv (upr (upr (zG σ) (13 * c + 4 + t) (Int32.ofNat l)) (13 * c + 7 + t) 0) (n) := by
    refine i.clause hcn (fun k hk => (upr_ne (by omega)).trans (upr_ne (by omega))) ?_
    exact (i.2.1 c hcn).setFA (a := 0) ht (by omega)
  intro X Zz K w k
  have q := w.1
  have h : TR X 2 (zG σ) := w.2.1.1
  simp only [w_L_translate, w_X4_translate, q.t1, q.r1_0, q.r1_1, q.t2, q.t14, e_checkTranslation q h, e_checkRange, e_isTaken q h hc ht, h0, h1, p0, p1, hty_sI, hln_sI, hR_sI, cnd1, cnd2, b2i_0, b2i_1, b2i_z, if_true, if_false, true_and, and_true, true_implies, false_implies, ne_eq, not_false_eq_true, not_true_eq_false, eq_self, exIA, exIS, exAI, exAS, exSI, exSA, true_or, or_true, false_or, or_false, Nat.reduceEqDiff, Bool.true_and, Bool.and_true, Bool.false_and, Bool.and_false, Bool.true_eq_false, Bool.false_eq_true, i10, i20, i30, vp0, nc0]
  refine s_push w (fun X1 w1 => ?_)
  have q1 := w1.1
  have w2 := (w1.pF (v := Int32.ofNat l) hc ht).pA (v := 0) hc ht
  have q2 := w2.1
  have g2 := w2.2.1.1
  simp only [q1.t1, q1.r1_0, q1.t2, e_putTranslation q1 hc ht, e_roomAt q2 g2 hc ht, hty_sI, hln_sI, hR_sI, cnd1, cnd2, b2i_0, b2i_1, b2i_z, if_true, if_false, true_and, and_true, true_implies, false_implies, ne_eq, not_false_eq_true, not_true_eq_false, eq_self, exIA, exIS, exAI, exAS, exSI, exSA, true_or, or_true, false_or, or_false, Nat.reduceEqDiff, Bool.true_and, Bool.and_true, Bool.false_and, Bool.and_false, Bool.true_eq_false, Bool.false_eq_true, i10, i20, i30, vp0, nc0]
  exact k _ w2
theorem iv_translate {σ : St} {n : Nat} (i : Inv (zG σ) n) {c t : Nat} (hc : c < n) (ht : t < 3) {l : Nat} (hl1 : 1 ≤ l) (hl2 : l ≤ 60) (p1 : pTk (zG σ) c t = false)  : Inv (upr (upr (zG σ) (13 * c + 4 + t) (Int32.ofNat l)) (13 * c + 7 + t) 0) (n) := by
  have hn := i.cn
  have hcn := hc
  replace hc : c < 24 := Nat.lt_of_lt_of_le hc hn.2
  refine i.clause hcn (fun k hk => (upr_ne (by omega)).trans (upr_ne (by omega))) ?_
  exact (i.2.1 c hcn).setFA (a := 0) ht (by omega)
theorem rf_annex_0 {σ : St} {n : Nat} (hn : Cn (zG σ) n) {a b e : Int32} (h0 : inC (zG σ 366) a = false) : Op (fun X K => w_L_annex 1 a b e X K) σ (-2) σ := by
  intro X Zz K w k
  have q := w.1
  have h : TR X 2 (zG σ) := w.2.1.1
  simp only [w_L_annex, w_X4_annex, q.t1, q.r1_0, q.r1_1, q.t2, q.t14, e_checkTranslation q h, h0, hty_sI, hln_sI, hR_sI, cnd1, cnd2, b2i_0, b2i_1, b2i_z, if_true, if_false, true_and, and_true, true_implies, false_implies, ne_eq, not_false_eq_true, not_true_eq_false, eq_self, exIA, exIS, exAI, exAS, exSI, exSA, true_or, or_true, false_or, or_false, Nat.reduceEqDiff, Bool.true_and, Bool.and_true, Bool.false_and, Bool.and_false, Bool.true_eq_false, Bool.false_eq_true, i10, i20, i30, vp0, nc0]
  exact k _ w
theorem rf_annex_1 {σ : St} {n : Nat} (hn : Cn (zG σ) n) {a b e : Int32} (h0 : inC (zG σ 366) a = true) (h1 : inT b = false) : Op (fun X K => w_L_annex 1 a b e X K) σ (-2) σ := by
  intro X Zz K w k
  have q := w.1
  have h : TR X 2 (zG σ) := w.2.1.1
  simp only [w_L_annex, w_X4_annex, q.t1, q.r1_0, q.r1_1, q.t2, q.t14, e_checkTranslation q h, h0, h1, hty_sI, hln_sI, hR_sI, cnd1, cnd2, b2i_0, b2i_1, b2i_z, if_true, if_false, true_and, and_true, true_implies, false_implies, ne_eq, not_false_eq_true, not_true_eq_false, eq_self, exIA, exIS, exAI, exAS, exSI, exSA, true_or, or_true, false_or, or_false, Nat.reduceEqDiff, Bool.true_and, Bool.and_true, Bool.false_and, Bool.and_false, Bool.true_eq_false, Bool.false_eq_true, i10, i20, i30, vp0, nc0]
  exact k _ w
theorem rf_annex_2 {σ : St} {n : Nat} (i : Inv (zG σ) n) {e : Int32} {c t : Nat} (hc : c < n) (ht : t < 3) (p0 : inG e 1 59 = false) : Op (fun X K => w_L_annex 1 (Int32.ofNat c) (Int32.ofNat t) e X K) σ (-3) σ := by
  have hn := i.cn
  have h0 : inC (zG σ 366) (Int32.ofNat c) = true := inC_of hn hc
  have h1 : inT (Int32.ofNat t) = true := inT_of ht
  have hcn := hc
  replace hc : c < 24 := Nat.lt_of_lt_of_le hc hn.2
  intro X Zz K w k
  have q := w.1
  have h : TR X 2 (zG σ) := w.2.1.1
  simp only [w_L_annex, w_X4_annex, q.t1, q.r1_0, q.r1_1, q.t2, q.t14, e_checkTranslation q h, e_checkRange, h0, h1, p0, hty_sI, hln_sI, hR_sI, cnd1, cnd2, b2i_0, b2i_1, b2i_z, if_true, if_false, true_and, and_true, true_implies, false_implies, ne_eq, not_false_eq_true, not_true_eq_false, eq_self, exIA, exIS, exAI, exAS, exSI, exSA, true_or, or_true, false_or, or_false, Nat.reduceEqDiff, Bool.true_and, Bool.and_true, Bool.false_and, Bool.and_false, Bool.true_eq_false, Bool.false_eq_true, i10, i20, i30, vp0, nc0]
  exact k _ w
theorem rf_annex_3 {σ : St} {n : Nat} (i : Inv (zG σ) n) {c t : Nat} (hc : c < n) (ht : t < 3) {l : Nat} (hl1 : 1 ≤ l) (hl2 : l ≤ 59) (p1 : pCA (zG σ) n c t (Int32.ofNat l) = false) : Op (fun X K => w_L_annex 1 (Int32.ofNat c) (Int32.ofNat t) (Int32.ofNat l) X K) σ (-4) σ := by
  have hn := i.cn
  have h0 : inC (zG σ 366) (Int32.ofNat c) = true := inC_of hn hc
  have h1 : inT (Int32.ofNat t) = true := inT_of ht
  have hcn := hc
  replace hc : c < 24 := Nat.lt_of_lt_of_le hc hn.2
  have p0 : inG (Int32.ofNat l) 1 59 = true := inG_of (lo := 1) (hi := 59) hl1 hl2 (by decide)
  intro X Zz K w k
  have q := w.1
  have h : TR X 2 (zG σ) := w.2.1.1
  simp only [w_L_annex, w_X4_annex, q.t1, q.r1_0, q.r1_1, q.t2, q.t14, e_checkTranslation q h, e_checkRange, h0, h1, p0, p1, hty_sI, hln_sI, hR_sI, cnd1, cnd2, b2i_0, b2i_1, b2i_z, if_true, if_false, true_and, and_true, true_implies, false_implies, ne_eq, not_false_eq_true, not_true_eq_false, eq_self, exIA, exIS, exAI, exAS, exSI, exSA, true_or, or_true, false_or, or_false, Nat.reduceEqDiff, Bool.true_and, Bool.and_true, Bool.false_and, Bool.and_false, Bool.true_eq_false, Bool.false_eq_true, i10, i20, i30, vp0, nc0]
  refine s_canAnnex q h hn hc ht ?_
  simp only [q.t1, q.r1_0, q.r1_1, q.t2, q.t14, e_checkTranslation q h, e_checkRange, h0, h1, p0, p1, hty_sI, hln_sI, hR_sI, cnd1, cnd2, b2i_0, b2i_1, b2i_z, if_true, if_false, true_and, and_true, true_implies, false_implies, ne_eq, not_false_eq_true, not_true_eq_false, eq_self, exIA, exIS, exAI, exAS, exSI, exSA, true_or, or_true, false_or, or_false, Nat.reduceEqDiff, Bool.true_and, Bool.and_true, Bool.false_and, Bool.and_false, Bool.true_eq_false, Bool.false_eq_true, i10, i20, i30, vp0, nc0]
  exact k _ w
theorem ok_annex {σ : St} {n : Nat} (i : Inv (zG σ) n) {c t : Nat} (hc : c < n) (ht : t < 3) {l : Nat} (hl1 : 1 ≤ l) (hl2 : l ≤ 59) (p1 : pCA (zG σ) n c t (Int32.ofNat l) = true) (pF : Int32.ofNat l < gF (zG σ) c t)  : Op (fun X K => w_L_annex 1 (Int32.ofNat c) (Int32.ofNat t) (Int32.ofNat l) X K) σ (sAnnex (upr (upr (zG σ) (13 * c + 4 + t) (gF (zG σ) c t - Int32.ofNat l)) (13 * c + 7 + t) (gAn (zG σ) c t + Int32.ofNat l)) n t) ((upr (upr (zG σ) (13 * c + 4 + t) (gF (zG σ) c t - Int32.ofNat l)) (13 * c + 7 + t) (gAn (zG σ) c t + Int32.ofNat l)), (pushS σ).2) := by
  have hn := i.cn
  have h0 : inC (zG σ 366) (Int32.ofNat c) = true := inC_of hn hc
  have h1 : inT (Int32.ofNat t) = true := inT_of ht
  have hcn := hc
  replace hc : c < 24 := Nat.lt_of_lt_of_le hc hn.2
  have p0 : inG (Int32.ofNat l) 1 59 = true := inG_of (lo := 1) (hi := 59) hl1 hl2 (by decide)
  obtain ⟨⟨f, a0, hf, eF, eA⟩, -⟩ := (i.2.1 c hcn).2.2.2 t ht
  have i' : Inv (upr (upr (zG σ) (13 * c + 4 + t) (gF (zG σ) c t - Int32.ofNat l)) (13 * c + 7 + t) (gAn (zG σ) c t + Int32.ofNat l)) (n) := by
    refine i.clause hcn (fun k hk => (upr_ne (by omega)).trans (upr_ne (by omega))) ?_
    rw [eF, of_lt (by omega) (by omega)] at pF
    rw [eF, eA, ← Int32.ofNat_sub _ _ (by omega), ← Int32.ofNat_add]
    exact (i.2.1 c hcn).setFA ht (by omega)
  intro X Zz K w k
  have q := w.1
  have h : TR X 2 (zG σ) := w.2.1.1
  simp only [w_L_annex, w_X4_annex, q.t1, q.r1_0, q.r1_1, q.t2, q.t14, e_checkTranslation q h, e_checkRange, h0, h1, p0, p1, hty_sI, hln_sI, hR_sI, cnd1, cnd2, b2i_0, b2i_1, b2i_z, if_true, if_false, true_and, and_true, true_implies, false_implies, ne_eq, not_false_eq_true, not_true_eq_false, eq_self, exIA, exIS, exAI, exAS, exSI, exSA, true_or, or_true, false_or, or_false, Nat.reduceEqDiff, Bool.true_and, Bool.and_true, Bool.false_and, Bool.and_false, Bool.true_eq_false, Bool.false_eq_true, i10, i20, i30, vp0, nc0]
  refine s_canAnnex q h hn hc ht ?_
  simp only [q.t1, q.r1_0, q.r1_1, q.t2, q.t14, e_checkTranslation q h, e_checkRange, h0, h1, p0, p1, hty_sI, hln_sI, hR_sI, cnd1, cnd2, b2i_0, b2i_1, b2i_z, if_true, if_false, true_and, and_true, true_implies, false_implies, ne_eq, not_false_eq_true, not_true_eq_false, eq_self, exIA, exIS, exAI, exAS, exSI, exSA, true_or, or_true, false_or, or_false, Nat.reduceEqDiff, Bool.true_and, Bool.and_true, Bool.false_and, Bool.and_false, Bool.true_eq_false, Bool.false_eq_true, i10, i20, i30, vp0, nc0]
  refine s_push w (fun X1 w1 => ?_)
  have q1 := w1.1
  have g1 : TR X1 2 (zG σ) := w1.2.1.1
  have w2 := (w1.pF (v := gF (zG σ) c t - Int32.ofNat l) hc ht).pA (v := gAn (zG σ) c t + Int32.ofNat l) hc ht
  have q2 := w2.1
  have g2 := w2.2.1.1
  simp only [q1.t1, q1.r1_0, q1.t2, e_framesAt q1 g1 hc ht, e_annexedAt q1 g1 hc ht, e_putTranslation q1 hc ht, hty_sI, hln_sI, hR_sI, cnd1, cnd2, b2i_0, b2i_1, b2i_z, if_true, if_false, true_and, and_true, true_implies, false_implies, ne_eq, not_false_eq_true, not_true_eq_false, eq_self, exIA, exIS, exAI, exAS, exSI, exSA, true_or, or_true, false_or, or_false, Nat.reduceEqDiff, Bool.true_and, Bool.and_true, Bool.false_and, Bool.and_false, Bool.true_eq_false, Bool.false_eq_true, i10, i20, i30, vp0, nc0]
  exact s_annexTotal q2 g2 i'.cn ht (k _ w2)
theorem iv_annex {σ : St} {n : Nat} (i : Inv (zG σ) n) {c t : Nat} (hc : c < n) (ht : t < 3) {l : Nat} (hl1 : 1 ≤ l) (hl2 : l ≤ 59) (p1 : pCA (zG σ) n c t (Int32.ofNat l) = true) (pF : Int32.ofNat l < gF (zG σ) c t)  : Inv (upr (upr (zG σ) (13 * c + 4 + t) (gF (zG σ) c t - Int32.ofNat l)) (13 * c + 7 + t) (gAn (zG σ) c t + Int32.ofNat l)) (n) := by
  have hn := i.cn
  have hcn := hc
  replace hc : c < 24 := Nat.lt_of_lt_of_le hc hn.2
  obtain ⟨⟨f, a0, hf, eF, eA⟩, -⟩ := (i.2.1 c hcn).2.2.2 t ht
  refine i.clause hcn (fun k hk => (upr_ne (by omega)).trans (upr_ne (by omega))) ?_
  rw [eF, of_lt (by omega) (by omega)] at pF
  rw [eF, eA, ← Int32.ofNat_sub _ _ (by omega), ← Int32.ofNat_add]
  exact (i.2.1 c hcn).setFA ht (by omega)
theorem rf_bringBack_0 {σ : St} {n : Nat} (hn : Cn (zG σ) n) {a b : Int32} (h0 : inC (zG σ 366) a = false) : Op (fun X K => w_L_bringBack 1 a b X K) σ (-2) σ := by
  intro X Zz K w k
  have q := w.1
  have h : TR X 2 (zG σ) := w.2.1.1
  simp only [w_L_bringBack, w_X4_bringBack, q.t1, q.r1_0, q.r1_1, q.t2, q.t14, e_checkTranslation q h, h0, hty_sI, hln_sI, hR_sI, cnd1, cnd2, b2i_0, b2i_1, b2i_z, if_true, if_false, true_and, and_true, true_implies, false_implies, ne_eq, not_false_eq_true, not_true_eq_false, eq_self, exIA, exIS, exAI, exAS, exSI, exSA, true_or, or_true, false_or, or_false, Nat.reduceEqDiff, Bool.true_and, Bool.and_true, Bool.false_and, Bool.and_false, Bool.true_eq_false, Bool.false_eq_true, i10, i20, i30, vp0, nc0]
  exact k _ w
theorem rf_bringBack_1 {σ : St} {n : Nat} (hn : Cn (zG σ) n) {a b : Int32} (h0 : inC (zG σ 366) a = true) (h1 : inT b = false) : Op (fun X K => w_L_bringBack 1 a b X K) σ (-2) σ := by
  intro X Zz K w k
  have q := w.1
  have h : TR X 2 (zG σ) := w.2.1.1
  simp only [w_L_bringBack, w_X4_bringBack, q.t1, q.r1_0, q.r1_1, q.t2, q.t14, e_checkTranslation q h, h0, h1, hty_sI, hln_sI, hR_sI, cnd1, cnd2, b2i_0, b2i_1, b2i_z, if_true, if_false, true_and, and_true, true_implies, false_implies, ne_eq, not_false_eq_true, not_true_eq_false, eq_self, exIA, exIS, exAI, exAS, exSI, exSA, true_or, or_true, false_or, or_false, Nat.reduceEqDiff, Bool.true_and, Bool.and_true, Bool.false_and, Bool.and_false, Bool.true_eq_false, Bool.false_eq_true, i10, i20, i30, vp0, nc0]
  exact k _ w
theorem rf_bringBack_2 {σ : St} {n : Nat} (i : Inv (zG σ) n) {c t : Nat} (hc : c < n) (ht : t < 3) (p1 : gAn (zG σ) c t = 0) : Op (fun X K => w_L_bringBack 1 (Int32.ofNat c) (Int32.ofNat t) X K) σ (-4) σ := by
  have hn := i.cn
  have h0 : inC (zG σ 366) (Int32.ofNat c) = true := inC_of hn hc
  have h1 : inT (Int32.ofNat t) = true := inT_of ht
  have hcn := hc
  replace hc : c < 24 := Nat.lt_of_lt_of_le hc hn.2
  intro X Zz K w k
  have q := w.1
  have h : TR X 2 (zG σ) := w.2.1.1
  simp only [w_L_bringBack, w_X4_bringBack, q.t1, q.r1_0, q.r1_1, q.t2, q.t14, e_checkTranslation q h, e_annexedAt q h hc ht, h0, h1, p1, hty_sI, hln_sI, hR_sI, cnd1, cnd2, b2i_0, b2i_1, b2i_z, if_true, if_false, true_and, and_true, true_implies, false_implies, ne_eq, not_false_eq_true, not_true_eq_false, eq_self, exIA, exIS, exAI, exAS, exSI, exSA, true_or, or_true, false_or, or_false, Nat.reduceEqDiff, Bool.true_and, Bool.and_true, Bool.false_and, Bool.and_false, Bool.true_eq_false, Bool.false_eq_true, i10, i20, i30, vp0, nc0]
  exact k _ w
theorem rf_bringBack_3 {σ : St} {n : Nat} (i : Inv (zG σ) n) {c t : Nat} (hc : c < n) (ht : t < 3) (p1 : ¬ (gAn (zG σ) c t = 0)) (p2 : pTk (zG σ) c t = true) : Op (fun X K => w_L_bringBack 1 (Int32.ofNat c) (Int32.ofNat t) X K) σ (-4) σ := by
  have hn := i.cn
  have h0 : inC (zG σ 366) (Int32.ofNat c) = true := inC_of hn hc
  have h1 : inT (Int32.ofNat t) = true := inT_of ht
  have hcn := hc
  replace hc : c < 24 := Nat.lt_of_lt_of_le hc hn.2
  intro X Zz K w k
  have q := w.1
  have h : TR X 2 (zG σ) := w.2.1.1
  simp only [w_L_bringBack, w_X4_bringBack, q.t1, q.r1_0, q.r1_1, q.t2, q.t14, e_checkTranslation q h, e_annexedAt q h hc ht, e_isTaken q h hc ht, h0, h1, p1, p2, hty_sI, hln_sI, hR_sI, cnd1, cnd2, b2i_0, b2i_1, b2i_z, if_true, if_false, true_and, and_true, true_implies, false_implies, ne_eq, not_false_eq_true, not_true_eq_false, eq_self, exIA, exIS, exAI, exAS, exSI, exSA, true_or, or_true, false_or, or_false, Nat.reduceEqDiff, Bool.true_and, Bool.and_true, Bool.false_and, Bool.and_false, Bool.true_eq_false, Bool.false_eq_true, i10, i20, i30, vp0, nc0]
  exact k _ w
theorem ok_bringBack {σ : St} {n : Nat} (i : Inv (zG σ) n) {c t : Nat} (hc : c < n) (ht : t < 3) (p1 : ¬ (gAn (zG σ) c t = 0)) (p2 : pTk (zG σ) c t = false)  : Op (fun X K => w_L_bringBack 1 (Int32.ofNat c) (Int32.ofNat t) X K) σ (gAn (zG σ) c t) ((upr (upr (zG σ) (13 * c + 4 + t) (gF (zG σ) c t + gAn (zG σ) c t)) (13 * c + 7 + t) 0), (pushS σ).2) := by
  have hn := i.cn
  have h0 : inC (zG σ 366) (Int32.ofNat c) = true := inC_of hn hc
  have h1 : inT (Int32.ofNat t) = true := inT_of ht
  have hcn := hc
  replace hc : c < 24 := Nat.lt_of_lt_of_le hc hn.2
  obtain ⟨⟨f, a0, hf, eF, eA⟩, -⟩ := (i.2.1 c hcn).2.2.2 t ht
  have i' : Inv (upr (upr (zG σ) (13 * c + 4 + t) (gF (zG σ) c t + gAn (zG σ) c t)) (13 * c + 7 + t) 0) (n) := by
    refine i.clause hcn (fun k hk => (upr_ne (by omega)).trans (upr_ne (by omega))) ?_
    rw [eF, eA, ← Int32.ofNat_add]
    exact (i.2.1 c hcn).setFA (a := 0) ht (by omega)
  intro X Zz K w k
  have q := w.1
  have h : TR X 2 (zG σ) := w.2.1.1
  simp only [w_L_bringBack, w_X4_bringBack, q.t1, q.r1_0, q.r1_1, q.t2, q.t14, e_checkTranslation q h, e_annexedAt q h hc ht, e_isTaken q h hc ht, h0, h1, p1, p2, hty_sI, hln_sI, hR_sI, cnd1, cnd2, b2i_0, b2i_1, b2i_z, if_true, if_false, true_and, and_true, true_implies, false_implies, ne_eq, not_false_eq_true, not_true_eq_false, eq_self, exIA, exIS, exAI, exAS, exSI, exSA, true_or, or_true, false_or, or_false, Nat.reduceEqDiff, Bool.true_and, Bool.and_true, Bool.false_and, Bool.and_false, Bool.true_eq_false, Bool.false_eq_true, i10, i20, i30, vp0, nc0]
  refine s_push w (fun X1 w1 => ?_)
  have q1 := w1.1
  have g1 : TR X1 2 (zG σ) := w1.2.1.1
  have w2 := (w1.pF (v := gF (zG σ) c t + gAn (zG σ) c t) hc ht).pA (v := 0) hc ht
  simp only [q1.t1, q1.r1_0, q1.t2, e_framesAt q1 g1 hc ht, e_putTranslation q1 hc ht, hty_sI, hln_sI, hR_sI, cnd1, cnd2, b2i_0, b2i_1, b2i_z, if_true, if_false, true_and, and_true, true_implies, false_implies, ne_eq, not_false_eq_true, not_true_eq_false, eq_self, exIA, exIS, exAI, exAS, exSI, exSA, true_or, or_true, false_or, or_false, Nat.reduceEqDiff, Bool.true_and, Bool.and_true, Bool.false_and, Bool.and_false, Bool.true_eq_false, Bool.false_eq_true, i10, i20, i30, vp0, nc0]
  exact k _ w2
theorem iv_bringBack {σ : St} {n : Nat} (i : Inv (zG σ) n) {c t : Nat} (hc : c < n) (ht : t < 3) (p1 : ¬ (gAn (zG σ) c t = 0)) (p2 : pTk (zG σ) c t = false)  : Inv (upr (upr (zG σ) (13 * c + 4 + t) (gF (zG σ) c t + gAn (zG σ) c t)) (13 * c + 7 + t) 0) (n) := by
  have hn := i.cn
  have hcn := hc
  replace hc : c < 24 := Nat.lt_of_lt_of_le hc hn.2
  obtain ⟨⟨f, a0, hf, eF, eA⟩, -⟩ := (i.2.1 c hcn).2.2.2 t ht
  refine i.clause hcn (fun k hk => (upr_ne (by omega)).trans (upr_ne (by omega))) ?_
  rw [eF, eA, ← Int32.ofNat_add]
  exact (i.2.1 c hcn).setFA (a := 0) ht (by omega)
theorem rf_cast_0 {σ : St} {n : Nat} {a b e : Int32} (h0 : inS a = false) : Op (fun X K => w_L_cast 1 a b e X K) σ (-2) σ := by
  intro X Zz K w k
  have q := w.1
  have h : TR X 2 (zG σ) := w.2.1.1
  simp only [w_L_cast, w_X4_cast, q.t1, q.r1_0, q.r1_1, q.t2, q.t14, e_checkVoice, h0, hty_sI, hln_sI, hR_sI, cnd1, cnd2, b2i_0, b2i_1, b2i_z, if_true, if_false, true_and, and_true, true_implies, false_implies, ne_eq, not_false_eq_true, not_true_eq_false, eq_self, exIA, exIS, exAI, exAS, exSI, exSA, true_or, or_true, false_or, or_false, Nat.reduceEqDiff, Bool.true_and, Bool.and_true, Bool.false_and, Bool.and_false, Bool.true_eq_false, Bool.false_eq_true, i10, i20, i30, vp0, nc0]
  exact k _ w
theorem rf_cast_1 {σ : St} {n : Nat} {a b e : Int32} (h0 : inS a = true) (h1 : inT b = false) : Op (fun X K => w_L_cast 1 a b e X K) σ (-2) σ := by
  intro X Zz K w k
  have q := w.1
  have h : TR X 2 (zG σ) := w.2.1.1
  simp only [w_L_cast, w_X4_cast, q.t1, q.r1_0, q.r1_1, q.t2, q.t14, e_checkVoice, h0, h1, hty_sI, hln_sI, hR_sI, cnd1, cnd2, b2i_0, b2i_1, b2i_z, if_true, if_false, true_and, and_true, true_implies, false_implies, ne_eq, not_false_eq_true, not_true_eq_false, eq_self, exIA, exIS, exAI, exAS, exSI, exSA, true_or, or_true, false_or, or_false, Nat.reduceEqDiff, Bool.true_and, Bool.and_true, Bool.false_and, Bool.and_false, Bool.true_eq_false, Bool.false_eq_true, i10, i20, i30, vp0, nc0]
  exact k _ w
theorem rf_cast_2 {σ : St} {n : Nat} (i : Inv (zG σ) n) {e : Int32} {s t : Nat} (hs : s < 5) (ht : t < 3) (p0 : inG e 20 120 = false) : Op (fun X K => w_L_cast 1 (Int32.ofNat s) (Int32.ofNat t) e X K) σ (-3) σ := by
  have hn := i.cn
  have h0 : inS (Int32.ofNat s) = true := inS_of hs
  have h1 : inT (Int32.ofNat t) = true := inT_of ht
  intro X Zz K w k
  have q := w.1
  have h : TR X 2 (zG σ) := w.2.1.1
  simp only [w_L_cast, w_X4_cast, q.t1, q.r1_0, q.r1_1, q.t2, q.t14, e_checkVoice, e_checkRange, h0, h1, p0, hty_sI, hln_sI, hR_sI, cnd1, cnd2, b2i_0, b2i_1, b2i_z, if_true, if_false, true_and, and_true, true_implies, false_implies, ne_eq, not_false_eq_true, not_true_eq_false, eq_self, exIA, exIS, exAI, exAS, exSI, exSA, true_or, or_true, false_or, or_false, Nat.reduceEqDiff, Bool.true_and, Bool.and_true, Bool.false_and, Bool.and_false, Bool.true_eq_false, Bool.false_eq_true, i10, i20, i30, vp0, nc0]
  exact k _ w
theorem rf_cast_3 {σ : St} {n : Nat} (i : Inv (zG σ) n) {s t : Nat} (hs : s < 5) (ht : t < 3) {l : Nat} (hl1 : 20 ≤ l) (hl2 : l ≤ 120) (p1 : ¬ (gU (zG σ) s t ≤ Int32.ofNat l)) : Op (fun X K => w_L_cast 1 (Int32.ofNat s) (Int32.ofNat t) (Int32.ofNat l) X K) σ (-4) σ := by
  have hn := i.cn
  have h0 : inS (Int32.ofNat s) = true := inS_of hs
  have h1 : inT (Int32.ofNat t) = true := inT_of ht
  have p0 : inG (Int32.ofNat l) 20 120 = true := inG_of (lo := 20) (hi := 120) hl1 hl2 (by decide)
  have p1' : Int32.ofNat l < gU (zG σ) s t := Int32.not_le.mp p1
  intro X Zz K w k
  have q := w.1
  have h : TR X 2 (zG σ) := w.2.1.1
  simp only [w_L_cast, w_X4_cast, q.t1, q.r1_0, q.r1_1, q.t2, q.t14, e_checkVoice, e_checkRange, e_usedBy q h hs ht, h0, h1, p0, p1, p1', hty_sI, hln_sI, hR_sI, cnd1, cnd2, b2i_0, b2i_1, b2i_z, if_true, if_false, true_and, and_true, true_implies, false_implies, ne_eq, not_false_eq_true, not_true_eq_false, eq_self, exIA, exIS, exAI, exAS, exSI, exSA, true_or, or_true, false_or, or_false, Nat.reduceEqDiff, Bool.true_and, Bool.and_true, Bool.false_and, Bool.and_false, Bool.true_eq_false, Bool.false_eq_true, i10, i20, i30, vp0, nc0]
  exact k _ w
theorem ok_cast {σ : St} {n : Nat} (i : Inv (zG σ) n) {s t : Nat} (hs : s < 5) (ht : t < 3) {l : Nat} (hl1 : 20 ≤ l) (hl2 : l ≤ 120) (p1 : gU (zG σ) s t ≤ Int32.ofNat l)  : Op (fun X K => w_L_cast 1 (Int32.ofNat s) (Int32.ofNat t) (Int32.ofNat l) X K) σ (gSt (zG σ) s t) ((upr (zG σ) (312 + (3 * s + t)) (Int32.ofNat l)), (pushS σ).2) := by
  have hn := i.cn
  have h0 : inS (Int32.ofNat s) = true := inS_of hs
  have h1 : inT (Int32.ofNat t) = true := inT_of ht
  have p0 : inG (Int32.ofNat l) 20 120 = true := inG_of (lo := 20) (hi := 120) hl1 hl2 (by decide)
  have p1' : ¬ (Int32.ofNat l < gU (zG σ) s t) := Int32.not_lt.mpr p1
  have i' : Inv (upr (zG σ) (312 + (3 * s + t)) (Int32.ofNat l)) (n) := by
    obtain ⟨x, u, g1, g2, g3, e1, e2⟩ := i.2.2.2.1 s hs t ht
    rw [e2, of_le (by omega) (by omega)] at p1
    exact i.setSt hs ht hl1 hl2 p1 e2
  intro X Zz K w k
  have q := w.1
  have h : TR X 2 (zG σ) := w.2.1.1
  simp only [w_L_cast, w_X4_cast, q.t1, q.r1_0, q.r1_1, q.t2, q.t14, e_checkVoice, e_checkRange, e_usedBy q h hs ht, h0, h1, p0, p1, p1', hty_sI, hln_sI, hR_sI, cnd1, cnd2, b2i_0, b2i_1, b2i_z, if_true, if_false, true_and, and_true, true_implies, false_implies, ne_eq, not_false_eq_true, not_true_eq_false, eq_self, exIA, exIS, exAI, exAS, exSI, exSA, true_or, or_true, false_or, or_false, Nat.reduceEqDiff, Bool.true_and, Bool.and_true, Bool.false_and, Bool.and_false, Bool.true_eq_false, Bool.false_eq_true, i10, i20, i30, vp0, nc0]
  refine s_push w (fun X1 w1 => ?_)
  have q1 := w1.1
  have g1 : TR X1 2 (zG σ) := w1.2.1.1
  simp only [q1.t1, q1.r1_0, q1.t2, e_staminaAt q1 g1 hs ht, e_putStamina q1 hs ht, hty_sI, hln_sI, hR_sI, cnd1, cnd2, b2i_0, b2i_1, b2i_z, if_true, if_false, true_and, and_true, true_implies, false_implies, ne_eq, not_false_eq_true, not_true_eq_false, eq_self, exIA, exIS, exAI, exAS, exSI, exSA, true_or, or_true, false_or, or_false, Nat.reduceEqDiff, Bool.true_and, Bool.and_true, Bool.false_and, Bool.and_false, Bool.true_eq_false, Bool.false_eq_true, i10, i20, i30, vp0, nc0]
  exact k _ (w1.pSt hs ht)
theorem iv_cast {σ : St} {n : Nat} (i : Inv (zG σ) n) {s t : Nat} (hs : s < 5) (ht : t < 3) {l : Nat} (hl1 : 20 ≤ l) (hl2 : l ≤ 120) (p1 : gU (zG σ) s t ≤ Int32.ofNat l)  : Inv (upr (zG σ) (312 + (3 * s + t)) (Int32.ofNat l)) (n) := by
  have hn := i.cn
  have p1' : ¬ (Int32.ofNat l < gU (zG σ) s t) := Int32.not_lt.mpr p1
  obtain ⟨x, u, g1, g2, g3, e1, e2⟩ := i.2.2.2.1 s hs t ht
  rw [e2, of_le (by omega) (by omega)] at p1
  exact i.setSt hs ht hl1 hl2 p1 e2
theorem rf_recordIt_0 {σ : St} {n : Nat} (hn : Cn (zG σ) n) {a b : Int32} (h0 : inC (zG σ 366) a = false) : Op (fun X K => w_L_recordIt 1 a b X K) σ (-2) σ := by
  intro X Zz K w k
  have q := w.1
  have h : TR X 2 (zG σ) := w.2.1.1
  simp only [w_L_recordIt, w_X4_record, q.t1, q.r1_0, q.r1_1, q.t2, q.t14, e_checkTranslation q h, h0, hty_sI, hln_sI, hR_sI, cnd1, cnd2, b2i_0, b2i_1, b2i_z, if_true, if_false, true_and, and_true, true_implies, false_implies, ne_eq, not_false_eq_true, not_true_eq_false, eq_self, exIA, exIS, exAI, exAS, exSI, exSA, true_or, or_true, false_or, or_false, Nat.reduceEqDiff, Bool.true_and, Bool.and_true, Bool.false_and, Bool.and_false, Bool.true_eq_false, Bool.false_eq_true, i10, i20, i30, vp0, nc0]
  exact k _ w
theorem rf_recordIt_1 {σ : St} {n : Nat} (hn : Cn (zG σ) n) {a b : Int32} (h0 : inC (zG σ 366) a = true) (h1 : inT b = false) : Op (fun X K => w_L_recordIt 1 a b X K) σ (-2) σ := by
  intro X Zz K w k
  have q := w.1
  have h : TR X 2 (zG σ) := w.2.1.1
  simp only [w_L_recordIt, w_X4_record, q.t1, q.r1_0, q.r1_1, q.t2, q.t14, e_checkTranslation q h, h0, h1, hty_sI, hln_sI, hR_sI, cnd1, cnd2, b2i_0, b2i_1, b2i_z, if_true, if_false, true_and, and_true, true_implies, false_implies, ne_eq, not_false_eq_true, not_true_eq_false, eq_self, exIA, exIS, exAI, exAS, exSI, exSA, true_or, or_true, false_or, or_false, Nat.reduceEqDiff, Bool.true_and, Bool.and_true, Bool.false_and, Bool.and_false, Bool.true_eq_false, Bool.false_eq_true, i10, i20, i30, vp0, nc0]
  exact k _ w
theorem rf_recordIt_2 {σ : St} {n : Nat} (i : Inv (zG σ) n) {c t : Nat} (hc : c < n) (ht : t < 3) (p1 : ¬ (gRs (zG σ) c t = 0)) : Op (fun X K => w_L_recordIt 1 (Int32.ofNat c) (Int32.ofNat t) X K) σ (-4) σ := by
  have hn := i.cn
  have h0 : inC (zG σ 366) (Int32.ofNat c) = true := inC_of hn hc
  have h1 : inT (Int32.ofNat t) = true := inT_of ht
  have hcn := hc
  replace hc : c < 24 := Nat.lt_of_lt_of_le hc hn.2
  intro X Zz K w k
  have q := w.1
  have h : TR X 2 (zG σ) := w.2.1.1
  simp only [w_L_recordIt, w_X4_record, q.t1, q.r1_0, q.r1_1, q.t2, q.t14, e_checkTranslation q h, e_reasonAt q h hc ht (i.S c hcn), h0, h1, p1, hty_sI, hln_sI, hR_sI, cnd1, cnd2, b2i_0, b2i_1, b2i_z, if_true, if_false, true_and, and_true, true_implies, false_implies, ne_eq, not_false_eq_true, not_true_eq_false, eq_self, exIA, exIS, exAI, exAS, exSI, exSA, true_or, or_true, false_or, or_false, Nat.reduceEqDiff, Bool.true_and, Bool.and_true, Bool.false_and, Bool.and_false, Bool.true_eq_false, Bool.false_eq_true, i10, i20, i30, vp0, nc0]
  exact k _ w
theorem ok_recordIt {σ : St} {n : Nat} (i : Inv (zG σ) n) {c t : Nat} (hc : c < n) (ht : t < 3) (p1 : gRs (zG σ) c t = 0) {s : Nat} (hs : s < 5) (eS : gS (zG σ) c = Int32.ofNat s) : Op (fun X K => w_L_recordIt 1 (Int32.ofNat c) (Int32.ofNat t) X K) σ (gSn (takeG (zG σ) c t s) s t) ((takeG (zG σ) c t s), (pushS σ).2) := by
  have hn := i.cn
  have h0 : inC (zG σ 366) (Int32.ofNat c) = true := inC_of hn hc
  have h1 : inT (Int32.ofNat t) = true := inT_of ht
  have hcn := hc
  replace hc : c < 24 := Nat.lt_of_lt_of_le hc hn.2
  have i' : Inv (takeG (zG σ) c t s) (n) := by
    exact takeG_inv i hcn ht hs eS p1
  intro X Zz K w k
  have q := w.1
  have h : TR X 2 (zG σ) := w.2.1.1
  simp only [w_L_recordIt, w_X4_record, q.t1, q.r1_0, q.r1_1, q.t2, q.t14, e_checkTranslation q h, e_reasonAt q h hc ht (i.S c hcn), h0, h1, p1, hty_sI, hln_sI, hR_sI, cnd1, cnd2, b2i_0, b2i_1, b2i_z, if_true, if_false, true_and, and_true, true_implies, false_implies, ne_eq, not_false_eq_true, not_true_eq_false, eq_self, exIA, exIS, exAI, exAS, exSI, exSA, true_or, or_true, false_or, or_false, Nat.reduceEqDiff, Bool.true_and, Bool.and_true, Bool.false_and, Bool.and_false, Bool.true_eq_false, Bool.false_eq_true, i10, i20, i30, vp0, nc0]
  refine s_push w (fun X1 w1 => ?_)
  have q1 := w1.1
  have g1 : TR X1 2 (zG σ) := w1.2.1.1
  have w2 := ((w1.pU (v := gU (zG σ) s t + gB (zG σ) c t) hs ht).pT (v := zG σ 367 + 1) hc ht).p13 (v := zG σ 368 + 1)
  have q2 := w2.1
  have g2 : TR _ 2 (takeG (zG σ) c t s) := w2.2.1.1
  have eS2 : gS (takeG (zG σ) c t s) c = Int32.ofNat s := (takeG_S hc ht hs).trans eS
  simp only [q1.t1, q1.r1_0, q1.t2, e_take q1 g1 hc ht hs eS, e_speakerAt q2 g2 hc, eS2, e_strengthAt q2 g2 hs ht, hty_sI, hln_sI, hR_sI, cnd1, cnd2, b2i_0, b2i_1, b2i_z, if_true, if_false, true_and, and_true, true_implies, false_implies, ne_eq, not_false_eq_true, not_true_eq_false, eq_self, exIA, exIS, exAI, exAS, exSI, exSA, true_or, or_true, false_or, or_false, Nat.reduceEqDiff, Bool.true_and, Bool.and_true, Bool.false_and, Bool.and_false, Bool.true_eq_false, Bool.false_eq_true, i10, i20, i30, vp0, nc0]
  exact k _ w2
theorem iv_recordIt {σ : St} {n : Nat} (i : Inv (zG σ) n) {c t : Nat} (hc : c < n) (ht : t < 3) (p1 : gRs (zG σ) c t = 0) {s : Nat} (hs : s < 5) (eS : gS (zG σ) c = Int32.ofNat s) : Inv (takeG (zG σ) c t s) (n) := by
  have hn := i.cn
  have hcn := hc
  replace hc : c < 24 := Nat.lt_of_lt_of_le hc hn.2
  exact takeG_inv i hcn ht hs eS p1
theorem rf_wipe_0 {σ : St} {n : Nat} (hn : Cn (zG σ) n) {a b : Int32} (h0 : inC (zG σ 366) a = false) : Op (fun X K => w_L_wipe 1 a b X K) σ (-2) σ := by
  intro X Zz K w k
  have q := w.1
  have h : TR X 2 (zG σ) := w.2.1.1
  simp only [w_L_wipe, w_X4_wipe, q.t1, q.r1_0, q.r1_1, q.t2, q.t14, e_checkTranslation q h, h0, hty_sI, hln_sI, hR_sI, cnd1, cnd2, b2i_0, b2i_1, b2i_z, if_true, if_false, true_and, and_true, true_implies, false_implies, ne_eq, not_false_eq_true, not_true_eq_false, eq_self, exIA, exIS, exAI, exAS, exSI, exSA, true_or, or_true, false_or, or_false, Nat.reduceEqDiff, Bool.true_and, Bool.and_true, Bool.false_and, Bool.and_false, Bool.true_eq_false, Bool.false_eq_true, i10, i20, i30, vp0, nc0]
  exact k _ w
theorem rf_wipe_1 {σ : St} {n : Nat} (hn : Cn (zG σ) n) {a b : Int32} (h0 : inC (zG σ 366) a = true) (h1 : inT b = false) : Op (fun X K => w_L_wipe 1 a b X K) σ (-2) σ := by
  intro X Zz K w k
  have q := w.1
  have h : TR X 2 (zG σ) := w.2.1.1
  simp only [w_L_wipe, w_X4_wipe, q.t1, q.r1_0, q.r1_1, q.t2, q.t14, e_checkTranslation q h, h0, h1, hty_sI, hln_sI, hR_sI, cnd1, cnd2, b2i_0, b2i_1, b2i_z, if_true, if_false, true_and, and_true, true_implies, false_implies, ne_eq, not_false_eq_true, not_true_eq_false, eq_self, exIA, exIS, exAI, exAS, exSI, exSA, true_or, or_true, false_or, or_false, Nat.reduceEqDiff, Bool.true_and, Bool.and_true, Bool.false_and, Bool.and_false, Bool.true_eq_false, Bool.false_eq_true, i10, i20, i30, vp0, nc0]
  exact k _ w
theorem rf_wipe_2 {σ : St} {n : Nat} (i : Inv (zG σ) n) {c t : Nat} (hc : c < n) (ht : t < 3) (p1 : pTk (zG σ) c t = false) : Op (fun X K => w_L_wipe 1 (Int32.ofNat c) (Int32.ofNat t) X K) σ (-4) σ := by
  have hn := i.cn
  have h0 : inC (zG σ 366) (Int32.ofNat c) = true := inC_of hn hc
  have h1 : inT (Int32.ofNat t) = true := inT_of ht
  have hcn := hc
  replace hc : c < 24 := Nat.lt_of_lt_of_le hc hn.2
  intro X Zz K w k
  have q := w.1
  have h : TR X 2 (zG σ) := w.2.1.1
  simp only [w_L_wipe, w_X4_wipe, q.t1, q.r1_0, q.r1_1, q.t2, q.t14, e_checkTranslation q h, e_checkTaken q h hc ht, h0, h1, p1, hty_sI, hln_sI, hR_sI, cnd1, cnd2, b2i_0, b2i_1, b2i_z, if_true, if_false, true_and, and_true, true_implies, false_implies, ne_eq, not_false_eq_true, not_true_eq_false, eq_self, exIA, exIS, exAI, exAS, exSI, exSA, true_or, or_true, false_or, or_false, Nat.reduceEqDiff, Bool.true_and, Bool.and_true, Bool.false_and, Bool.and_false, Bool.true_eq_false, Bool.false_eq_true, i10, i20, i30, vp0, nc0]
  exact k _ w
theorem ok_wipe {σ : St} {n : Nat} (i : Inv (zG σ) n) {c t : Nat} (hc : c < n) (ht : t < 3) (p1 : pTk (zG σ) c t = true) {r : Nat} (hr : r < 4) (eR : gR (zG σ) c = Int32.ofNat r) : Op (fun X K => w_L_wipe 1 (Int32.ofNat c) (Int32.ofNat t) X K) σ (gT (zG σ) c t - 1) ((unm (upr (upr (zG σ) (13 * c + 10 + t) 0) 369 (zG σ 369 + 1)) r t), (pushS σ).2) := by
  have hn := i.cn
  have h0 : inC (zG σ 366) (Int32.ofNat c) = true := inC_of hn hc
  have h1 : inT (Int32.ofNat t) = true := inT_of ht
  have hcn := hc
  replace hc : c < 24 := Nat.lt_of_lt_of_le hc hn.2
  have i' : Inv (unm (upr (upr (zG σ) (13 * c + 10 + t) 0) 369 (zG σ 369 + 1)) r t) (n) := by
    refine Inv.unm ?_ hr ht
    refine Inv.acc8 ?_ (by decide)
    exact i.clause hcn (fun k hk => upr_ne (by omega)) ((i.2.1 c hcn).setT (f := 0) ht (by decide))
  intro X Zz K w k
  have q := w.1
  have h : TR X 2 (zG σ) := w.2.1.1
  simp only [w_L_wipe, w_X4_wipe, q.t1, q.r1_0, q.r1_1, q.t2, q.t14, e_checkTranslation q h, e_checkTaken q h hc ht, h0, h1, p1, hty_sI, hln_sI, hR_sI, cnd1, cnd2, b2i_0, b2i_1, b2i_z, if_true, if_false, true_and, and_true, true_implies, false_implies, ne_eq, not_false_eq_true, not_true_eq_false, eq_self, exIA, exIS, exAI, exAS, exSI, exSA, true_or, or_true, false_or, or_false, Nat.reduceEqDiff, Bool.true_and, Bool.and_true, Bool.false_and, Bool.and_false, Bool.true_eq_false, Bool.false_eq_true, i10, i20, i30, vp0, nc0]
  refine s_push w (fun X1 w1 => ?_)
  have q1 := w1.1
  have g1 : TR X1 2 (zG σ) := w1.2.1.1
  have w2 := (((w1.pT (v := 0) hc ht).p14 (v := zG σ 369 + 1)).pM (v := 0) hr ht).pZ (v := 0) hr ht
  simp only [q1.t1, q1.r1_0, q1.t2, e_takenIn q1 g1 hc ht, e_dropTaken q1 g1 hc ht hr eR, hty_sI, hln_sI, hR_sI, cnd1, cnd2, b2i_0, b2i_1, b2i_z, if_true, if_false, true_and, and_true, true_implies, false_implies, ne_eq, not_false_eq_true, not_true_eq_false, eq_self, exIA, exIS, exAI, exAS, exSI, exSA, true_or, or_true, false_or, or_false, Nat.reduceEqDiff, Bool.true_and, Bool.and_true, Bool.false_and, Bool.and_false, Bool.true_eq_false, Bool.false_eq_true, i10, i20, i30, vp0, nc0]
  exact k _ w2
theorem iv_wipe {σ : St} {n : Nat} (i : Inv (zG σ) n) {c t : Nat} (hc : c < n) (ht : t < 3) (p1 : pTk (zG σ) c t = true) {r : Nat} (hr : r < 4) (eR : gR (zG σ) c = Int32.ofNat r) : Inv (unm (upr (upr (zG σ) (13 * c + 10 + t) 0) 369 (zG σ 369 + 1)) r t) (n) := by
  have hn := i.cn
  have hcn := hc
  replace hc : c < 24 := Nat.lt_of_lt_of_le hc hn.2
  refine Inv.unm ?_ hr ht
  refine Inv.acc8 ?_ (by decide)
  exact i.clause hcn (fun k hk => upr_ne (by omega)) ((i.2.1 c hcn).setT (f := 0) ht (by decide))
theorem rf_nextSession_0 {σ : St} {n : Nat} (i : Inv (zG σ) n) {e : Nat} (he : ¬ (e < 999)) (he2 : e ≤ 999) (eE : zG σ 367 = Int32.ofNat e) : Op (fun X K => w_L_nextSession 1 X K) σ (-4) σ := by
  intro X Zz K w k
  have q := w.1
  have h : TR X 2 (zG σ) := w.2.1.1
  have e9 : e = 999 := by omega
  have f1 : ((999 : Int32) ≤ Int32.ofNat e) = True := by rw [e9]; decide
  have f2 : (Int32.ofNat e < 999) = False := by rw [e9]; decide
  simp only [w_L_nextSession, w_X4_nextSession, q.t1, q.r1_0, q.r1_1, q.t2, q.t14, show hI X 2 12 = Int32.ofNat e from (h 0 12 rfl).trans eE, f1, f2, hty_sI, hln_sI, hR_sI, cnd1, cnd2, b2i_0, b2i_1, b2i_z, if_true, if_false, true_and, and_true, true_implies, false_implies, ne_eq, not_false_eq_true, not_true_eq_false, eq_self, exIA, exIS, exAI, exAS, exSI, exSA, true_or, or_true, false_or, or_false, Nat.reduceEqDiff, Bool.true_and, Bool.and_true, Bool.false_and, Bool.and_false, Bool.true_eq_false, Bool.false_eq_true, i10, i20, i30, vp0, nc0]
  exact k _ w
theorem iv_nextSession {σ : St} {n : Nat} (i : Inv (zG σ) n) {e : Nat} (he : e < 999) (eE : zG σ 367 = Int32.ofNat e) : Inv (zUi (upr (zG σ) 367 (zG σ 367 + 1)) 15) n := by
  have i1 : Inv (upr (zG σ) 367 (zG σ 367 + 1)) n := i.acc (fun k hk => upr_ne (by omega)) ⟨e + 1, by omega, by rw [upr_eq, eE, of_s]⟩
  refine i1.voices (fun k hk => zUi_ne (by omega) (by decide)) (fun s hs t ht => ?_)
  obtain ⟨x, u, g1, g2, g3, e1, e2⟩ := i1.2.2.2.1 s hs t ht
  refine ⟨x, 0, g1, g2, Nat.zero_le _, (zUi_ne (by omega) (by decide)).trans e1, ?_⟩
  unfold gU zUi
  rw [if_pos (by omega)]
  rfl
theorem ok_nextSession {σ : St} {e : Nat} (he : e < 999) (eE : zG σ 367 = Int32.ofNat e) : Op (fun X K => w_L_nextSession 1 X K) σ (zG σ 367 + 1) ((zUi (upr (zG σ) 367 (zG σ 367 + 1)) 15), (pushS σ).2) := by
  intro X Zz K w k
  have q := w.1
  have h : TR X 2 (zG σ) := w.2.1.1
  have f1 : ((999 : Int32) ≤ Int32.ofNat e) = False := (of_le (i := 999) (by decide) (by omega)).trans (eq_false (by omega))
  have f2 : (Int32.ofNat e < 999) = True := (of_lt (j := 999) (by omega) (by decide)).trans (eq_true he)
  simp only [w_L_nextSession, w_X4_nextSession, q.t1, q.r1_0, q.r1_1, q.t2, q.t14, show hI X 2 12 = Int32.ofNat e from (h 0 12 rfl).trans eE, f1, f2, hty_sI, hln_sI, hR_sI, cnd1, cnd2, b2i_0, b2i_1, b2i_z, if_true, if_false, true_and, and_true, true_implies, false_implies, ne_eq, not_false_eq_true, not_true_eq_false, eq_self, exIA, exIS, exAI, exAS, exSI, exSA, true_or, or_true, false_or, or_false, Nat.reduceEqDiff, Bool.true_and, Bool.and_true, Bool.false_and, Bool.and_false, Bool.true_eq_false, Bool.false_eq_true, i10, i20, i30, vp0, nc0]
  refine s_push w (fun X1 w1 => ?_)
  have q1 := w1.1
  simp only [q1.t1, q1.r1_0, q1.t2, hty_sI, hln_sI, hR_sI, cnd1, cnd2, b2i_0, b2i_1, b2i_z, if_true, if_false, true_and, and_true, true_implies, false_implies, ne_eq, not_false_eq_true, not_true_eq_false, eq_self, exIA, exIS, exAI, exAS, exSI, exSA, true_or, or_true, false_or, or_false, Nat.reduceEqDiff, Bool.true_and, Bool.and_true, Bool.false_and, Bool.and_false, Bool.true_eq_false, Bool.false_eq_true, i10, i20, i30, vp0, nc0]
  refine s_beginSession w1 (fun X2 w2 => ?_)
  have q2 := w2.1
  have e12 : hI X2 2 12 = zG σ 367 + 1 := (w2.2.1.1 0 12 rfl).trans ((show zUi (upr (zG σ) 367 (zG σ 367 + 1)) 15 367 = upr (zG σ) 367 (zG σ 367 + 1) 367 from zUi_ne (by omega) (by decide)).trans upr_eq)
  simp only [q2.t1, q2.r1_0, q2.t2, e12, hty_sI, hln_sI, hR_sI, cnd1, cnd2, b2i_0, b2i_1, b2i_z, if_true, if_false, true_and, and_true, true_implies, false_implies, ne_eq, not_false_eq_true, not_true_eq_false, eq_self, exIA, exIS, exAI, exAS, exSI, exSA, true_or, or_true, false_or, or_false, Nat.reduceEqDiff, Bool.true_and, Bool.and_true, Bool.false_and, Bool.and_false, Bool.true_eq_false, Bool.false_eq_true, i10, i20, i30, vp0, nc0]
  exact k _ w2
theorem rf_mix_0 {σ : St} {n : Nat} {a b : Int32} (h0 : inR a = false) : Op (fun X K => w_L_mix 1 a b X K) σ (-2) σ := by
  intro X Zz K w k
  have q := w.1
  have h : TR X 2 (zG σ) := w.2.1.1
  simp only [w_L_mix, w_X4_mix, q.t1, q.r1_0, q.r1_1, q.t2, q.t14, e_checkReel, e_checkTongue, h0, hty_sI, hln_sI, hR_sI, cnd1, cnd2, b2i_0, b2i_1, b2i_z, if_true, if_false, true_and, and_true, true_implies, false_implies, ne_eq, not_false_eq_true, not_true_eq_false, eq_self, exIA, exIS, exAI, exAS, exSI, exSA, true_or, or_true, false_or, or_false, Nat.reduceEqDiff, Bool.true_and, Bool.and_true, Bool.false_and, Bool.and_false, Bool.true_eq_false, Bool.false_eq_true, i10, i20, i30, vp0, nc0]
  exact k _ w
theorem rf_mix_1 {σ : St} {n : Nat} {a b : Int32} (h0 : inR a = true) (h1 : inT b = false) : Op (fun X K => w_L_mix 1 a b X K) σ (-2) σ := by
  intro X Zz K w k
  have q := w.1
  have h : TR X 2 (zG σ) := w.2.1.1
  simp only [w_L_mix, w_X4_mix, q.t1, q.r1_0, q.r1_1, q.t2, q.t14, e_checkReel, e_checkTongue, h0, h1, hty_sI, hln_sI, hR_sI, cnd1, cnd2, b2i_0, b2i_1, b2i_z, if_true, if_false, true_and, and_true, true_implies, false_implies, ne_eq, not_false_eq_true, not_true_eq_false, eq_self, exIA, exIS, exAI, exAS, exSI, exSA, true_or, or_true, false_or, or_false, Nat.reduceEqDiff, Bool.true_and, Bool.and_true, Bool.false_and, Bool.and_false, Bool.true_eq_false, Bool.false_eq_true, i10, i20, i30, vp0, nc0]
  exact k _ w
theorem rf_mix_2 {σ : St} {n : Nat} (i : Inv (zG σ) n) {r t : Nat} (hr : r < 4) (ht : t < 3) (p1 : pMx (zG σ) r t = true) : Op (fun X K => w_L_mix 1 (Int32.ofNat r) (Int32.ofNat t) X K) σ (-4) σ := by
  have hn := i.cn
  have h0 : inR (Int32.ofNat r) = true := inR_of hr
  have h1 : inT (Int32.ofNat t) = true := inT_of ht
  intro X Zz K w k
  have q := w.1
  have h : TR X 2 (zG σ) := w.2.1.1
  simp only [w_L_mix, w_X4_mix, q.t1, q.r1_0, q.r1_1, q.t2, q.t14, e_checkReel, e_checkTongue, e_hasMix q h hr ht, h0, h1, p1, hty_sI, hln_sI, hR_sI, cnd1, cnd2, b2i_0, b2i_1, b2i_z, if_true, if_false, true_and, and_true, true_implies, false_implies, ne_eq, not_false_eq_true, not_true_eq_false, eq_self, exIA, exIS, exAI, exAS, exSI, exSA, true_or, or_true, false_or, or_false, Nat.reduceEqDiff, Bool.true_and, Bool.and_true, Bool.false_and, Bool.and_false, Bool.true_eq_false, Bool.false_eq_true, i10, i20, i30, vp0, nc0]
  exact k _ w
theorem rf_mix_3 {σ : St} {n : Nat} (i : Inv (zG σ) n) {r t : Nat} (hr : r < 4) (ht : t < 3) (p1 : pMx (zG σ) r t = false) (p2 : pWh (zG σ) n (Int32.ofNat r) t = false) : Op (fun X K => w_L_mix 1 (Int32.ofNat r) (Int32.ofNat t) X K) σ (-4) σ := by
  have hn := i.cn
  have h0 : inR (Int32.ofNat r) = true := inR_of hr
  have h1 : inT (Int32.ofNat t) = true := inT_of ht
  intro X Zz K w k
  have q := w.1
  have h : TR X 2 (zG σ) := w.2.1.1
  simp only [w_L_mix, w_X4_mix, q.t1, q.r1_0, q.r1_1, q.t2, q.t14, e_checkReel, e_checkTongue, e_hasMix q h hr ht, h0, h1, p1, p2, hty_sI, hln_sI, hR_sI, cnd1, cnd2, b2i_0, b2i_1, b2i_z, if_true, if_false, true_and, and_true, true_implies, false_implies, ne_eq, not_false_eq_true, not_true_eq_false, eq_self, exIA, exIS, exAI, exAS, exSI, exSA, true_or, or_true, false_or, or_false, Nat.reduceEqDiff, Bool.true_and, Bool.and_true, Bool.false_and, Bool.and_false, Bool.true_eq_false, Bool.false_eq_true, i10, i20, i30, vp0, nc0]
  refine s_isWholeReel q h hn ht ?_
  simp only [q.t1, q.r1_0, q.r1_1, q.t2, q.t14, e_checkReel, e_checkTongue, e_hasMix q h hr ht, h0, h1, p1, p2, hty_sI, hln_sI, hR_sI, cnd1, cnd2, b2i_0, b2i_1, b2i_z, if_true, if_false, true_and, and_true, true_implies, false_implies, ne_eq, not_false_eq_true, not_true_eq_false, eq_self, exIA, exIS, exAI, exAS, exSI, exSA, true_or, or_true, false_or, or_false, Nat.reduceEqDiff, Bool.true_and, Bool.and_true, Bool.false_and, Bool.and_false, Bool.true_eq_false, Bool.false_eq_true, i10, i20, i30, vp0, nc0]
  exact k _ w
theorem ok_mix {σ : St} {n : Nat} (i : Inv (zG σ) n) {r t : Nat} (hr : r < 4) (ht : t < 3) (p1 : pMx (zG σ) r t = false) (p2 : pWh (zG σ) n (Int32.ofNat r) t = true)  : Op (fun X K => w_L_mix 1 (Int32.ofNat r) (Int32.ofNat t) X K) σ (sSil (upr (upr (zG σ) (342 + (3 * r + t)) 1) 370 (zG σ 370 + 1)) n (Int32.ofNat r) t) ((upr (upr (zG σ) (342 + (3 * r + t)) 1) 370 (zG σ 370 + 1)), (pushS σ).2) := by
  have hn := i.cn
  have h0 : inR (Int32.ofNat r) = true := inR_of hr
  have h1 : inT (Int32.ofNat t) = true := inT_of ht
  have i' : Inv (upr (upr (zG σ) (342 + (3 * r + t)) 1) 370 (zG σ 370 + 1)) (n) := by
    exact Inv.acc8 (i.setM hr ht (Or.inr rfl)) (by decide)
  intro X Zz K w k
  have q := w.1
  have h : TR X 2 (zG σ) := w.2.1.1
  simp only [w_L_mix, w_X4_mix, q.t1, q.r1_0, q.r1_1, q.t2, q.t14, e_checkReel, e_checkTongue, e_hasMix q h hr ht, h0, h1, p1, p2, hty_sI, hln_sI, hR_sI, cnd1, cnd2, b2i_0, b2i_1, b2i_z, if_true, if_false, true_and, and_true, true_implies, false_implies, ne_eq, not_false_eq_true, not_true_eq_false, eq_self, exIA, exIS, exAI, exAS, exSI, exSA, true_or, or_true, false_or, or_false, Nat.reduceEqDiff, Bool.true_and, Bool.and_true, Bool.false_and, Bool.and_false, Bool.true_eq_false, Bool.false_eq_true, i10, i20, i30, vp0, nc0]
  refine s_isWholeReel q h hn ht ?_
  simp only [q.t1, q.r1_0, q.r1_1, q.t2, q.t14, e_checkReel, e_checkTongue, e_hasMix q h hr ht, h0, h1, p1, p2, hty_sI, hln_sI, hR_sI, cnd1, cnd2, b2i_0, b2i_1, b2i_z, if_true, if_false, true_and, and_true, true_implies, false_implies, ne_eq, not_false_eq_true, not_true_eq_false, eq_self, exIA, exIS, exAI, exAS, exSI, exSA, true_or, or_true, false_or, or_false, Nat.reduceEqDiff, Bool.true_and, Bool.and_true, Bool.false_and, Bool.and_false, Bool.true_eq_false, Bool.false_eq_true, i10, i20, i30, vp0, nc0]
  refine s_push w (fun X1 w1 => ?_)
  have q1 := w1.1
  have g1 : TR X1 2 (zG σ) := w1.2.1.1
  have w2 := (w1.pM (v := 1) hr ht).p15 (v := zG σ 370 + 1)
  have q2 := w2.1
  have g2 := w2.2.1.1
  simp only [q1.t1, q1.r1_0, q1.t2, e_putMix q1 g1 hr ht, hty_sI, hln_sI, hR_sI, cnd1, cnd2, b2i_0, b2i_1, b2i_z, if_true, if_false, true_and, and_true, true_implies, false_implies, ne_eq, not_false_eq_true, not_true_eq_false, eq_self, exIA, exIS, exAI, exAS, exSI, exSA, true_or, or_true, false_or, or_false, Nat.reduceEqDiff, Bool.true_and, Bool.and_true, Bool.false_and, Bool.and_false, Bool.true_eq_false, Bool.false_eq_true, i10, i20, i30, vp0, nc0]
  exact s_silenceIn q2 g2 i'.cn ht (k _ w2)
theorem iv_mix {σ : St} {n : Nat} (i : Inv (zG σ) n) {r t : Nat} (hr : r < 4) (ht : t < 3) (p1 : pMx (zG σ) r t = false) (p2 : pWh (zG σ) n (Int32.ofNat r) t = true)  : Inv (upr (upr (zG σ) (342 + (3 * r + t)) 1) 370 (zG σ 370 + 1)) (n) := by
  have hn := i.cn
  exact Inv.acc8 (i.setM hr ht (Or.inr rfl)) (by decide)
theorem rf_sign_0 {σ : St} {n : Nat} {a b e : Int32} (h0 : inS a = false) : Op (fun X K => w_L_sign 1 a b e X K) σ (-2) σ := by
  intro X Zz K w k
  have q := w.1
  have h : TR X 2 (zG σ) := w.2.1.1
  simp only [w_L_sign, w_X4_sign, q.t1, q.r1_0, q.r1_1, q.t2, q.t14, e_checkState, e_checkReel, e_checkTongue, h0, hty_sI, hln_sI, hR_sI, cnd1, cnd2, b2i_0, b2i_1, b2i_z, if_true, if_false, true_and, and_true, true_implies, false_implies, ne_eq, not_false_eq_true, not_true_eq_false, eq_self, exIA, exIS, exAI, exAS, exSI, exSA, true_or, or_true, false_or, or_false, Nat.reduceEqDiff, Bool.true_and, Bool.and_true, Bool.false_and, Bool.and_false, Bool.true_eq_false, Bool.false_eq_true, i10, i20, i30, vp0, nc0]
  exact k _ w
theorem rf_sign_1 {σ : St} {n : Nat} {a b e : Int32} (h0 : inS a = true) (h1 : inR b = false) : Op (fun X K => w_L_sign 1 a b e X K) σ (-2) σ := by
  intro X Zz K w k
  have q := w.1
  have h : TR X 2 (zG σ) := w.2.1.1
  simp only [w_L_sign, w_X4_sign, q.t1, q.r1_0, q.r1_1, q.t2, q.t14, e_checkState, e_checkReel, e_checkTongue, h0, h1, hty_sI, hln_sI, hR_sI, cnd1, cnd2, b2i_0, b2i_1, b2i_z, if_true, if_false, true_and, and_true, true_implies, false_implies, ne_eq, not_false_eq_true, not_true_eq_false, eq_self, exIA, exIS, exAI, exAS, exSI, exSA, true_or, or_true, false_or, or_false, Nat.reduceEqDiff, Bool.true_and, Bool.and_true, Bool.false_and, Bool.and_false, Bool.true_eq_false, Bool.false_eq_true, i10, i20, i30, vp0, nc0]
  exact k _ w
theorem rf_sign_2 {σ : St} {n : Nat} {a b e : Int32} (h0 : inS a = true) (h1 : inR b = true) (h2 : inT e = false) : Op (fun X K => w_L_sign 1 a b e X K) σ (-2) σ := by
  intro X Zz K w k
  have q := w.1
  have h : TR X 2 (zG σ) := w.2.1.1
  simp only [w_L_sign, w_X4_sign, q.t1, q.r1_0, q.r1_1, q.t2, q.t14, e_checkState, e_checkReel, e_checkTongue, h0, h1, h2, hty_sI, hln_sI, hR_sI, cnd1, cnd2, b2i_0, b2i_1, b2i_z, if_true, if_false, true_and, and_true, true_implies, false_implies, ne_eq, not_false_eq_true, not_true_eq_false, eq_self, exIA, exIS, exAI, exAS, exSI, exSA, true_or, or_true, false_or, or_false, Nat.reduceEqDiff, Bool.true_and, Bool.and_true, Bool.false_and, Bool.and_false, Bool.true_eq_false, Bool.false_eq_true, i10, i20, i30, vp0, nc0]
  exact k _ w
theorem rf_sign_3 {σ : St} {n : Nat} (i : Inv (zG σ) n) {s r t : Nat} (hs : s < 5) (hr : r < 4) (ht : t < 3) (p1 : pMx (zG σ) r t = false) : Op (fun X K => w_L_sign 1 (Int32.ofNat s) (Int32.ofNat r) (Int32.ofNat t) X K) σ (-4) σ := by
  have hn := i.cn
  have h0 : inS (Int32.ofNat s) = true := inS_of hs
  have h1 : inR (Int32.ofNat r) = true := inR_of hr
  have h2 : inT (Int32.ofNat t) = true := inT_of ht
  intro X Zz K w k
  have q := w.1
  have h : TR X 2 (zG σ) := w.2.1.1
  simp only [w_L_sign, w_X4_sign, q.t1, q.r1_0, q.r1_1, q.t2, q.t14, e_checkState, e_checkReel, e_checkTongue, e_hasMix q h hr ht, h0, h1, h2, p1, hty_sI, hln_sI, hR_sI, cnd1, cnd2, b2i_0, b2i_1, b2i_z, if_true, if_false, true_and, and_true, true_implies, false_implies, ne_eq, not_false_eq_true, not_true_eq_false, eq_self, exIA, exIS, exAI, exAS, exSI, exSA, true_or, or_true, false_or, or_false, Nat.reduceEqDiff, Bool.true_and, Bool.and_true, Bool.false_and, Bool.and_false, Bool.true_eq_false, Bool.false_eq_true, i10, i20, i30, vp0, nc0]
  exact k _ w
theorem rf_sign_4 {σ : St} {n : Nat} (i : Inv (zG σ) n) {s r t : Nat} (hs : s < 5) (hr : r < 4) (ht : t < 3) (p1 : pMx (zG σ) r t = true) (p2 : pHd (zG σ) n (Int32.ofNat s) (Int32.ofNat r) = false) : Op (fun X K => w_L_sign 1 (Int32.ofNat s) (Int32.ofNat r) (Int32.ofNat t) X K) σ (-4) σ := by
  have hn := i.cn
  have h0 : inS (Int32.ofNat s) = true := inS_of hs
  have h1 : inR (Int32.ofNat r) = true := inR_of hr
  have h2 : inT (Int32.ofNat t) = true := inT_of ht
  intro X Zz K w k
  have q := w.1
  have h : TR X 2 (zG σ) := w.2.1.1
  simp only [w_L_sign, w_X4_sign, q.t1, q.r1_0, q.r1_1, q.t2, q.t14, e_checkState, e_checkReel, e_checkTongue, e_hasMix q h hr ht, h0, h1, h2, p1, p2, hty_sI, hln_sI, hR_sI, cnd1, cnd2, b2i_0, b2i_1, b2i_z, if_true, if_false, true_and, and_true, true_implies, false_implies, ne_eq, not_false_eq_true, not_true_eq_false, eq_self, exIA, exIS, exAI, exAS, exSI, exSA, true_or, or_true, false_or, or_false, Nat.reduceEqDiff, Bool.true_and, Bool.and_true, Bool.false_and, Bool.and_false, Bool.true_eq_false, Bool.false_eq_true, i10, i20, i30, vp0, nc0]
  refine s_isHeardIn q h hn ?_
  simp only [q.t1, q.r1_0, q.r1_1, q.t2, q.t14, e_checkState, e_checkReel, e_checkTongue, e_hasMix q h hr ht, h0, h1, h2, p1, p2, hty_sI, hln_sI, hR_sI, cnd1, cnd2, b2i_0, b2i_1, b2i_z, if_true, if_false, true_and, and_true, true_implies, false_implies, ne_eq, not_false_eq_true, not_true_eq_false, eq_self, exIA, exIS, exAI, exAS, exSI, exSA, true_or, or_true, false_or, or_false, Nat.reduceEqDiff, Bool.true_and, Bool.and_true, Bool.false_and, Bool.and_false, Bool.true_eq_false, Bool.false_eq_true, i10, i20, i30, vp0, nc0]
  exact k _ w
theorem rf_sign_5 {σ : St} {n : Nat} (i : Inv (zG σ) n) {s r t : Nat} (hs : s < 5) (hr : r < 4) (ht : t < 3) (p1 : pMx (zG σ) r t = true) (p2 : pHd (zG σ) n (Int32.ofNat s) (Int32.ofNat r) = true) (p3 : pSg (zG σ) s r t = true) : Op (fun X K => w_L_sign 1 (Int32.ofNat s) (Int32.ofNat r) (Int32.ofNat t) X K) σ (-4) σ := by
  have hn := i.cn
  have h0 : inS (Int32.ofNat s) = true := inS_of hs
  have h1 : inR (Int32.ofNat r) = true := inR_of hr
  have h2 : inT (Int32.ofNat t) = true := inT_of ht
  intro X Zz K w k
  have q := w.1
  have h : TR X 2 (zG σ) := w.2.1.1
  simp only [w_L_sign, w_X4_sign, q.t1, q.r1_0, q.r1_1, q.t2, q.t14, e_checkState, e_checkReel, e_checkTongue, e_hasMix q h hr ht, e_hasSignature q h hs hr ht, h0, h1, h2, p1, p2, p3, hty_sI, hln_sI, hR_sI, cnd1, cnd2, b2i_0, b2i_1, b2i_z, if_true, if_false, true_and, and_true, true_implies, false_implies, ne_eq, not_false_eq_true, not_true_eq_false, eq_self, exIA, exIS, exAI, exAS, exSI, exSA, true_or, or_true, false_or, or_false, Nat.reduceEqDiff, Bool.true_and, Bool.and_true, Bool.false_and, Bool.and_false, Bool.true_eq_false, Bool.false_eq_true, i10, i20, i30, vp0, nc0]
  refine s_isHeardIn q h hn ?_
  simp only [q.t1, q.r1_0, q.r1_1, q.t2, q.t14, e_checkState, e_checkReel, e_checkTongue, e_hasMix q h hr ht, e_hasSignature q h hs hr ht, h0, h1, h2, p1, p2, p3, hty_sI, hln_sI, hR_sI, cnd1, cnd2, b2i_0, b2i_1, b2i_z, if_true, if_false, true_and, and_true, true_implies, false_implies, ne_eq, not_false_eq_true, not_true_eq_false, eq_self, exIA, exIS, exAI, exAS, exSI, exSA, true_or, or_true, false_or, or_false, Nat.reduceEqDiff, Bool.true_and, Bool.and_true, Bool.false_and, Bool.and_false, Bool.true_eq_false, Bool.false_eq_true, i10, i20, i30, vp0, nc0]
  exact k _ w
theorem ok_sign {σ : St} {n : Nat} (i : Inv (zG σ) n) {s r t : Nat} (hs : s < 5) (hr : r < 4) (ht : t < 3) (p1 : pMx (zG σ) r t = true) (p2 : pHd (zG σ) n (Int32.ofNat s) (Int32.ofNat r) = true) (p3 : pSg (zG σ) s r t = false)  : Op (fun X K => w_L_sign 1 (Int32.ofNat s) (Int32.ofNat r) (Int32.ofNat t) X K) σ (sMiss (upr (zG σ) (354 + (3 * r + t)) (gZ (zG σ) r t ||| (1 <<< (Int32.ofNat s &&& 31)))) n r t) ((upr (zG σ) (354 + (3 * r + t)) (gZ (zG σ) r t ||| (1 <<< (Int32.ofNat s &&& 31)))), (pushS σ).2) := by
  have hn := i.cn
  have h0 : inS (Int32.ofNat s) = true := inS_of hs
  have h1 : inR (Int32.ofNat r) = true := inR_of hr
  have h2 : inT (Int32.ofNat t) = true := inT_of ht
  obtain ⟨z, hz, eZ⟩ := (i.2.2.2.2.1 r hr t ht).2
  obtain ⟨z2, hz2, eZ2⟩ := sgn_in z hz s hs
  have i' : Inv (upr (zG σ) (354 + (3 * r + t)) (gZ (zG σ) r t ||| (1 <<< (Int32.ofNat s &&& 31)))) (n) := by
    rw [eZ, eZ2]
    exact i.setZ hr ht hz2
  intro X Zz K w k
  have q := w.1
  have h : TR X 2 (zG σ) := w.2.1.1
  simp only [w_L_sign, w_X4_sign, q.t1, q.r1_0, q.r1_1, q.t2, q.t14, e_checkState, e_checkReel, e_checkTongue, e_hasMix q h hr ht, e_hasSignature q h hs hr ht, h0, h1, h2, p1, p2, p3, hty_sI, hln_sI, hR_sI, cnd1, cnd2, b2i_0, b2i_1, b2i_z, if_true, if_false, true_and, and_true, true_implies, false_implies, ne_eq, not_false_eq_true, not_true_eq_false, eq_self, exIA, exIS, exAI, exAS, exSI, exSA, true_or, or_true, false_or, or_false, Nat.reduceEqDiff, Bool.true_and, Bool.and_true, Bool.false_and, Bool.and_false, Bool.true_eq_false, Bool.false_eq_true, i10, i20, i30, vp0, nc0]
  refine s_isHeardIn q h hn ?_
  simp only [q.t1, q.r1_0, q.r1_1, q.t2, q.t14, e_checkState, e_checkReel, e_checkTongue, e_hasMix q h hr ht, e_hasSignature q h hs hr ht, h0, h1, h2, p1, p2, p3, hty_sI, hln_sI, hR_sI, cnd1, cnd2, b2i_0, b2i_1, b2i_z, if_true, if_false, true_and, and_true, true_implies, false_implies, ne_eq, not_false_eq_true, not_true_eq_false, eq_self, exIA, exIS, exAI, exAS, exSI, exSA, true_or, or_true, false_or, or_false, Nat.reduceEqDiff, Bool.true_and, Bool.and_true, Bool.false_and, Bool.and_false, Bool.true_eq_false, Bool.false_eq_true, i10, i20, i30, vp0, nc0]
  refine s_push w (fun X1 w1 => ?_)
  have q1 := w1.1
  have g1 : TR X1 2 (zG σ) := w1.2.1.1
  have w2 := w1.pZ (v := gZ (zG σ) r t ||| (1 <<< (Int32.ofNat s &&& 31))) hr ht
  have q2 := w2.1
  have g2 := w2.2.1.1
  simp only [q1.t1, q1.r1_0, q1.t2, e_putSignature q1 g1 hs hr ht, hty_sI, hln_sI, hR_sI, cnd1, cnd2, b2i_0, b2i_1, b2i_z, if_true, if_false, true_and, and_true, true_implies, false_implies, ne_eq, not_false_eq_true, not_true_eq_false, eq_self, exIA, exIS, exAI, exAS, exSI, exSA, true_or, or_true, false_or, or_false, Nat.reduceEqDiff, Bool.true_and, Bool.and_true, Bool.false_and, Bool.and_false, Bool.true_eq_false, Bool.false_eq_true, i10, i20, i30, vp0, nc0]
  exact s_signaturesMissing q2 g2 i'.cn hr ht (k _ w2)
theorem iv_sign {σ : St} {n : Nat} (i : Inv (zG σ) n) {s r t : Nat} (hs : s < 5) (hr : r < 4) (ht : t < 3) (p1 : pMx (zG σ) r t = true) (p2 : pHd (zG σ) n (Int32.ofNat s) (Int32.ofNat r) = true) (p3 : pSg (zG σ) s r t = false)  : Inv (upr (zG σ) (354 + (3 * r + t)) (gZ (zG σ) r t ||| (1 <<< (Int32.ofNat s &&& 31)))) (n) := by
  have hn := i.cn
  obtain ⟨z, hz, eZ⟩ := (i.2.2.2.2.1 r hr t ht).2
  obtain ⟨z2, hz2, eZ2⟩ := sgn_in z hz s hs
  rw [eZ, eZ2]
  exact i.setZ hr ht hz2
end PN2
