/-! the digest: both chain the same numbers -/
section PS
def ch (h v : Int64) : Int64 := (31 : Int64) * h + v
def chF (h : Int64) (b : Bool) : Int64 := ch h (if b = true then 1 else 0)
def fo (f : Nat → Int64 → Int64) (h : Int64) : Nat → Int64
  | 0 => h
  | i + 1 => f i (fo f h i)
def dT0 (g : Row) (c t : Nat) (h : Int64) : Int64 := if pHas g c t = true then ch (ch (ch (ch h (gRs g c t).toInt64) (gRm g c t).toInt64) (gP g c t).toInt64) (gLA g c t + 1).toInt64 else ch h (gRs g c t).toInt64
def dT (g : Row) (c t : Nat) (h : Int64) : Int64 := dT0 g c t (chF (ch (ch h (gF g c t).toInt64) (gAn g c t).toInt64) (pTk g c t))
def dC (g : Row) (c : Nat) (h : Int64) : Int64 := fo (dT g c) (ch (ch (ch (ch (ch h (gR g c).toInt64) (gS g c).toInt64) (gL g c).toInt64) (gH g c).toInt64) (gLo g c + 1).toInt64) 3
def ses (g : Row) (n s t : Nat) : Int32 := if pTL g n s t = true then -1 else gGo g n s t
def dV (g : Row) (n s t : Nat) (h : Int64) : Int64 := ch (ch (ch (ch (ch h (gSt g s t).toInt64) (gSn g s t).toInt64) (sVoiced g n (Int32.ofNat s) t).toInt64) (ses g n s t + 1).toInt64) (ses g n s t + 1).toInt64
def dV3 (g : Row) (n s : Nat) (h : Int64) : Int64 := fo (dV g n s) h 3
theorem fo_s {f : Nat → Int64 → Int64} {h : Int64} {i : Nat} : fo f h (i + 1) = f i (fo f h i) := rfl
theorem sL_at {X : XH} {a k : Nat} {v : Int64} : hL (sL X a k v) a k = v := by
  show up2 (hL X) a k v a k = v
  unfold up2
  rw [if_pos rfl, if_pos rfl]
def dR1 (g : Row) (n r t : Nat) (h : Int64) : Int64 := ch (ch (chF (chF h (pWh g n (Int32.ofNat r) t)) (pMx g r t)) (sSigs g r t).toInt64) (sMiss g n r t).toInt64
def dR (g : Row) (n r : Nat) (h : Int64) : Int64 := fo (dR1 g n r) (ch (ch h (sMany g n (Int32.ofNat r)).toInt64) (sLong g n (Int32.ofNat r)).toInt64) 3
def dO0 (g : Row) (n t : Nat) (h : Int64) : Int64 := ch (ch (ch h (sMis g n t).toInt64) (encO (nxTo g t n) + 1).toInt64) (UInt64.toInt64 (gMean g n t))
def dO (g : Row) (n t : Nat) (h : Int64) : Int64 := dO0 g n t (chF (ch (ch (ch (ch h (sAnnex g n t).toInt64) (sTaken g n t).toInt64) (sReady g n t).toInt64) (sReady g n t).toInt64) (pRat g n t))
def dA (σ : St) (n : Nat) (h : Int64) : Int64 := fo (fun k h => chF h (!(decide (zK σ k = 0)))) (ch (ch (ch (ch (ch (ch (ch h (zG σ 367).toInt64) (zG σ 368).toInt64) (zG σ 369).toInt64) (zG σ 370).toInt64) (Int32.ofNat (bsTo (fun t => sTaken (zG σ) n t) 2)).toInt64) (Int32.ofNat (bsTo (fun s => sSpoken (zG σ) n (Int32.ofNat s)) 4)).toInt64) (Int32.ofNat (zH σ)).toInt64) 2
def dBu (σ : St) (h : Int64) : Int64 := fo (fun k h => ch h (zT σ k).toInt64) (ch h (Int32.ofNat (zN σ)).toInt64) (zN σ)
def dgst (σ : St) (n : Nat) : Int64 := dBu σ (dA σ n (fo (dO (zG σ) n) (fo (dR (zG σ) n) (fo (dV3 (zG σ) n) (fo (dC (zG σ)) (ch (4229 : Int64) (Int32.ofNat n).toInt64) n) 5) 4) 3))
theorem e_ch {h v : Int64} {X : XH} {K : Int64 → XH → Prop} : w_X4_chain h v X K = K (ch h v) X := rfl
theorem e_flag {h : Int64} {b : Bool} {X : XH} {K : Int64 → XH → Prop} : w_X4_chainFlag h (b2i b) X K = K (chF h b) X := by
  simp only [w_X4_chainFlag, e_ch]
  cases b <;> simp only [chF, hty_sI, hln_sI, hR_sI, cnd1, cnd2, b2i_0, b2i_1, b2i_z, if_true, if_false, true_and, and_true, true_implies, false_implies, ne_eq, not_false_eq_true, not_true_eq_false, eq_self, exIA, exIS, exAI, exAS, exSI, exSA, true_or, or_true, false_or, or_false, Nat.reduceEqDiff, Bool.true_and, Bool.and_true, Bool.false_and, Bool.and_false, Bool.true_eq_false, Bool.false_eq_true, i10, i20, i30, vp0, nc0]
theorem lt3 {i : Nat} (hi : i < 3) : ((3 : Int32) ≤ Int32.ofNat i) = False := ltl hi (by decide)
theorem lt3t : ((3 : Int32) ≤ Int32.ofNat 3) = True := ltt (by decide)
theorem lt4 {i : Nat} (hi : i < 4) : ((4 : Int32) ≤ Int32.ofNat i) = False := ltl hi (by decide)
theorem lt4t : ((4 : Int32) ≤ Int32.ofNat 4) = True := ltt (by decide)
theorem lt5 {i : Nat} (hi : i < 5) : ((5 : Int32) ≤ Int32.ofNat i) = False := ltl hi (by decide)
theorem lt5t : ((5 : Int32) ≤ Int32.ofNat 5) = True := ltt (by decide)
theorem lt2 {i : Nat} (hi : i < 2) : ((2 : Int32) ≤ Int32.ofNat i) = False := ltl hi (by decide)
theorem lt2t : ((2 : Int32) ≤ Int32.ofNat 2) = True := ltt (by decide)
variable {X : XH} {σ m d : St} {o : Ou} {n c t s r : Nat} {h : Int64}
-- the class
theorem c_tr {K : Int64 → XH → Prop} (q : Shp X) (hh : TR X 2 (zG σ)) (i : Inv (zG σ) n) (hcn : c < n) (ht : t < 3) : w_X4_chainTranslation 1 h (Int32.ofNat c) (Int32.ofNat t) X K = K (dT (zG σ) c t h) X := by
  have hc : c < 24 := Nat.lt_of_lt_of_le hcn i.1.2
  simp only [w_X4_chainTranslation, q.t1, q.r1_0, q.t2, e_framesAt q hh hc ht, e_annexedAt q hh hc ht, e_isTaken q hh hc ht, e_flag, e_reasonAt q hh hc ht (i.S c hcn), e_hasTranslation q hh hc ht, e_roomAt q hh hc ht, e_hundredthsAt q hh hc ht (i.L c hcn), e_leastAnnexAt q hh hc ht, e_ch, hty_sI, hln_sI, hR_sI, cnd1, cnd2, b2i_0, b2i_1, b2i_z, if_true, if_false, true_and, and_true, true_implies, false_implies, ne_eq, not_false_eq_true, not_true_eq_false, eq_self, exIA, exIS, exAI, exAS, exSI, exSA, true_or, or_true, false_or, or_false, Nat.reduceEqDiff, Bool.true_and, Bool.and_true, Bool.false_and, Bool.and_false, Bool.true_eq_false, Bool.false_eq_true, i10, i20, i30, vp0, nc0]
  unfold dT dT0
  cases pHas (zG σ) c t <;> simp only [hty_sI, hln_sI, hR_sI, cnd1, cnd2, b2i_0, b2i_1, b2i_z, if_true, if_false, true_and, and_true, true_implies, false_implies, ne_eq, not_false_eq_true, not_true_eq_false, eq_self, exIA, exIS, exAI, exAS, exSI, exSA, true_or, or_true, false_or, or_false, Nat.reduceEqDiff, Bool.true_and, Bool.and_true, Bool.false_and, Bool.and_false, Bool.true_eq_false, Bool.false_eq_true, i10, i20, i30, vp0, nc0]
theorem c_cl {K : Int64 → XH → Prop} (w : Wd X σ m o) (i : Inv (zG σ) n) (hcn : c < n) (k : K (dC (zG σ) c h) X) : w_X4_chainClause 1 h (Int32.ofNat c) X K := by
  have q := w.1
  have hh : TR X 2 (zG σ) := w.2.1.1
  have hc : c < 24 := Nat.lt_of_lt_of_le hcn i.1.2
  simp only [w_X4_chainClause, q.t1, q.r1_0, q.t2, e_reelAt q hh hc, e_speakerAt q hh hc, e_lipsAt q hh hc, e_sighAt q hh hc, e_ch, hty_sI, hln_sI, hR_sI, cnd1, cnd2, b2i_0, b2i_1, b2i_z, if_true, if_false, true_and, and_true, true_implies, false_implies, ne_eq, not_false_eq_true, not_true_eq_false, eq_self, exIA, exIS, exAI, exAS, exSI, exSA, true_or, or_true, false_or, or_false, Nat.reduceEqDiff, Bool.true_and, Bool.and_true, Bool.false_and, Bool.and_false, Bool.true_eq_false, Bool.false_eq_true, i10, i20, i30, vp0, nc0]
  refine s_longestSighAt q hh hc ?_
  try simp only [q.t1, q.r1_0, q.t2, e_ch, hty_sI, hln_sI, hR_sI, cnd1, cnd2, b2i_0, b2i_1, b2i_z, if_true, if_false, true_and, and_true, true_implies, false_implies, ne_eq, not_false_eq_true, not_true_eq_false, eq_self, exIA, exIS, exAI, exAS, exSI, exSA, true_or, or_true, false_or, or_false, Nat.reduceEqDiff, Bool.true_and, Bool.and_true, Bool.false_and, Bool.and_false, Bool.true_eq_false, Bool.false_eq_true, i10, i20, i30, vp0, nc0]
  intro P hP
  refine dwn (n := 3) (p := fun j => P 1 (Int32.ofNat c) (fo (dT (zG σ) c) (ch (ch (ch (ch (ch h (gR (zG σ) c).toInt64) (gS (zG σ) c).toInt64) (gL (zG σ) c).toInt64) (gH (zG σ) c).toInt64) (gLo (zG σ) c + 1).toInt64) j) (Int32.ofNat j) X) (hP _ _ _ _ _ ?_) (fun j hj ih => hP _ _ _ _ _ ?_)
  · simp only [lt3t, hty_sI, hln_sI, hR_sI, cnd1, cnd2, b2i_0, b2i_1, b2i_z, if_true, if_false, true_and, and_true, true_implies, false_implies, ne_eq, not_false_eq_true, not_true_eq_false, eq_self, exIA, exIS, exAI, exAS, exSI, exSA, true_or, or_true, false_or, or_false, Nat.reduceEqDiff, Bool.true_and, Bool.and_true, Bool.false_and, Bool.and_false, Bool.true_eq_false, Bool.false_eq_true, i10, i20, i30, vp0, nc0]
    exact k
  · simp only [lt3 hj, c_tr q hh i hcn hj, q.t1, of_s, hty_sI, hln_sI, hR_sI, cnd1, cnd2, b2i_0, b2i_1, b2i_z, if_true, if_false, true_and, and_true, true_implies, false_implies, ne_eq, not_false_eq_true, not_true_eq_false, eq_self, exIA, exIS, exAI, exAS, exSI, exSA, true_or, or_true, false_or, or_false, Nat.reduceEqDiff, Bool.true_and, Bool.and_true, Bool.false_and, Bool.and_false, Bool.true_eq_false, Bool.false_eq_true, i10, i20, i30, vp0, nc0]
    exact ih
theorem c_vo {K : Int64 → XH → Prop} (w : Wd X σ m o) (i : Inv (zG σ) n) (hs : s < 5) (ht : t < 3) (k : ∀ X1, Wd X1 σ m o → K (dV (zG σ) n s t h) X1) : w_X4_chainVoice 1 h (Int32.ofNat s) (Int32.ofNat t) X K := by
  have q := w.1
  have hh : TR X 2 (zG σ) := w.2.1.1
  have hn := i.cn
  obtain ⟨v1, v2, v3, v4, v5⟩ := i.V hs ht
  have hm : rdM (zG σ) (Int32.ofNat s) t n ≤ 24 := Nat.le_trans (rdM_le _ _ _ _) hn.2
  have hb := rdB_le (a := Int32.ofNat s) i ht n (Nat.le_refl n)
  simp only [w_X4_chainVoice, q.t1, q.r1_0, q.t2, e_staminaAt q hh hs ht, e_strengthAt q hh hs ht, e_ch, hty_sI, hln_sI, hR_sI, cnd1, cnd2, b2i_0, b2i_1, b2i_z, if_true, if_false, true_and, and_true, true_implies, false_implies, ne_eq, not_false_eq_true, not_true_eq_false, eq_self, exIA, exIS, exAI, exAS, exSI, exSA, true_or, or_true, false_or, or_false, Nat.reduceEqDiff, Bool.true_and, Bool.and_true, Bool.false_and, Bool.and_false, Bool.true_eq_false, Bool.false_eq_true, i10, i20, i30, vp0, nc0]
  refine s_takenFramesOf q hh hn ht ?_
  simp only [q.t1, q.r1_0, q.r1_5, q.t2, q.t120, e_ch, hty_sI, hln_sI, hR_sI, cnd1, cnd2, b2i_0, b2i_1, b2i_z, if_true, if_false, true_and, and_true, true_implies, false_implies, ne_eq, not_false_eq_true, not_true_eq_false, eq_self, exIA, exIS, exAI, exAS, exSI, exSA, true_or, or_true, false_or, or_false, Nat.reduceEqDiff, Bool.true_and, Bool.and_true, Bool.false_and, Bool.and_false, Bool.true_eq_false, Bool.false_eq_true, i10, i20, i30, vp0, nc0]
  refine s_fillPlan q hh i hs ht (fun X1 a p => ?_)
  have q2 := a.shp q
  have w2 := w.pl (a.fr q)
  simp only [q2.t1, q2.r1_5, q2.t120, hty_sI, hln_sI, hR_sI, cnd1, cnd2, b2i_0, b2i_1, b2i_z, if_true, if_false, true_and, and_true, true_implies, false_implies, ne_eq, not_false_eq_true, not_true_eq_false, eq_self, exIA, exIS, exAI, exAS, exSI, exSA, true_or, or_true, false_or, or_false, Nat.reduceEqDiff, Bool.true_and, Bool.and_true, Bool.false_and, Bool.and_false, Bool.true_eq_false, Bool.false_eq_true, i10, i20, i30, vp0, nc0]
  refine s_hasTooLong q2 p hm hb v3 ?_
  unfold dV ses at k
  cases hp : pTL (zG σ) n s t
  · have hT : anyTo (fun k => !(decide (rdB (zG σ) (Int32.ofNat s) t n k ≤ gSA (zG σ) s t))) (rdM (zG σ) (Int32.ofNat s) t n) = false := hp
    simp only [hp, Bool.false_eq_true, if_false] at k
    simp only [hT, q2.t1, q2.r1_5, q2.t120, hty_sI, hln_sI, hR_sI, cnd1, cnd2, b2i_0, b2i_1, b2i_z, if_true, if_false, true_and, and_true, true_implies, false_implies, ne_eq, not_false_eq_true, not_true_eq_false, eq_self, exIA, exIS, exAI, exAS, exSI, exSA, true_or, or_true, false_or, or_false, Nat.reduceEqDiff, Bool.true_and, Bool.and_true, Bool.false_and, Bool.and_false, Bool.true_eq_false, Bool.false_eq_true, i10, i20, i30, vp0, nc0]
    refine s_goThrough q2 p hm (pTL_b hp) v3 v4 ?_
    simp only [e_ch, q2.t1, q2.r1_5, q2.t120, hty_sI, hln_sI, hR_sI, cnd1, cnd2, b2i_0, b2i_1, b2i_z, if_true, if_false, true_and, and_true, true_implies, false_implies, ne_eq, not_false_eq_true, not_true_eq_false, eq_self, exIA, exIS, exAI, exAS, exSI, exSA, true_or, or_true, false_or, or_false, Nat.reduceEqDiff, Bool.true_and, Bool.and_true, Bool.false_and, Bool.and_false, Bool.true_eq_false, Bool.false_eq_true, i10, i20, i30, vp0, nc0]
    refine s_fillTable q2 p hm (pTL_b hp) v3 v4 (fun X3 a3 => ?_)
    exact k X3 (w2.pl (a3.fr q2))
  · have hT : anyTo (fun k => !(decide (rdB (zG σ) (Int32.ofNat s) t n k ≤ gSA (zG σ) s t))) (rdM (zG σ) (Int32.ofNat s) t n) = true := hp
    simp only [hp, if_true] at k
    simp only [hT, e_ch, q2.t1, q2.r1_5, q2.t120, hty_sI, hln_sI, hR_sI, cnd1, cnd2, b2i_0, b2i_1, b2i_z, if_true, if_false, true_and, and_true, true_implies, false_implies, ne_eq, not_false_eq_true, not_true_eq_false, eq_self, exIA, exIS, exAI, exAS, exSI, exSA, true_or, or_true, false_or, or_false, Nat.reduceEqDiff, Bool.true_and, Bool.and_true, Bool.false_and, Bool.and_false, Bool.true_eq_false, Bool.false_eq_true, i10, i20, i30, vp0, nc0]
    exact k X1 w2
theorem c_re {K : Int64 → XH → Prop} (w : Wd X σ m o) (i : Inv (zG σ) n) (hr : r < 4) (k : K (dR (zG σ) n r h) X) : w_X4_chainReel 1 h (Int32.ofNat r) X K := by
  have q := w.1
  have hh : TR X 2 (zG σ) := w.2.1.1
  have hn := i.cn
  simp only [w_X4_chainReel, q.t1, q.r1_0, q.t2, hty_sI, hln_sI, hR_sI, cnd1, cnd2, b2i_0, b2i_1, b2i_z, if_true, if_false, true_and, and_true, true_implies, false_implies, ne_eq, not_false_eq_true, not_true_eq_false, eq_self, exIA, exIS, exAI, exAS, exSI, exSA, true_or, or_true, false_or, or_false, Nat.reduceEqDiff, Bool.true_and, Bool.and_true, Bool.false_and, Bool.and_false, Bool.true_eq_false, Bool.false_eq_true, i10, i20, i30, vp0, nc0]
  refine s_clausesOn q hh hn ?_
  try simp only [q.t1, q.r1_0, q.t2, e_ch, hty_sI, hln_sI, hR_sI, cnd1, cnd2, b2i_0, b2i_1, b2i_z, if_true, if_false, true_and, and_true, true_implies, false_implies, ne_eq, not_false_eq_true, not_true_eq_false, eq_self, exIA, exIS, exAI, exAS, exSI, exSA, true_or, or_true, false_or, or_false, Nat.reduceEqDiff, Bool.true_and, Bool.and_true, Bool.false_and, Bool.and_false, Bool.true_eq_false, Bool.false_eq_true, i10, i20, i30, vp0, nc0]
  refine s_lipsOn q hh hn ?_
  try simp only [q.t1, q.r1_0, q.t2, e_ch, hty_sI, hln_sI, hR_sI, cnd1, cnd2, b2i_0, b2i_1, b2i_z, if_true, if_false, true_and, and_true, true_implies, false_implies, ne_eq, not_false_eq_true, not_true_eq_false, eq_self, exIA, exIS, exAI, exAS, exSI, exSA, true_or, or_true, false_or, or_false, Nat.reduceEqDiff, Bool.true_and, Bool.and_true, Bool.false_and, Bool.and_false, Bool.true_eq_false, Bool.false_eq_true, i10, i20, i30, vp0, nc0]
  intro P hP
  refine dwn (n := 3) (p := fun j => P 1 (Int32.ofNat r) (fo (dR1 (zG σ) n r) (ch (ch h (sMany (zG σ) n (Int32.ofNat r)).toInt64) (sLong (zG σ) n (Int32.ofNat r)).toInt64) j) (Int32.ofNat j) X) (hP _ _ _ _ _ ?_) (fun j hj ih => hP _ _ _ _ _ ?_)
  · simp only [lt3t, hty_sI, hln_sI, hR_sI, cnd1, cnd2, b2i_0, b2i_1, b2i_z, if_true, if_false, true_and, and_true, true_implies, false_implies, ne_eq, not_false_eq_true, not_true_eq_false, eq_self, exIA, exIS, exAI, exAS, exSI, exSA, true_or, or_true, false_or, or_false, Nat.reduceEqDiff, Bool.true_and, Bool.and_true, Bool.false_and, Bool.and_false, Bool.true_eq_false, Bool.false_eq_true, i10, i20, i30, vp0, nc0]
    exact k
  · simp only [lt3 hj, q.t1, q.r1_0, q.t2, hty_sI, hln_sI, hR_sI, cnd1, cnd2, b2i_0, b2i_1, b2i_z, if_true, if_false, true_and, and_true, true_implies, false_implies, ne_eq, not_false_eq_true, not_true_eq_false, eq_self, exIA, exIS, exAI, exAS, exSI, exSA, true_or, or_true, false_or, or_false, Nat.reduceEqDiff, Bool.true_and, Bool.and_true, Bool.false_and, Bool.and_false, Bool.true_eq_false, Bool.false_eq_true, i10, i20, i30, vp0, nc0]
    refine s_isWholeReel q hh hn hj ?_
    simp only [e_flag, e_hasMix q hh hr hj, q.t1, q.r1_0, q.t2, hty_sI, hln_sI, hR_sI, cnd1, cnd2, b2i_0, b2i_1, b2i_z, if_true, if_false, true_and, and_true, true_implies, false_implies, ne_eq, not_false_eq_true, not_true_eq_false, eq_self, exIA, exIS, exAI, exAS, exSI, exSA, true_or, or_true, false_or, or_false, Nat.reduceEqDiff, Bool.true_and, Bool.and_true, Bool.false_and, Bool.and_false, Bool.true_eq_false, Bool.false_eq_true, i10, i20, i30, vp0, nc0]
    refine s_signaturesAt q hh hr hj (i.2.2.2.2.1 r hr j hj).2 ?_
    simp only [e_ch, q.t1, q.r1_0, q.t2, hty_sI, hln_sI, hR_sI, cnd1, cnd2, b2i_0, b2i_1, b2i_z, if_true, if_false, true_and, and_true, true_implies, false_implies, ne_eq, not_false_eq_true, not_true_eq_false, eq_self, exIA, exIS, exAI, exAS, exSI, exSA, true_or, or_true, false_or, or_false, Nat.reduceEqDiff, Bool.true_and, Bool.and_true, Bool.false_and, Bool.and_false, Bool.true_eq_false, Bool.false_eq_true, i10, i20, i30, vp0, nc0]
    refine s_signaturesMissing q hh hn hr hj ?_
    simp only [e_ch, of_s, hty_sI, hln_sI, hR_sI, cnd1, cnd2, b2i_0, b2i_1, b2i_z, if_true, if_false, true_and, and_true, true_implies, false_implies, ne_eq, not_false_eq_true, not_true_eq_false, eq_self, exIA, exIS, exAI, exAS, exSI, exSA, true_or, or_true, false_or, or_false, Nat.reduceEqDiff, Bool.true_and, Bool.and_true, Bool.false_and, Bool.and_false, Bool.true_eq_false, Bool.false_eq_true, i10, i20, i30, vp0, nc0]
    exact ih
theorem c_to {K : Int64 → XH → Prop} (w : Wd X σ m o) (i : Inv (zG σ) n) (ht : t < 3) (k : K (dO (zG σ) n t h) X) : w_X4_chainTongue 1 h (Int32.ofNat t) X K := by
  have q := w.1
  have hh : TR X 2 (zG σ) := w.2.1.1
  have hn := i.cn
  have mo := mean_ok i ht
  simp only [w_X4_chainTongue, q.t1, q.r1_0, q.t2, hty_sI, hln_sI, hR_sI, cnd1, cnd2, b2i_0, b2i_1, b2i_z, if_true, if_false, true_and, and_true, true_implies, false_implies, ne_eq, not_false_eq_true, not_true_eq_false, eq_self, exIA, exIS, exAI, exAS, exSI, exSA, true_or, or_true, false_or, or_false, Nat.reduceEqDiff, Bool.true_and, Bool.and_true, Bool.false_and, Bool.and_false, Bool.true_eq_false, Bool.false_eq_true, i10, i20, i30, vp0, nc0]
  refine s_annexTotal q hh hn ht ?_
  try simp only [q.t1, q.r1_0, q.t2, e_ch, hty_sI, hln_sI, hR_sI, cnd1, cnd2, b2i_0, b2i_1, b2i_z, if_true, if_false, true_and, and_true, true_implies, false_implies, ne_eq, not_false_eq_true, not_true_eq_false, eq_self, exIA, exIS, exAI, exAS, exSI, exSA, true_or, or_true, false_or, or_false, Nat.reduceEqDiff, Bool.true_and, Bool.and_true, Bool.false_and, Bool.and_false, Bool.true_eq_false, Bool.false_eq_true, i10, i20, i30, vp0, nc0]
  refine s_takenTotal q hh hn ht ?_
  try simp only [q.t1, q.r1_0, q.t2, e_ch, hty_sI, hln_sI, hR_sI, cnd1, cnd2, b2i_0, b2i_1, b2i_z, if_true, if_false, true_and, and_true, true_implies, false_implies, ne_eq, not_false_eq_true, not_true_eq_false, eq_self, exIA, exIS, exAI, exAS, exSI, exSA, true_or, or_true, false_or, or_false, Nat.reduceEqDiff, Bool.true_and, Bool.and_true, Bool.false_and, Bool.and_false, Bool.true_eq_false, Bool.false_eq_true, i10, i20, i30, vp0, nc0]
  refine s_readyTotal q hh hn ht ?_
  try simp only [q.t1, q.r1_0, q.t2, e_ch, hty_sI, hln_sI, hR_sI, cnd1, cnd2, b2i_0, b2i_1, b2i_z, if_true, if_false, true_and, and_true, true_implies, false_implies, ne_eq, not_false_eq_true, not_true_eq_false, eq_self, exIA, exIS, exAI, exAS, exSI, exSA, true_or, or_true, false_or, or_false, Nat.reduceEqDiff, Bool.true_and, Bool.and_true, Bool.false_and, Bool.and_false, Bool.true_eq_false, Bool.false_eq_true, i10, i20, i30, vp0, nc0]
  refine s_readyOfAllVoices q hh hn ht ?_
  rw [rdAll_eq i.S]
  try simp only [q.t1, q.r1_0, q.t2, e_ch, hty_sI, hln_sI, hR_sI, cnd1, cnd2, b2i_0, b2i_1, b2i_z, if_true, if_false, true_and, and_true, true_implies, false_implies, ne_eq, not_false_eq_true, not_true_eq_false, eq_self, exIA, exIS, exAI, exAS, exSI, exSA, true_or, or_true, false_or, or_false, Nat.reduceEqDiff, Bool.true_and, Bool.and_true, Bool.false_and, Bool.and_false, Bool.true_eq_false, Bool.false_eq_true, i10, i20, i30, vp0, nc0]
  refine s_hasRatification q hh hn ht ?_
  simp only [q.t1, q.r1_0, q.t2, e_flag, hty_sI, hln_sI, hR_sI, cnd1, cnd2, b2i_0, b2i_1, b2i_z, if_true, if_false, true_and, and_true, true_implies, false_implies, ne_eq, not_false_eq_true, not_true_eq_false, eq_self, exIA, exIS, exAI, exAS, exSI, exSA, true_or, or_true, false_or, or_false, Nat.reduceEqDiff, Bool.true_and, Bool.and_true, Bool.false_and, Bool.and_false, Bool.true_eq_false, Bool.false_eq_true, i10, i20, i30, vp0, nc0]
  refine s_misfitTotal q hh hn ht ?_
  try simp only [q.t1, q.r1_0, q.t2, e_ch, hty_sI, hln_sI, hR_sI, cnd1, cnd2, b2i_0, b2i_1, b2i_z, if_true, if_false, true_and, and_true, true_implies, false_implies, ne_eq, not_false_eq_true, not_true_eq_false, eq_self, exIA, exIS, exAI, exAS, exSI, exSA, true_or, or_true, false_or, or_false, Nat.reduceEqDiff, Bool.true_and, Bool.and_true, Bool.false_and, Bool.and_false, Bool.true_eq_false, Bool.false_eq_true, i10, i20, i30, vp0, nc0]
  refine s_longestToTake q hh hn i.S ht ?_
  try simp only [q.t1, q.r1_0, q.t2, e_ch, hty_sI, hln_sI, hR_sI, cnd1, cnd2, b2i_0, b2i_1, b2i_z, if_true, if_false, true_and, and_true, true_implies, false_implies, ne_eq, not_false_eq_true, not_true_eq_false, eq_self, exIA, exIS, exAI, exAS, exSI, exSA, true_or, or_true, false_or, or_false, Nat.reduceEqDiff, Bool.true_and, Bool.and_true, Bool.false_and, Bool.and_false, Bool.true_eq_false, Bool.false_eq_true, i10, i20, i30, vp0, nc0]
  refine s_meanHundredths q hh i ht mo.1 ?_
  exact s_bitsOf mo.2 k
theorem e_snap {j : Nat} {K : Int32 → XH → Prop} (w : Wd X σ m o) (hj : j < 2) : w_X4_hasSnapshot 1 (Int32.ofNat j) X K = K (b2i (!(decide (zK σ j = 0)))) X := by
  have q := w.1
  have e := (w.2.1.2.2.1 j hj).1
  simp only [w_X4_hasSnapshot, q.t1, q.r1_3, q.t113, q.n113, e, of_nn (show j < 4096 by omega), ltl hj (show 2 < 4096 by decide), vp_of hj (show 2 < 4096 by decide), nc (show j < 4096 by omega), hty_sI, hln_sI, hR_sI, cnd1, cnd2, b2i_0, b2i_1, b2i_z, if_true, if_false, true_and, and_true, true_implies, false_implies, ne_eq, not_false_eq_true, not_true_eq_false, eq_self, exIA, exIS, exAI, exAS, exSI, exSA, true_or, or_true, false_or, or_false, Nat.reduceEqDiff, Bool.true_and, Bool.and_true, Bool.false_and, Bool.and_false, Bool.true_eq_false, Bool.false_eq_true, i10, i20, i30, vp0, nc0]
  by_cases h0 : zK σ j = 0 <;> simp [h0, b2i]
theorem c_ac {K : Int64 → XH → Prop} (w : Wd X σ m o) (i : Inv (zG σ) n) (k : K (dA σ n h) X) : w_X4_chainAccounts 1 h X K := by
  have q := w.1
  have hh : TR X 2 (zG σ) := w.2.1.1
  have hn := i.cn
  have e1 : hI X 2 12 = zG σ 367 := hh 0 12 rfl
  have e2 : hI X 2 13 = zG σ 368 := hh 0 13 rfl
  have e3 : hI X 2 14 = zG σ 369 := hh 0 14 rfl
  have e4 : hI X 2 15 = zG σ 370 := hh 0 15 rfl
  have e5 : hI X 14 1 = Int32.ofNat (zH σ) := w.2.1.2.1.1
  simp only [w_X4_chainAccounts, q.t1, q.r1_0, q.t2, e_ch, e1, e2, e3, e4, hty_sI, hln_sI, hR_sI, cnd1, cnd2, b2i_0, b2i_1, b2i_z, if_true, if_false, true_and, and_true, true_implies, false_implies, ne_eq, not_false_eq_true, not_true_eq_false, eq_self, exIA, exIS, exAI, exAS, exSI, exSA, true_or, or_true, false_or, or_false, Nat.reduceEqDiff, Bool.true_and, Bool.and_true, Bool.false_and, Bool.and_false, Bool.true_eq_false, Bool.false_eq_true, i10, i20, i30, vp0, nc0]
  refine s_mostTakenTongue q hh hn ?_
  try simp only [q.t1, q.r1_0, q.t2, e_ch, hty_sI, hln_sI, hR_sI, cnd1, cnd2, b2i_0, b2i_1, b2i_z, if_true, if_false, true_and, and_true, true_implies, false_implies, ne_eq, not_false_eq_true, not_true_eq_false, eq_self, exIA, exIS, exAI, exAS, exSI, exSA, true_or, or_true, false_or, or_false, Nat.reduceEqDiff, Bool.true_and, Bool.and_true, Bool.false_and, Bool.and_false, Bool.true_eq_false, Bool.false_eq_true, i10, i20, i30, vp0, nc0]
  refine s_mostLipsState q hh hn ?_
  simp only [q.t1, q.r1_0, q.r1_1, q.t14, q.t2, e_ch, e5, hty_sI, hln_sI, hR_sI, cnd1, cnd2, b2i_0, b2i_1, b2i_z, if_true, if_false, true_and, and_true, true_implies, false_implies, ne_eq, not_false_eq_true, not_true_eq_false, eq_self, exIA, exIS, exAI, exAS, exSI, exSA, true_or, or_true, false_or, or_false, Nat.reduceEqDiff, Bool.true_and, Bool.and_true, Bool.false_and, Bool.and_false, Bool.true_eq_false, Bool.false_eq_true, i10, i20, i30, vp0, nc0]
  intro P hP
  refine dwn (n := 2) (p := fun j => P 1 (fo (fun k h => chF h (!(decide (zK σ k = 0)))) (ch (ch (ch (ch (ch (ch (ch h (zG σ 367).toInt64) (zG σ 368).toInt64) (zG σ 369).toInt64) (zG σ 370).toInt64) (Int32.ofNat (bsTo (fun t => sTaken (zG σ) n t) 2)).toInt64) (Int32.ofNat (bsTo (fun s => sSpoken (zG σ) n (Int32.ofNat s)) 4)).toInt64) (Int32.ofNat (zH σ)).toInt64) j) (Int32.ofNat j) X) (hP _ _ _ _ ?_) (fun j hj ih => hP _ _ _ _ ?_)
  · simp only [lt2t, hty_sI, hln_sI, hR_sI, cnd1, cnd2, b2i_0, b2i_1, b2i_z, if_true, if_false, true_and, and_true, true_implies, false_implies, ne_eq, not_false_eq_true, not_true_eq_false, eq_self, exIA, exIS, exAI, exAS, exSI, exSA, true_or, or_true, false_or, or_false, Nat.reduceEqDiff, Bool.true_and, Bool.and_true, Bool.false_and, Bool.and_false, Bool.true_eq_false, Bool.false_eq_true, i10, i20, i30, vp0, nc0]
    exact k
  · simp only [lt2 hj, e_snap w hj, e_flag, q.t1, of_s, hty_sI, hln_sI, hR_sI, cnd1, cnd2, b2i_0, b2i_1, b2i_z, if_true, if_false, true_and, and_true, true_implies, false_implies, ne_eq, not_false_eq_true, not_true_eq_false, eq_self, exIA, exIS, exAI, exAS, exSI, exSA, true_or, or_true, false_or, or_false, Nat.reduceEqDiff, Bool.true_and, Bool.and_true, Bool.false_and, Bool.and_false, Bool.true_eq_false, Bool.false_eq_true, i10, i20, i30, vp0, nc0]
    exact ih
theorem c_bu {K : Int64 → XH → Prop} (w : Wd X σ m o) (k : K (dBu σ h) X) : w_X4_chainBuffer 1 h X K := by
  have q := w.1
  obtain ⟨e1, e2, e3⟩ := w.2.1.2.2.2
  simp only [w_X4_chainBuffer, q.t1, q.r1_4, q.t114, e_ch, e1, hty_sI, hln_sI, hR_sI, cnd1, cnd2, b2i_0, b2i_1, b2i_z, if_true, if_false, true_and, and_true, true_implies, false_implies, ne_eq, not_false_eq_true, not_true_eq_false, eq_self, exIA, exIS, exAI, exAS, exSI, exSA, true_or, or_true, false_or, or_false, Nat.reduceEqDiff, Bool.true_and, Bool.and_true, Bool.false_and, Bool.and_false, Bool.true_eq_false, Bool.false_eq_true, i10, i20, i30, vp0, nc0]
  intro P hP
  refine dwn (n := zN σ) (p := fun j => P 1 (fo (fun k h => ch h (zT σ k).toInt64) (ch h (Int32.ofNat (zN σ)).toInt64) j) (Int32.ofNat j) X) (hP _ _ _ _ ?_) (fun j hj ih => hP _ _ _ _ ?_)
  · simp only [q.t1, q.r1_4, q.t114, e1, ltt (show zN σ < 4096 by omega), hty_sI, hln_sI, hR_sI, cnd1, cnd2, b2i_0, b2i_1, b2i_z, if_true, if_false, true_and, and_true, true_implies, false_implies, ne_eq, not_false_eq_true, not_true_eq_false, eq_self, exIA, exIS, exAI, exAS, exSI, exSA, true_or, or_true, false_or, or_false, Nat.reduceEqDiff, Bool.true_and, Bool.and_true, Bool.false_and, Bool.and_false, Bool.true_eq_false, Bool.false_eq_true, i10, i20, i30, vp0, nc0]
    exact k
  · simp only [q.t1, q.r1_4, q.t114, q.r114_0, e1, ltl hj (show zN σ < 4096 by omega), at_eq q.t115 q.n115 (show j < 60 by omega) (by decide), e3 j hj, e_ch, of_s, hty_sI, hln_sI, hR_sI, cnd1, cnd2, b2i_0, b2i_1, b2i_z, if_true, if_false, true_and, and_true, true_implies, false_implies, ne_eq, not_false_eq_true, not_true_eq_false, eq_self, exIA, exIS, exAI, exAS, exSI, exSA, true_or, or_true, false_or, or_false, Nat.reduceEqDiff, Bool.true_and, Bool.and_true, Bool.false_and, Bool.and_false, Bool.true_eq_false, Bool.false_eq_true, i10, i20, i30, vp0, nc0]
    exact ih
theorem c_vos {P43 : Nat → Int64 → Int32 → XH → Prop} {K : Int64 → XH → Prop} (w : Wd X σ m o) (i : Inv (zG σ) n) (hs : s < 5) (k : ∀ X1, Wd X1 σ m o → P43 1 (dV3 (zG σ) n s h) (Int32.ofNat (s + 1)) X1) : w_X4_digest_51 P43 1 h (Int32.ofNat s) 0 X K := by
  intro P2 hP2
  unfold dV3 at k
  refine (dwn (n := 3) (p := fun l => ∀ X2, Wd X2 σ m o → P2 1 (fo (dV (zG σ) n s) h l) (Int32.ofNat s) (Int32.ofNat l) X2) (fun X2 w2 => hP2 _ _ _ _ _ ?_) (fun l hl ih2 X2 w2 => hP2 _ _ _ _ _ ?_)) X w
  · simp only [lt3t, of_s, hty_sI, hln_sI, hR_sI, cnd1, cnd2, b2i_0, b2i_1, b2i_z, if_true, if_false, true_and, and_true, true_implies, false_implies, ne_eq, not_false_eq_true, not_true_eq_false, eq_self, exIA, exIS, exAI, exAS, exSI, exSA, true_or, or_true, false_or, or_false, Nat.reduceEqDiff, Bool.true_and, Bool.and_true, Bool.false_and, Bool.and_false, Bool.true_eq_false, Bool.false_eq_true, i10, i20, i30, vp0, nc0]
    exact k X2 w2
  · simp only [lt3 hl, w2.1.t1, hty_sI, hln_sI, hR_sI, cnd1, cnd2, b2i_0, b2i_1, b2i_z, if_true, if_false, true_and, and_true, true_implies, false_implies, ne_eq, not_false_eq_true, not_true_eq_false, eq_self, exIA, exIS, exAI, exAS, exSI, exSA, true_or, or_true, false_or, or_false, Nat.reduceEqDiff, Bool.true_and, Bool.and_true, Bool.false_and, Bool.and_false, Bool.true_eq_false, Bool.false_eq_true, i10, i20, i30, vp0, nc0]
    refine c_vo w2 i hs hl (fun X3 w3 => ?_)
    simp only [of_s]
    exact ih2 X3 w3
theorem c_100 {K : Int64 → XH → Prop} (w : Wd X σ m o) (i : Inv (zG σ) n) (k : K (dBu σ (dA σ n (fo (dO (zG σ) n) h 3))) X) : w_X4_digest_100 1 h 0 X K := by
  intro P hP
  refine dwn (n := 3) (p := fun j => P 1 (fo (dO (zG σ) n) h j) (Int32.ofNat j) X) (hP _ _ _ _ ?_) (fun j hj ih => hP _ _ _ _ ?_)
  · simp only [lt3t, w.1.t1, hty_sI, hln_sI, hR_sI, cnd1, cnd2, b2i_0, b2i_1, b2i_z, if_true, if_false, true_and, and_true, true_implies, false_implies, ne_eq, not_false_eq_true, not_true_eq_false, eq_self, exIA, exIS, exAI, exAS, exSI, exSA, true_or, or_true, false_or, or_false, Nat.reduceEqDiff, Bool.true_and, Bool.and_true, Bool.false_and, Bool.and_false, Bool.true_eq_false, Bool.false_eq_true, i10, i20, i30, vp0, nc0]
    refine c_ac w i ?_
    simp only [w.1.t1, hty_sI, hln_sI, hR_sI, cnd1, cnd2, b2i_0, b2i_1, b2i_z, if_true, if_false, true_and, and_true, true_implies, false_implies, ne_eq, not_false_eq_true, not_true_eq_false, eq_self, exIA, exIS, exAI, exAS, exSI, exSA, true_or, or_true, false_or, or_false, Nat.reduceEqDiff, Bool.true_and, Bool.and_true, Bool.false_and, Bool.and_false, Bool.true_eq_false, Bool.false_eq_true, i10, i20, i30, vp0, nc0]
    exact c_bu w k
  · simp only [lt3 hj, w.1.t1, hty_sI, hln_sI, hR_sI, cnd1, cnd2, b2i_0, b2i_1, b2i_z, if_true, if_false, true_and, and_true, true_implies, false_implies, ne_eq, not_false_eq_true, not_true_eq_false, eq_self, exIA, exIS, exAI, exAS, exSI, exSA, true_or, or_true, false_or, or_false, Nat.reduceEqDiff, Bool.true_and, Bool.and_true, Bool.false_and, Bool.and_false, Bool.true_eq_false, Bool.false_eq_true, i10, i20, i30, vp0, nc0]
    refine c_to w i hj ?_
    simp only [of_s]
    exact ih
theorem c_80 {K : Int64 → XH → Prop} (w : Wd X σ m o) (i : Inv (zG σ) n) (k : K (dBu σ (dA σ n (fo (dO (zG σ) n) (fo (dR (zG σ) n) h 4) 3))) X) : w_X4_digest_80 1 h 0 X K := by
  intro P hP
  refine dwn (n := 4) (p := fun j => P 1 (fo (dR (zG σ) n) h j) (Int32.ofNat j) X) (hP _ _ _ _ ?_) (fun j hj ih => hP _ _ _ _ ?_)
  · simp only [lt4t, hty_sI, hln_sI, hR_sI, cnd1, cnd2, b2i_0, b2i_1, b2i_z, if_true, if_false, true_and, and_true, true_implies, false_implies, ne_eq, not_false_eq_true, not_true_eq_false, eq_self, exIA, exIS, exAI, exAS, exSI, exSA, true_or, or_true, false_or, or_false, Nat.reduceEqDiff, Bool.true_and, Bool.and_true, Bool.false_and, Bool.and_false, Bool.true_eq_false, Bool.false_eq_true, i10, i20, i30, vp0, nc0]
    exact c_100 w i k
  · simp only [lt4 hj, w.1.t1, hty_sI, hln_sI, hR_sI, cnd1, cnd2, b2i_0, b2i_1, b2i_z, if_true, if_false, true_and, and_true, true_implies, false_implies, ne_eq, not_false_eq_true, not_true_eq_false, eq_self, exIA, exIS, exAI, exAS, exSI, exSA, true_or, or_true, false_or, or_false, Nat.reduceEqDiff, Bool.true_and, Bool.and_true, Bool.false_and, Bool.and_false, Bool.true_eq_false, Bool.false_eq_true, i10, i20, i30, vp0, nc0]
    refine c_re w i hj ?_
    simp only [of_s]
    exact ih
theorem c_43 {K : Int64 → XH → Prop} (w : Wd X σ m o) (i : Inv (zG σ) n) (k : ∀ X1, Wd X1 σ m o → K (dBu σ (dA σ n (fo (dO (zG σ) n) (fo (dR (zG σ) n) (fo (dV3 (zG σ) n) h 5) 4) 3))) X1) : w_X4_digest_43 1 h 0 X K := by
  intro P hP
  refine (dwn (n := 5) (p := fun j => ∀ X1, Wd X1 σ m o → P 1 (fo (dV3 (zG σ) n) h j) (Int32.ofNat j) X1) (fun X1 w1 => hP _ _ _ _ ?_) (fun j hj ih X1 w1 => hP _ _ _ _ ?_)) X w
  · simp only [lt5t, hty_sI, hln_sI, hR_sI, cnd1, cnd2, b2i_0, b2i_1, b2i_z, if_true, if_false, true_and, and_true, true_implies, false_implies, ne_eq, not_false_eq_true, not_true_eq_false, eq_self, exIA, exIS, exAI, exAS, exSI, exSA, true_or, or_true, false_or, or_false, Nat.reduceEqDiff, Bool.true_and, Bool.and_true, Bool.false_and, Bool.and_false, Bool.true_eq_false, Bool.false_eq_true, i10, i20, i30, vp0, nc0]
    exact c_80 w1 i (k X1 w1)
  · simp only [lt5 hj, hty_sI, hln_sI, hR_sI, cnd1, cnd2, b2i_0, b2i_1, b2i_z, if_true, if_false, true_and, and_true, true_implies, false_implies, ne_eq, not_false_eq_true, not_true_eq_false, eq_self, exIA, exIS, exAI, exAS, exSI, exSA, true_or, or_true, false_or, or_false, Nat.reduceEqDiff, Bool.true_and, Bool.and_true, Bool.false_and, Bool.and_false, Bool.true_eq_false, Bool.false_eq_true, i10, i20, i30, vp0, nc0]
    simp only [fo_s] at ih
    exact c_vos w1 i hj ih
theorem c_17 {K : Int64 → XH → Prop} (w : Wd X σ m o) (i : Inv (zG σ) n) (k : ∀ X1, Wd X1 σ m o → K (dBu σ (dA σ n (fo (dO (zG σ) n) (fo (dR (zG σ) n) (fo (dV3 (zG σ) n) (fo (dC (zG σ)) h n) 5) 4) 3))) X1) : w_X4_digest_17 1 h 0 X K := by
  have q := w.1
  have hh : TR X 2 (zG σ) := w.2.1.1
  have hn := i.cn
  have hn2 := hn.2
  intro P hP
  refine dwn (n := n) (p := fun j => P 1 (fo (dC (zG σ)) h j) (Int32.ofNat j) X) (hP _ _ _ _ ?_) (fun j hj ih => hP _ _ _ _ ?_)
  · simp only [q.t1, q.r1_0, q.t2, hh.cn hn, ltt (show n < 4096 by omega), hty_sI, hln_sI, hR_sI, cnd1, cnd2, b2i_0, b2i_1, b2i_z, if_true, if_false, true_and, and_true, true_implies, false_implies, ne_eq, not_false_eq_true, not_true_eq_false, eq_self, exIA, exIS, exAI, exAS, exSI, exSA, true_or, or_true, false_or, or_false, Nat.reduceEqDiff, Bool.true_and, Bool.and_true, Bool.false_and, Bool.and_false, Bool.true_eq_false, Bool.false_eq_true, i10, i20, i30, vp0, nc0]
    exact c_43 w i k
  · simp only [q.t1, q.r1_0, q.t2, hh.cn hn, ltl hj (show n < 4096 by omega), hty_sI, hln_sI, hR_sI, cnd1, cnd2, b2i_0, b2i_1, b2i_z, if_true, if_false, true_and, and_true, true_implies, false_implies, ne_eq, not_false_eq_true, not_true_eq_false, eq_self, exIA, exIS, exAI, exAS, exSI, exSA, true_or, or_true, false_or, or_false, Nat.reduceEqDiff, Bool.true_and, Bool.and_true, Bool.false_and, Bool.and_false, Bool.true_eq_false, Bool.false_eq_true, i10, i20, i30, vp0, nc0]
    refine c_cl w i hj ?_
    simp only [of_s]
    exact ih
theorem c_dg {K : Int64 → XH → Prop} (w : Wd X σ m o) (i : Inv (zG σ) n) (k : ∀ X1, Wd X1 σ m o → K (dgst σ n) X1) : w_X4_digest 1 X K := by
  have q := w.1
  have hh : TR X 2 (zG σ) := w.2.1.1
  simp only [w_X4_digest, q.t1, q.r1_0, q.t2, hh.cn i.cn, e_ch, hty_sI, hln_sI, hR_sI, cnd1, cnd2, b2i_0, b2i_1, b2i_z, if_true, if_false, true_and, and_true, true_implies, false_implies, ne_eq, not_false_eq_true, not_true_eq_false, eq_self, exIA, exIS, exAI, exAS, exSI, exSA, true_or, or_true, false_or, or_false, Nat.reduceEqDiff, Bool.true_and, Bool.and_true, Bool.false_and, Bool.and_false, Bool.true_eq_false, Bool.false_eq_true, i10, i20, i30, vp0, nc0]
  exact c_17 w i k
-- the reference
def MD (X : XH) (d σ : St) (o : Ou) (h : Int64) : Prop := Wd X d σ o ∧ hL X 123 14 = h
theorem Wd.mixL {v : Int64} (w : Wd X d σ o) : Wd (sL X 123 14 v) d σ o := by
  obtain ⟨q, h4, h5, h6⟩ := w
  refine ⟨q, h4, h5, ?_, h6.2.1, h6.2.2⟩
  show up2 (hL X) 123 14 v 129 0 = _
  rw [up2_ne (by decide)]
  exact h6.1
theorem m_mix {v : Int64} {K : XH → Prop} (w : MD X d σ o h) (k : ∀ X1, MD X1 d σ o (ch h v) → K X1) : w_X5_mixIn 123 v X K := by
  have q := w.1.1
  simp only [w_X5_mixIn, q.t123, w.2, hty_sI, hln_sI, hR_sI, cnd1, cnd2, b2i_0, b2i_1, b2i_z, if_true, if_false, true_and, and_true, true_implies, false_implies, ne_eq, not_false_eq_true, not_true_eq_false, eq_self, exIA, exIS, exAI, exAS, exSI, exSA, true_or, or_true, false_or, or_false, Nat.reduceEqDiff, Bool.true_and, Bool.and_true, Bool.false_and, Bool.and_false, Bool.true_eq_false, Bool.false_eq_true, i10, i20, i30, vp0, nc0]
  exact k _ ⟨w.1.mixL, sL_at⟩
theorem ixk (c k : Nat) : 13 * Int32.ofNat c + Int32.ofNat k = Int32.ofNat (13 * c + k) := by
  rw [Int32.ofNat_add, Int32.ofNat_mul]
  rfl

theorem m_130 {X1 : XH} {v : Int64} {P27 : Nat → Int32 → XH → Prop} {P81 : Nat → Int32 → Int32 → XH → Prop} {K : Int64 → XH → Prop} (w1 : MD X1 d σ o h) (i : Inv (zG σ) n) (hcn : c < n) (ht : t < 3) (k : ∀ X2, MD X2 d σ o (dT0 (zG σ) c t (ch h v)) → P81 123 (Int32.ofNat c) (Int32.ofNat (t + 1)) X2) : w_X5_digest_130 P27 P81 123 (Int32.ofNat c) (Int32.ofNat t) 123 v X1 K := by
  have hc : c < 24 := Nat.lt_of_lt_of_le hcn i.1.2
  unfold w_X5_digest_130
  have q1 := w1.1.1
  have h1 : RR X1 (zG σ) := w1.1.rr
  try simp only [q1.t123, q1.r123_0, q1.t124, q1.n124, hty_sI, hln_sI, hR_sI, cnd1, cnd2, b2i_0, b2i_1, b2i_z, if_true, if_false, true_and, and_true, true_implies, false_implies, ne_eq, not_false_eq_true, not_true_eq_false, eq_self, exIA, exIS, exAI, exAS, exSI, exSA, true_or, or_true, false_or, or_false, Nat.reduceEqDiff, Bool.true_and, Bool.and_true, Bool.false_and, Bool.and_false, Bool.true_eq_false, Bool.false_eq_true, i10, i20, i30, vp0, nc0]
  refine m_mix w1 (fun X2 w2 => ?_)
  have q2 := w2.1.1
  have h2 : RR X2 (zG σ) := w2.1.rr
  try simp only [q2.t123, q2.r123_0, q2.t124, q2.n124, x_reason q2 h2 hc ht (i.S c hcn) (i.F ht c hcn), hty_sI, hln_sI, hR_sI, cnd1, cnd2, b2i_0, b2i_1, b2i_z, if_true, if_false, true_and, and_true, true_implies, false_implies, ne_eq, not_false_eq_true, not_true_eq_false, eq_self, exIA, exIS, exAI, exAS, exSI, exSA, true_or, or_true, false_or, or_false, Nat.reduceEqDiff, Bool.true_and, Bool.and_true, Bool.false_and, Bool.and_false, Bool.true_eq_false, Bool.false_eq_true, i10, i20, i30, vp0, nc0]
  refine m_mix w2 (fun X3 w3 => ?_)
  have e0 : (gF (zG σ) c t ≤ 0) = (pHas (zG σ) c t = false) := by unfold pHas; simp
  have q3 := w3.1.1
  have h3 : RR X3 (zG σ) := w3.1.rr
  try simp only [q3.t123, q3.r123_0, q3.t124, q3.n124, x_frames q3 h3 hc ht, e0, hty_sI, hln_sI, hR_sI, cnd1, cnd2, b2i_0, b2i_1, b2i_z, if_true, if_false, true_and, and_true, true_implies, false_implies, ne_eq, not_false_eq_true, not_true_eq_false, eq_self, exIA, exIS, exAI, exAS, exSI, exSA, true_or, or_true, false_or, or_false, Nat.reduceEqDiff, Bool.true_and, Bool.and_true, Bool.false_and, Bool.and_false, Bool.true_eq_false, Bool.false_eq_true, i10, i20, i30, vp0, nc0]
  unfold dT0 at k
  cases hp : pHas (zG σ) c t
  · simp only [hp, Bool.false_eq_true, if_false] at k
    simp only [of_s, hty_sI, hln_sI, hR_sI, cnd1, cnd2, b2i_0, b2i_1, b2i_z, if_true, if_false, true_and, and_true, true_implies, false_implies, ne_eq, not_false_eq_true, not_true_eq_false, eq_self, exIA, exIS, exAI, exAS, exSI, exSA, true_or, or_true, false_or, or_false, Nat.reduceEqDiff, Bool.true_and, Bool.and_true, Bool.false_and, Bool.and_false, Bool.true_eq_false, Bool.false_eq_true, i10, i20, i30, vp0, nc0]
    exact k X3 w3
  simp only [hp, if_true] at k
  simp only [x_room q3 h3 hc ht, q3.t123, hty_sI, hln_sI, hR_sI, cnd1, cnd2, b2i_0, b2i_1, b2i_z, if_true, if_false, true_and, and_true, true_implies, false_implies, ne_eq, not_false_eq_true, not_true_eq_false, eq_self, exIA, exIS, exAI, exAS, exSI, exSA, true_or, or_true, false_or, or_false, Nat.reduceEqDiff, Bool.true_and, Bool.and_true, Bool.false_and, Bool.and_false, Bool.true_eq_false, Bool.false_eq_true, i10, i20, i30, vp0, nc0]
  refine m_mix w3 (fun X4 w4 => ?_)
  have q4 := w4.1.1
  have h4 : RR X4 (zG σ) := w4.1.rr
  try simp only [q4.t123, q4.r123_0, q4.t124, q4.n124, x_hundredths q4 h4 hc ht (i.L c hcn), hty_sI, hln_sI, hR_sI, cnd1, cnd2, b2i_0, b2i_1, b2i_z, if_true, if_false, true_and, and_true, true_implies, false_implies, ne_eq, not_false_eq_true, not_true_eq_false, eq_self, exIA, exIS, exAI, exAS, exSI, exSA, true_or, or_true, false_or, or_false, Nat.reduceEqDiff, Bool.true_and, Bool.and_true, Bool.false_and, Bool.and_false, Bool.true_eq_false, Bool.false_eq_true, i10, i20, i30, vp0, nc0]
  refine m_mix w4 (fun X5 w5 => ?_)
  have q5 := w5.1.1
  have h5 : RR X5 (zG σ) := w5.1.rr
  try simp only [q5.t123, q5.r123_0, q5.t124, q5.n124, hty_sI, hln_sI, hR_sI, cnd1, cnd2, b2i_0, b2i_1, b2i_z, if_true, if_false, true_and, and_true, true_implies, false_implies, ne_eq, not_false_eq_true, not_true_eq_false, eq_self, exIA, exIS, exAI, exAS, exSI, exSA, true_or, or_true, false_or, or_false, Nat.reduceEqDiff, Bool.true_and, Bool.and_true, Bool.false_and, Bool.and_false, Bool.true_eq_false, Bool.false_eq_true, i10, i20, i30, vp0, nc0]
  refine s_needed q5 h5 hc ht (i.2.1 c hcn) hp ?_
  try simp only [q5.t123, q5.r123_0, q5.t124, q5.n124, hty_sI, hln_sI, hR_sI, cnd1, cnd2, b2i_0, b2i_1, b2i_z, if_true, if_false, true_and, and_true, true_implies, false_implies, ne_eq, not_false_eq_true, not_true_eq_false, eq_self, exIA, exIS, exAI, exAS, exSI, exSA, true_or, or_true, false_or, or_false, Nat.reduceEqDiff, Bool.true_and, Bool.and_true, Bool.false_and, Bool.and_false, Bool.true_eq_false, Bool.false_eq_true, i10, i20, i30, vp0, nc0]
  refine m_mix w5 (fun X6 w6 => ?_)
  try simp only [w6.1.1.t123, of_s, hty_sI, hln_sI, hR_sI, cnd1, cnd2, b2i_0, b2i_1, b2i_z, if_true, if_false, true_and, and_true, true_implies, false_implies, ne_eq, not_false_eq_true, not_true_eq_false, eq_self, exIA, exIS, exAI, exAS, exSI, exSA, true_or, or_true, false_or, or_false, Nat.reduceEqDiff, Bool.true_and, Bool.and_true, Bool.false_and, Bool.and_false, Bool.true_eq_false, Bool.false_eq_true, i10, i20, i30, vp0, nc0]
  exact k X6 w6
theorem m_tr {X1 : XH} {P27 : Nat → Int32 → XH → Prop} {K : Int64 → XH → Prop} (w1 : MD X1 d σ o h) (i : Inv (zG σ) n) (hcn : c < n) (k : ∀ X2, MD X2 d σ o (fo (dT (zG σ) c) h 3) → P27 123 (Int32.ofNat (c + 1)) X2) : w_X5_digest_81 P27 123 (Int32.ofNat c) 0 X1 K := by
  have hc : c < 24 := Nat.lt_of_lt_of_le hcn i.1.2
  intro P hP
  refine (dwn (n := 3) (p := fun j => ∀ X1, MD X1 d σ o (fo (dT (zG σ) c) h j) → P 123 (Int32.ofNat c) (Int32.ofNat j) X1) (fun X1 w1 => hP _ _ _ _ ?_) (fun t ht ih X1 w1 => hP _ _ _ _ ?_)) X1 w1
  · simp only [lt3t, of_s, hty_sI, hln_sI, hR_sI, cnd1, cnd2, b2i_0, b2i_1, b2i_z, if_true, if_false, true_and, and_true, true_implies, false_implies, ne_eq, not_false_eq_true, not_true_eq_false, eq_self, exIA, exIS, exAI, exAS, exSI, exSA, true_or, or_true, false_or, or_false, Nat.reduceEqDiff, Bool.true_and, Bool.and_true, Bool.false_and, Bool.and_false, Bool.true_eq_false, Bool.false_eq_true, i10, i20, i30, vp0, nc0]
    exact k X1 w1
  have q1 := w1.1.1
  have h1 : RR X1 (zG σ) := w1.1.rr
  try simp only [q1.t123, q1.r123_0, q1.t124, q1.n124, lt3 ht, x_frames q1 h1 hc ht, hty_sI, hln_sI, hR_sI, cnd1, cnd2, b2i_0, b2i_1, b2i_z, if_true, if_false, true_and, and_true, true_implies, false_implies, ne_eq, not_false_eq_true, not_true_eq_false, eq_self, exIA, exIS, exAI, exAS, exSI, exSA, true_or, or_true, false_or, or_false, Nat.reduceEqDiff, Bool.true_and, Bool.and_true, Bool.false_and, Bool.and_false, Bool.true_eq_false, Bool.false_eq_true, i10, i20, i30, vp0, nc0]
  refine m_mix w1 (fun X2 w2 => ?_)
  have q2 := w2.1.1
  have h2 : RR X2 (zG σ) := w2.1.rr
  try simp only [q2.t123, q2.r123_0, q2.t124, q2.n124, w_X5_at, ixA_eq, vp3 (show 13 * c + 7 + t < 371 by omega), h2.v (show 13 * c + 7 + t < 371 by omega), show zG σ (13 * c + 7 + t) = gAn (zG σ) c t from rfl, hty_sI, hln_sI, hR_sI, cnd1, cnd2, b2i_0, b2i_1, b2i_z, if_true, if_false, true_and, and_true, true_implies, false_implies, ne_eq, not_false_eq_true, not_true_eq_false, eq_self, exIA, exIS, exAI, exAS, exSI, exSA, true_or, or_true, false_or, or_false, Nat.reduceEqDiff, Bool.true_and, Bool.and_true, Bool.false_and, Bool.and_false, Bool.true_eq_false, Bool.false_eq_true, i10, i20, i30, vp0, nc0]
  refine m_mix w2 (fun X3 w3 => ?_)
  have q3 := w3.1.1
  have h3 : RR X3 (zG σ) := w3.1.rr
  try simp only [q3.t123, q3.r123_0, q3.t124, q3.n124, x_isTaken q3 h3 hc ht, hty_sI, hln_sI, hR_sI, cnd1, cnd2, b2i_0, b2i_1, b2i_z, if_true, if_false, true_and, and_true, true_implies, false_implies, ne_eq, not_false_eq_true, not_true_eq_false, eq_self, exIA, exIS, exAI, exAS, exSI, exSA, true_or, or_true, false_or, or_false, Nat.reduceEqDiff, Bool.true_and, Bool.and_true, Bool.false_and, Bool.and_false, Bool.true_eq_false, Bool.false_eq_true, i10, i20, i30, vp0, nc0]
  have ih' : ∀ X2, MD X2 d σ o (dT0 (zG σ) c t (chF (ch (ch (fo (dT (zG σ) c) h t) (gF (zG σ) c t).toInt64) (gAn (zG σ) c t).toInt64) (pTk (zG σ) c t))) → P 123 (Int32.ofNat c) (Int32.ofNat (t + 1)) X2 := ih
  cases hp : pTk (zG σ) c t
  · rw [hp] at ih'
    simp only [hty_sI, hln_sI, hR_sI, cnd1, cnd2, b2i_0, b2i_1, b2i_z, if_true, if_false, true_and, and_true, true_implies, false_implies, ne_eq, not_false_eq_true, not_true_eq_false, eq_self, exIA, exIS, exAI, exAS, exSI, exSA, true_or, or_true, false_or, or_false, Nat.reduceEqDiff, Bool.true_and, Bool.and_true, Bool.false_and, Bool.and_false, Bool.true_eq_false, Bool.false_eq_true, i10, i20, i30, vp0, nc0]
    exact m_130 w3 i hcn ht ih'
  · rw [hp] at ih'
    simp only [hty_sI, hln_sI, hR_sI, cnd1, cnd2, b2i_0, b2i_1, b2i_z, if_true, if_false, true_and, and_true, true_implies, false_implies, ne_eq, not_false_eq_true, not_true_eq_false, eq_self, exIA, exIS, exAI, exAS, exSI, exSA, true_or, or_true, false_or, or_false, Nat.reduceEqDiff, Bool.true_and, Bool.and_true, Bool.false_and, Bool.and_false, Bool.true_eq_false, Bool.false_eq_true, i10, i20, i30, vp0, nc0]
    exact m_130 w3 i hcn ht ih'
theorem m_cl {X1 : XH} {P27 : Nat → Int32 → XH → Prop} {K : Int64 → XH → Prop} (w1 : MD X1 d σ o h) (i : Inv (zG σ) n) (hcn : c < n) (k : ∀ X2, MD X2 d σ o (dC (zG σ) c h) → P27 123 (Int32.ofNat (c + 1)) X2) : w_X5_digest_41 P27 123 (Int32.ofNat c) 0 X1 K := by
  have hc : c < 24 := Nat.lt_of_lt_of_le hcn i.1.2
  have l4 : ∀ j, j < 4 → ((3 : Int32) < Int32.ofNat j) = False := fun j hj => (of_lt (i := 3) (by decide) (by omega)).trans (eq_false (by omega))
  have l4t : ((3 : Int32) < Int32.ofNat 4) = True := by decide
  intro P hP
  refine (dwn (n := 4) (p := fun j => ∀ X1, MD X1 d σ o (fo (fun k h => ch h (zG σ (13 * c + k)).toInt64) h j) → P 123 (Int32.ofNat c) (Int32.ofNat j) X1) (fun X1 w1 => hP _ _ _ _ ?_) (fun j hj ih X1 w1 => hP _ _ _ _ ?_)) X1 w1
  rotate_left
  · skip
    have q1 := w1.1.1
    have h1 : RR X1 (zG σ) := w1.1.rr
    try simp only [q1.t123, q1.r123_0, q1.t124, q1.n124, l4 j hj, w_X5_at, ixk, vp3 (show 13 * c + j < 371 by omega), h1.v (show 13 * c + j < 371 by omega), hty_sI, hln_sI, hR_sI, cnd1, cnd2, b2i_0, b2i_1, b2i_z, if_true, if_false, true_and, and_true, true_implies, false_implies, ne_eq, not_false_eq_true, not_true_eq_false, eq_self, exIA, exIS, exAI, exAS, exSI, exSA, true_or, or_true, false_or, or_false, Nat.reduceEqDiff, Bool.true_and, Bool.and_true, Bool.false_and, Bool.and_false, Bool.true_eq_false, Bool.false_eq_true, i10, i20, i30, vp0, nc0]
    refine m_mix w1 (fun X2 w2 => ?_)
    simp only [w2.1.1.t123, of_s, hty_sI, hln_sI, hR_sI, cnd1, cnd2, b2i_0, b2i_1, b2i_z, if_true, if_false, true_and, and_true, true_implies, false_implies, ne_eq, not_false_eq_true, not_true_eq_false, eq_self, exIA, exIS, exAI, exAS, exSI, exSA, true_or, or_true, false_or, or_false, Nat.reduceEqDiff, Bool.true_and, Bool.and_true, Bool.false_and, Bool.and_false, Bool.true_eq_false, Bool.false_eq_true, i10, i20, i30, vp0, nc0]
    exact ih X2 w2
  have q1 := w1.1.1
  have h1 : RR X1 (zG σ) := w1.1.rr
  try simp only [q1.t123, q1.r123_0, q1.t124, q1.n124, l4t, hty_sI, hln_sI, hR_sI, cnd1, cnd2, b2i_0, b2i_1, b2i_z, if_true, if_false, true_and, and_true, true_implies, false_implies, ne_eq, not_false_eq_true, not_true_eq_false, eq_self, exIA, exIS, exAI, exAS, exSI, exSA, true_or, or_true, false_or, or_false, Nat.reduceEqDiff, Bool.true_and, Bool.and_true, Bool.false_and, Bool.and_false, Bool.true_eq_false, Bool.false_eq_true, i10, i20, i30, vp0, nc0]
  refine s_longest q1 h1 hc ?_
  try simp only [q1.t123, q1.r123_0, q1.t124, q1.n124, hty_sI, hln_sI, hR_sI, cnd1, cnd2, b2i_0, b2i_1, b2i_z, if_true, if_false, true_and, and_true, true_implies, false_implies, ne_eq, not_false_eq_true, not_true_eq_false, eq_self, exIA, exIS, exAI, exAS, exSI, exSA, true_or, or_true, false_or, or_false, Nat.reduceEqDiff, Bool.true_and, Bool.and_true, Bool.false_and, Bool.and_false, Bool.true_eq_false, Bool.false_eq_true, i10, i20, i30, vp0, nc0]
  refine m_mix w1 (fun X2 w2 => ?_)
  try simp only [w2.1.1.t123, hty_sI, hln_sI, hR_sI, cnd1, cnd2, b2i_0, b2i_1, b2i_z, if_true, if_false, true_and, and_true, true_implies, false_implies, ne_eq, not_false_eq_true, not_true_eq_false, eq_self, exIA, exIS, exAI, exAS, exSI, exSA, true_or, or_true, false_or, or_false, Nat.reduceEqDiff, Bool.true_and, Bool.and_true, Bool.false_and, Bool.and_false, Bool.true_eq_false, Bool.false_eq_true, i10, i20, i30, vp0, nc0]
  exact m_tr w2 i hcn k
theorem m_vo {X1 : XH} {P202 : Nat → Int32 → XH → Prop} {K : Int64 → XH → Prop} (w1 : MD X1 d σ o h) (i : Inv (zG σ) n) (hs : s < 5) (k : ∀ X2, MD X2 d σ o (dV3 (zG σ) n s h) → P202 123 (Int32.ofNat (s + 1)) X2) : w_X5_digest_209 P202 123 (Int32.ofNat s) 0 X1 K := by
  unfold dV3 at k
  have hn := i.cn
  intro P hP
  refine (dwn (n := 3) (p := fun j => ∀ X1, MD X1 d σ o (fo (dV (zG σ) n s) h j) → P 123 (Int32.ofNat s) (Int32.ofNat j) X1) (fun X1 w1 => hP _ _ _ _ ?_) (fun t ht ih X1 w1 => hP _ _ _ _ ?_)) X1 w1
  · simp only [lt3t, of_s, hty_sI, hln_sI, hR_sI, cnd1, cnd2, b2i_0, b2i_1, b2i_z, if_true, if_false, true_and, and_true, true_implies, false_implies, ne_eq, not_false_eq_true, not_true_eq_false, eq_self, exIA, exIS, exAI, exAS, exSI, exSA, true_or, or_true, false_or, or_false, Nat.reduceEqDiff, Bool.true_and, Bool.and_true, Bool.false_and, Bool.and_false, Bool.true_eq_false, Bool.false_eq_true, i10, i20, i30, vp0, nc0]
    exact k X1 w1
  have q1 := w1.1.1
  have h1 : RR X1 (zG σ) := w1.1.rr
  try simp only [q1.t123, q1.r123_0, q1.t124, q1.n124, lt3 ht, ixSt_eq, vp3 (show 312 + (3 * s + t) < 371 by omega), h1.v (show 312 + (3 * s + t) < 371 by omega), show zG σ (312 + (3 * s + t)) = gSt (zG σ) s t from rfl, hty_sI, hln_sI, hR_sI, cnd1, cnd2, b2i_0, b2i_1, b2i_z, if_true, if_false, true_and, and_true, true_implies, false_implies, ne_eq, not_false_eq_true, not_true_eq_false, eq_self, exIA, exIS, exAI, exAS, exSI, exSA, true_or, or_true, false_or, or_false, Nat.reduceEqDiff, Bool.true_and, Bool.and_true, Bool.false_and, Bool.and_false, Bool.true_eq_false, Bool.false_eq_true, i10, i20, i30, vp0, nc0]
  refine m_mix w1 (fun X2 w2 => ?_)
  have q2 := w2.1.1
  have h2 : RR X2 (zG σ) := w2.1.rr
  try simp only [q2.t123, q2.r123_0, q2.t124, q2.n124, x_left q2 h2 hs ht, hty_sI, hln_sI, hR_sI, cnd1, cnd2, b2i_0, b2i_1, b2i_z, if_true, if_false, true_and, and_true, true_implies, false_implies, ne_eq, not_false_eq_true, not_true_eq_false, eq_self, exIA, exIS, exAI, exAS, exSI, exSA, true_or, or_true, false_or, or_false, Nat.reduceEqDiff, Bool.true_and, Bool.and_true, Bool.false_and, Bool.and_false, Bool.true_eq_false, Bool.false_eq_true, i10, i20, i30, vp0, nc0]
  refine m_mix w2 (fun X3 w3 => ?_)
  have q3 := w3.1.1
  have h3 : RR X3 (zG σ) := w3.1.rr
  try simp only [q3.t123, q3.r123_0, q3.t124, q3.n124, hty_sI, hln_sI, hR_sI, cnd1, cnd2, b2i_0, b2i_1, b2i_z, if_true, if_false, true_and, and_true, true_implies, false_implies, ne_eq, not_false_eq_true, not_true_eq_false, eq_self, exIA, exIS, exAI, exAS, exSI, exSA, true_or, or_true, false_or, or_false, Nat.reduceEqDiff, Bool.true_and, Bool.and_true, Bool.false_and, Bool.and_false, Bool.true_eq_false, Bool.false_eq_true, i10, i20, i30, vp0, nc0]
  refine s_voiced q3 h3 hn ht ?_
  try simp only [q3.t123, q3.r123_0, q3.t124, q3.n124, hty_sI, hln_sI, hR_sI, cnd1, cnd2, b2i_0, b2i_1, b2i_z, if_true, if_false, true_and, and_true, true_implies, false_implies, ne_eq, not_false_eq_true, not_true_eq_false, eq_self, exIA, exIS, exAI, exAS, exSI, exSA, true_or, or_true, false_or, or_false, Nat.reduceEqDiff, Bool.true_and, Bool.and_true, Bool.false_and, Bool.and_false, Bool.true_eq_false, Bool.false_eq_true, i10, i20, i30, vp0, nc0]
  refine m_mix w3 (fun X4 w4 => ?_)
  have q4 := w4.1.1
  have h4 : RR X4 (zG σ) := w4.1.rr
  try simp only [q4.t123, q4.r123_0, q4.t124, q4.n124, hty_sI, hln_sI, hR_sI, cnd1, cnd2, b2i_0, b2i_1, b2i_z, if_true, if_false, true_and, and_true, true_implies, false_implies, ne_eq, not_false_eq_true, not_true_eq_false, eq_self, exIA, exIS, exAI, exAS, exSI, exSA, true_or, or_true, false_or, or_false, Nat.reduceEqDiff, Bool.true_and, Bool.and_true, Bool.false_and, Bool.and_false, Bool.true_eq_false, Bool.false_eq_true, i10, i20, i30, vp0, nc0]
  refine s_sessions q4 h4 i hs ht ?_
  try simp only [q4.t123, q4.r123_0, q4.t124, q4.n124, hty_sI, hln_sI, hR_sI, cnd1, cnd2, b2i_0, b2i_1, b2i_z, if_true, if_false, true_and, and_true, true_implies, false_implies, ne_eq, not_false_eq_true, not_true_eq_false, eq_self, exIA, exIS, exAI, exAS, exSI, exSA, true_or, or_true, false_or, or_false, Nat.reduceEqDiff, Bool.true_and, Bool.and_true, Bool.false_and, Bool.and_false, Bool.true_eq_false, Bool.false_eq_true, i10, i20, i30, vp0, nc0]
  refine m_mix w4 (fun X5 w5 => ?_)
  have q5 := w5.1.1
  have h5 : RR X5 (zG σ) := w5.1.rr
  try simp only [q5.t123, q5.r123_0, q5.t124, q5.n124, hty_sI, hln_sI, hR_sI, cnd1, cnd2, b2i_0, b2i_1, b2i_z, if_true, if_false, true_and, and_true, true_implies, false_implies, ne_eq, not_false_eq_true, not_true_eq_false, eq_self, exIA, exIS, exAI, exAS, exSI, exSA, true_or, or_true, false_or, or_false, Nat.reduceEqDiff, Bool.true_and, Bool.and_true, Bool.false_and, Bool.and_false, Bool.true_eq_false, Bool.false_eq_true, i10, i20, i30, vp0, nc0]
  refine s_sessions q5 h5 i hs ht ?_
  try simp only [q5.t123, q5.r123_0, q5.t124, q5.n124, hty_sI, hln_sI, hR_sI, cnd1, cnd2, b2i_0, b2i_1, b2i_z, if_true, if_false, true_and, and_true, true_implies, false_implies, ne_eq, not_false_eq_true, not_true_eq_false, eq_self, exIA, exIS, exAI, exAS, exSI, exSA, true_or, or_true, false_or, or_false, Nat.reduceEqDiff, Bool.true_and, Bool.and_true, Bool.false_and, Bool.and_false, Bool.true_eq_false, Bool.false_eq_true, i10, i20, i30, vp0, nc0]
  refine m_mix w5 (fun X6 w6 => ?_)
  try simp only [w6.1.1.t123, of_s, hty_sI, hln_sI, hR_sI, cnd1, cnd2, b2i_0, b2i_1, b2i_z, if_true, if_false, true_and, and_true, true_implies, false_implies, ne_eq, not_false_eq_true, not_true_eq_false, eq_self, exIA, exIS, exAI, exAS, exSI, exSA, true_or, or_true, false_or, or_false, Nat.reduceEqDiff, Bool.true_and, Bool.and_true, Bool.false_and, Bool.and_false, Bool.true_eq_false, Bool.false_eq_true, i10, i20, i30, vp0, nc0]
  exact ih X6 w6
theorem m_360 {X1 : XH} {v : Int64} {P295 : Nat → Int32 → XH → Prop} {P322 : Nat → Int32 → Int32 → XH → Prop} {K : Int64 → XH → Prop} (w1 : MD X1 d σ o h) (i : Inv (zG σ) n) (hr : r < 4) (ht : t < 3) (k : ∀ X2, MD X2 d σ o (ch (ch (ch h v) (sSigs (zG σ) r t).toInt64) (sMiss (zG σ) n r t).toInt64) → P322 123 (Int32.ofNat r) (Int32.ofNat (t + 1)) X2) : w_X5_digest_360 P295 P322 123 (Int32.ofNat r) (Int32.ofNat t) 123 v X1 K := by
  have hn := i.cn
  unfold w_X5_digest_360
  have q1 := w1.1.1
  have h1 : RR X1 (zG σ) := w1.1.rr
  try simp only [q1.t123, q1.r123_0, q1.t124, q1.n124, hty_sI, hln_sI, hR_sI, cnd1, cnd2, b2i_0, b2i_1, b2i_z, if_true, if_false, true_and, and_true, true_implies, false_implies, ne_eq, not_false_eq_true, not_true_eq_false, eq_self, exIA, exIS, exAI, exAS, exSI, exSA, true_or, or_true, false_or, or_false, Nat.reduceEqDiff, Bool.true_and, Bool.and_true, Bool.false_and, Bool.and_false, Bool.true_eq_false, Bool.false_eq_true, i10, i20, i30, vp0, nc0]
  refine m_mix w1 (fun X2 w2 => ?_)
  have q2 := w2.1.1
  have h2 : RR X2 (zG σ) := w2.1.rr
  try simp only [q2.t123, q2.r123_0, q2.t124, q2.n124, hty_sI, hln_sI, hR_sI, cnd1, cnd2, b2i_0, b2i_1, b2i_z, if_true, if_false, true_and, and_true, true_implies, false_implies, ne_eq, not_false_eq_true, not_true_eq_false, eq_self, exIA, exIS, exAI, exAS, exSI, exSA, true_or, or_true, false_or, or_false, Nat.reduceEqDiff, Bool.true_and, Bool.and_true, Bool.false_and, Bool.and_false, Bool.true_eq_false, Bool.false_eq_true, i10, i20, i30, vp0, nc0]
  refine s_signatures q2 h2 hr ht ?_
  try simp only [q2.t123, q2.r123_0, q2.t124, q2.n124, hty_sI, hln_sI, hR_sI, cnd1, cnd2, b2i_0, b2i_1, b2i_z, if_true, if_false, true_and, and_true, true_implies, false_implies, ne_eq, not_false_eq_true, not_true_eq_false, eq_self, exIA, exIS, exAI, exAS, exSI, exSA, true_or, or_true, false_or, or_false, Nat.reduceEqDiff, Bool.true_and, Bool.and_true, Bool.false_and, Bool.and_false, Bool.true_eq_false, Bool.false_eq_true, i10, i20, i30, vp0, nc0]
  refine m_mix w2 (fun X3 w3 => ?_)
  have q3 := w3.1.1
  have h3 : RR X3 (zG σ) := w3.1.rr
  try simp only [q3.t123, q3.r123_0, q3.t124, q3.n124, hty_sI, hln_sI, hR_sI, cnd1, cnd2, b2i_0, b2i_1, b2i_z, if_true, if_false, true_and, and_true, true_implies, false_implies, ne_eq, not_false_eq_true, not_true_eq_false, eq_self, exIA, exIS, exAI, exAS, exSI, exSA, true_or, or_true, false_or, or_false, Nat.reduceEqDiff, Bool.true_and, Bool.and_true, Bool.false_and, Bool.and_false, Bool.true_eq_false, Bool.false_eq_true, i10, i20, i30, vp0, nc0]
  refine s_missing q3 h3 hn hr ht ?_
  try simp only [q3.t123, q3.r123_0, q3.t124, q3.n124, hty_sI, hln_sI, hR_sI, cnd1, cnd2, b2i_0, b2i_1, b2i_z, if_true, if_false, true_and, and_true, true_implies, false_implies, ne_eq, not_false_eq_true, not_true_eq_false, eq_self, exIA, exIS, exAI, exAS, exSI, exSA, true_or, or_true, false_or, or_false, Nat.reduceEqDiff, Bool.true_and, Bool.and_true, Bool.false_and, Bool.and_false, Bool.true_eq_false, Bool.false_eq_true, i10, i20, i30, vp0, nc0]
  refine m_mix w3 (fun X4 w4 => ?_)
  try simp only [w4.1.1.t123, of_s, hty_sI, hln_sI, hR_sI, cnd1, cnd2, b2i_0, b2i_1, b2i_z, if_true, if_false, true_and, and_true, true_implies, false_implies, ne_eq, not_false_eq_true, not_true_eq_false, eq_self, exIA, exIS, exAI, exAS, exSI, exSA, true_or, or_true, false_or, or_false, Nat.reduceEqDiff, Bool.true_and, Bool.and_true, Bool.false_and, Bool.and_false, Bool.true_eq_false, Bool.false_eq_true, i10, i20, i30, vp0, nc0]
  exact k X4 w4
theorem m_342 {X1 : XH} {v : Int64} {P295 : Nat → Int32 → XH → Prop} {P322 : Nat → Int32 → Int32 → XH → Prop} {K : Int64 → XH → Prop} (w1 : MD X1 d σ o h) (i : Inv (zG σ) n) (hr : r < 4) (ht : t < 3) (k : ∀ X2, MD X2 d σ o (ch (ch (chF (ch h v) (pMx (zG σ) r t)) (sSigs (zG σ) r t).toInt64) (sMiss (zG σ) n r t).toInt64) → P322 123 (Int32.ofNat r) (Int32.ofNat (t + 1)) X2) : w_X5_digest_342 P295 P322 123 (Int32.ofNat r) (Int32.ofNat t) 123 v X1 K := by
  unfold w_X5_digest_342
  have q1 := w1.1.1
  have h1 : RR X1 (zG σ) := w1.1.rr
  try simp only [q1.t123, q1.r123_0, q1.t124, q1.n124, hty_sI, hln_sI, hR_sI, cnd1, cnd2, b2i_0, b2i_1, b2i_z, if_true, if_false, true_and, and_true, true_implies, false_implies, ne_eq, not_false_eq_true, not_true_eq_false, eq_self, exIA, exIS, exAI, exAS, exSI, exSA, true_or, or_true, false_or, or_false, Nat.reduceEqDiff, Bool.true_and, Bool.and_true, Bool.false_and, Bool.and_false, Bool.true_eq_false, Bool.false_eq_true, i10, i20, i30, vp0, nc0]
  refine m_mix w1 (fun X2 w2 => ?_)
  have q2 := w2.1.1
  have h2 : RR X2 (zG σ) := w2.1.rr
  try simp only [q2.t123, q2.r123_0, q2.t124, q2.n124, x_mixed q2 h2 hr ht, hty_sI, hln_sI, hR_sI, cnd1, cnd2, b2i_0, b2i_1, b2i_z, if_true, if_false, true_and, and_true, true_implies, false_implies, ne_eq, not_false_eq_true, not_true_eq_false, eq_self, exIA, exIS, exAI, exAS, exSI, exSA, true_or, or_true, false_or, or_false, Nat.reduceEqDiff, Bool.true_and, Bool.and_true, Bool.false_and, Bool.and_false, Bool.true_eq_false, Bool.false_eq_true, i10, i20, i30, vp0, nc0]
  cases hp : pMx (zG σ) r t
  · rw [hp] at k
    simp only [hty_sI, hln_sI, hR_sI, cnd1, cnd2, b2i_0, b2i_1, b2i_z, if_true, if_false, true_and, and_true, true_implies, false_implies, ne_eq, not_false_eq_true, not_true_eq_false, eq_self, exIA, exIS, exAI, exAS, exSI, exSA, true_or, or_true, false_or, or_false, Nat.reduceEqDiff, Bool.true_and, Bool.and_true, Bool.false_and, Bool.and_false, Bool.true_eq_false, Bool.false_eq_true, i10, i20, i30, vp0, nc0]
    exact m_360 w2 i hr ht k
  · rw [hp] at k
    simp only [hty_sI, hln_sI, hR_sI, cnd1, cnd2, b2i_0, b2i_1, b2i_z, if_true, if_false, true_and, and_true, true_implies, false_implies, ne_eq, not_false_eq_true, not_true_eq_false, eq_self, exIA, exIS, exAI, exAS, exSI, exSA, true_or, or_true, false_or, or_false, Nat.reduceEqDiff, Bool.true_and, Bool.and_true, Bool.false_and, Bool.and_false, Bool.true_eq_false, Bool.false_eq_true, i10, i20, i30, vp0, nc0]
    exact m_360 w2 i hr ht k
theorem m_re {X1 : XH} {P295 : Nat → Int32 → XH → Prop} {K : Int64 → XH → Prop} (w1 : MD X1 d σ o h) (i : Inv (zG σ) n) (hr : r < 4) (k : ∀ X2, MD X2 d σ o (fo (dR1 (zG σ) n r) h 3) → P295 123 (Int32.ofNat (r + 1)) X2) : w_X5_digest_322 P295 123 (Int32.ofNat r) 0 X1 K := by
  have hn := i.cn
  intro P hP
  refine (dwn (n := 3) (p := fun j => ∀ X1, MD X1 d σ o (fo (dR1 (zG σ) n r) h j) → P 123 (Int32.ofNat r) (Int32.ofNat j) X1) (fun X1 w1 => hP _ _ _ _ ?_) (fun t ht ih X1 w1 => hP _ _ _ _ ?_)) X1 w1
  · simp only [lt3t, of_s, hty_sI, hln_sI, hR_sI, cnd1, cnd2, b2i_0, b2i_1, b2i_z, if_true, if_false, true_and, and_true, true_implies, false_implies, ne_eq, not_false_eq_true, not_true_eq_false, eq_self, exIA, exIS, exAI, exAS, exSI, exSA, true_or, or_true, false_or, or_false, Nat.reduceEqDiff, Bool.true_and, Bool.and_true, Bool.false_and, Bool.and_false, Bool.true_eq_false, Bool.false_eq_true, i10, i20, i30, vp0, nc0]
    exact k X1 w1
  have q1 := w1.1.1
  have h1 : RR X1 (zG σ) := w1.1.rr
  try simp only [q1.t123, q1.r123_0, q1.t124, q1.n124, lt3 ht, hty_sI, hln_sI, hR_sI, cnd1, cnd2, b2i_0, b2i_1, b2i_z, if_true, if_false, true_and, and_true, true_implies, false_implies, ne_eq, not_false_eq_true, not_true_eq_false, eq_self, exIA, exIS, exAI, exAS, exSI, exSA, true_or, or_true, false_or, or_false, Nat.reduceEqDiff, Bool.true_and, Bool.and_true, Bool.false_and, Bool.and_false, Bool.true_eq_false, Bool.false_eq_true, i10, i20, i30, vp0, nc0]
  refine s_complete q1 h1 hn ht ?_
  try simp only [q1.t123, q1.r123_0, q1.t124, q1.n124, hty_sI, hln_sI, hR_sI, cnd1, cnd2, b2i_0, b2i_1, b2i_z, if_true, if_false, true_and, and_true, true_implies, false_implies, ne_eq, not_false_eq_true, not_true_eq_false, eq_self, exIA, exIS, exAI, exAS, exSI, exSA, true_or, or_true, false_or, or_false, Nat.reduceEqDiff, Bool.true_and, Bool.and_true, Bool.false_and, Bool.and_false, Bool.true_eq_false, Bool.false_eq_true, i10, i20, i30, vp0, nc0]
  have ih' : ∀ X2, MD X2 d σ o (ch (ch (chF (chF (fo (dR1 (zG σ) n r) h t) (pWh (zG σ) n (Int32.ofNat r) t)) (pMx (zG σ) r t)) (sSigs (zG σ) r t).toInt64) (sMiss (zG σ) n r t).toInt64) → P 123 (Int32.ofNat r) (Int32.ofNat (t + 1)) X2 := ih
  cases hp : pWh (zG σ) n (Int32.ofNat r) t
  · rw [hp] at ih'
    simp only [hty_sI, hln_sI, hR_sI, cnd1, cnd2, b2i_0, b2i_1, b2i_z, if_true, if_false, true_and, and_true, true_implies, false_implies, ne_eq, not_false_eq_true, not_true_eq_false, eq_self, exIA, exIS, exAI, exAS, exSI, exSA, true_or, or_true, false_or, or_false, Nat.reduceEqDiff, Bool.true_and, Bool.and_true, Bool.false_and, Bool.and_false, Bool.true_eq_false, Bool.false_eq_true, i10, i20, i30, vp0, nc0]
    exact m_342 w1 i hr ht ih'
  · rw [hp] at ih'
    simp only [hty_sI, hln_sI, hR_sI, cnd1, cnd2, b2i_0, b2i_1, b2i_z, if_true, if_false, true_and, and_true, true_implies, false_implies, ne_eq, not_false_eq_true, not_true_eq_false, eq_self, exIA, exIS, exAI, exAS, exSI, exSA, true_or, or_true, false_or, or_false, Nat.reduceEqDiff, Bool.true_and, Bool.and_true, Bool.false_and, Bool.and_false, Bool.true_eq_false, Bool.false_eq_true, i10, i20, i30, vp0, nc0]
    exact m_342 w1 i hr ht ih'
theorem m_458 {X1 : XH} {v : Int64} {P399 : Nat → Int32 → XH → Prop} {K : Int64 → XH → Prop} (w1 : MD X1 d σ o h) (i : Inv (zG σ) n) (ht : t < 3) (k : ∀ X2, MD X2 d σ o (dO0 (zG σ) n t (ch h v)) → P399 123 (Int32.ofNat (t + 1)) X2) : w_X5_digest_458 P399 123 (Int32.ofNat t) 123 v X1 K := by
  have hn := i.cn
  have mo := mean_ok i ht
  unfold w_X5_digest_458
  have q1 := w1.1.1
  have h1 : RR X1 (zG σ) := w1.1.rr
  try simp only [q1.t123, q1.r123_0, q1.t124, q1.n124, hty_sI, hln_sI, hR_sI, cnd1, cnd2, b2i_0, b2i_1, b2i_z, if_true, if_false, true_and, and_true, true_implies, false_implies, ne_eq, not_false_eq_true, not_true_eq_false, eq_self, exIA, exIS, exAI, exAS, exSI, exSA, true_or, or_true, false_or, or_false, Nat.reduceEqDiff, Bool.true_and, Bool.and_true, Bool.false_and, Bool.and_false, Bool.true_eq_false, Bool.false_eq_true, i10, i20, i30, vp0, nc0]
  refine m_mix w1 (fun X2 w2 => ?_)
  have q2 := w2.1.1
  have h2 : RR X2 (zG σ) := w2.1.rr
  try simp only [q2.t123, q2.r123_0, q2.t124, q2.n124, hty_sI, hln_sI, hR_sI, cnd1, cnd2, b2i_0, b2i_1, b2i_z, if_true, if_false, true_and, and_true, true_implies, false_implies, ne_eq, not_false_eq_true, not_true_eq_false, eq_self, exIA, exIS, exAI, exAS, exSI, exSA, true_or, or_true, false_or, or_false, Nat.reduceEqDiff, Bool.true_and, Bool.and_true, Bool.false_and, Bool.and_false, Bool.true_eq_false, Bool.false_eq_true, i10, i20, i30, vp0, nc0]
  refine s_misfits q2 h2 hn ht ?_
  try simp only [q2.t123, q2.r123_0, q2.t124, q2.n124, hty_sI, hln_sI, hR_sI, cnd1, cnd2, b2i_0, b2i_1, b2i_z, if_true, if_false, true_and, and_true, true_implies, false_implies, ne_eq, not_false_eq_true, not_true_eq_false, eq_self, exIA, exIS, exAI, exAS, exSI, exSA, true_or, or_true, false_or, or_false, Nat.reduceEqDiff, Bool.true_and, Bool.and_true, Bool.false_and, Bool.and_false, Bool.true_eq_false, Bool.false_eq_true, i10, i20, i30, vp0, nc0]
  refine m_mix w2 (fun X3 w3 => ?_)
  have q3 := w3.1.1
  have h3 : RR X3 (zG σ) := w3.1.rr
  try simp only [q3.t123, q3.r123_0, q3.t124, q3.n124, hty_sI, hln_sI, hR_sI, cnd1, cnd2, b2i_0, b2i_1, b2i_z, if_true, if_false, true_and, and_true, true_implies, false_implies, ne_eq, not_false_eq_true, not_true_eq_false, eq_self, exIA, exIS, exAI, exAS, exSI, exSA, true_or, or_true, false_or, or_false, Nat.reduceEqDiff, Bool.true_and, Bool.and_true, Bool.false_and, Bool.and_false, Bool.true_eq_false, Bool.false_eq_true, i10, i20, i30, vp0, nc0]
  refine s_nextOne q3 h3 hn i.S (i.F ht) ht ?_
  try simp only [q3.t123, q3.r123_0, q3.t124, q3.n124, hty_sI, hln_sI, hR_sI, cnd1, cnd2, b2i_0, b2i_1, b2i_z, if_true, if_false, true_and, and_true, true_implies, false_implies, ne_eq, not_false_eq_true, not_true_eq_false, eq_self, exIA, exIS, exAI, exAS, exSI, exSA, true_or, or_true, false_or, or_false, Nat.reduceEqDiff, Bool.true_and, Bool.and_true, Bool.false_and, Bool.and_false, Bool.true_eq_false, Bool.false_eq_true, i10, i20, i30, vp0, nc0]
  refine m_mix w3 (fun X4 w4 => ?_)
  have q4 := w4.1.1
  have h4 : RR X4 (zG σ) := w4.1.rr
  try simp only [q4.t123, q4.r123_0, q4.t124, q4.n124, hty_sI, hln_sI, hR_sI, cnd1, cnd2, b2i_0, b2i_1, b2i_z, if_true, if_false, true_and, and_true, true_implies, false_implies, ne_eq, not_false_eq_true, not_true_eq_false, eq_self, exIA, exIS, exAI, exAS, exSI, exSA, true_or, or_true, false_or, or_false, Nat.reduceEqDiff, Bool.true_and, Bool.and_true, Bool.false_and, Bool.and_false, Bool.true_eq_false, Bool.false_eq_true, i10, i20, i30, vp0, nc0]
  refine s_mean q4 h4 i ht mo.1 ?_
  try simp only [q4.t123, q4.r123_0, q4.t124, q4.n124, hty_sI, hln_sI, hR_sI, cnd1, cnd2, b2i_0, b2i_1, b2i_z, if_true, if_false, true_and, and_true, true_implies, false_implies, ne_eq, not_false_eq_true, not_true_eq_false, eq_self, exIA, exIS, exAI, exAS, exSI, exSA, true_or, or_true, false_or, or_false, Nat.reduceEqDiff, Bool.true_and, Bool.and_true, Bool.false_and, Bool.and_false, Bool.true_eq_false, Bool.false_eq_true, i10, i20, i30, vp0, nc0]
  refine s_longBits mo.2 ?_
  try simp only [q4.t123, hty_sI, hln_sI, hR_sI, cnd1, cnd2, b2i_0, b2i_1, b2i_z, if_true, if_false, true_and, and_true, true_implies, false_implies, ne_eq, not_false_eq_true, not_true_eq_false, eq_self, exIA, exIS, exAI, exAS, exSI, exSA, true_or, or_true, false_or, or_false, Nat.reduceEqDiff, Bool.true_and, Bool.and_true, Bool.false_and, Bool.and_false, Bool.true_eq_false, Bool.false_eq_true, i10, i20, i30, vp0, nc0]
  refine m_mix w4 (fun X5 w5 => ?_)
  try simp only [w5.1.1.t123, of_s, hty_sI, hln_sI, hR_sI, cnd1, cnd2, b2i_0, b2i_1, b2i_z, if_true, if_false, true_and, and_true, true_implies, false_implies, ne_eq, not_false_eq_true, not_true_eq_false, eq_self, exIA, exIS, exAI, exAS, exSI, exSA, true_or, or_true, false_or, or_false, Nat.reduceEqDiff, Bool.true_and, Bool.and_true, Bool.false_and, Bool.and_false, Bool.true_eq_false, Bool.false_eq_true, i10, i20, i30, vp0, nc0]
  exact k X5 w5
theorem m_603 {X1 : XH} {K : Int64 → XH → Prop} (w1 : MD X1 d σ o h) (k : ∀ X2, Wd X2 d σ o → K (fo (fun k h => ch h (zT σ k).toInt64) h (zN σ)) X2) : w_X5_digest_603 123 0 X1 K := by
  intro P hP
  have hN : zN σ ≤ 60 := w1.1.2.2.1.2.2.2.2.2.1
  refine (dwn (n := zN σ) (p := fun j => ∀ X1, MD X1 d σ o (fo (fun k h => ch h (zT σ k).toInt64) h j) → P 123 (Int32.ofNat j) X1) (fun X1 w1 => hP _ _ _ ?_) (fun j hj ih X1 w1 => hP _ _ _ ?_)) X1 w1
  · have q1 := w1.1.1
    have e6 : hI X1 123 6 = Int32.ofNat (zN σ) := w1.1.2.2.1.2.2.2.2.1
    simp only [q1.t123, e6, ltt (show zN σ < 4096 by omega), w1.2, hty_sI, hln_sI, hR_sI, cnd1, cnd2, b2i_0, b2i_1, b2i_z, if_true, if_false, true_and, and_true, true_implies, false_implies, ne_eq, not_false_eq_true, not_true_eq_false, eq_self, exIA, exIS, exAI, exAS, exSI, exSA, true_or, or_true, false_or, or_false, Nat.reduceEqDiff, Bool.true_and, Bool.and_true, Bool.false_and, Bool.and_false, Bool.true_eq_false, Bool.false_eq_true, i10, i20, i30, vp0, nc0]
    exact k X1 w1.1
  · have q1 := w1.1.1
    have e6 : hI X1 123 6 = Int32.ofNat (zN σ) := w1.1.2.2.1.2.2.2.2.1
    have e7 : hI X1 128 j = zT σ j := w1.1.2.2.1.2.2.2.2.2.2 j hj
    simp only [q1.t123, q1.r123_5, q1.t128, q1.n128, e6, ltl hj (show zN σ < 4096 by omega), vp_of (show j < 60 by omega) (show 60 < 4096 by decide), nc (show j < 4096 by omega), e7, hty_sI, hln_sI, hR_sI, cnd1, cnd2, b2i_0, b2i_1, b2i_z, if_true, if_false, true_and, and_true, true_implies, false_implies, ne_eq, not_false_eq_true, not_true_eq_false, eq_self, exIA, exIS, exAI, exAS, exSI, exSA, true_or, or_true, false_or, or_false, Nat.reduceEqDiff, Bool.true_and, Bool.and_true, Bool.false_and, Bool.and_false, Bool.true_eq_false, Bool.false_eq_true, i10, i20, i30, vp0, nc0]
    refine m_mix w1 (fun X2 w2 => ?_)
    try simp only [w2.1.1.t123, of_s, hty_sI, hln_sI, hR_sI, cnd1, cnd2, b2i_0, b2i_1, b2i_z, if_true, if_false, true_and, and_true, true_implies, false_implies, ne_eq, not_false_eq_true, not_true_eq_false, eq_self, exIA, exIS, exAI, exAS, exSI, exSA, true_or, or_true, false_or, or_false, Nat.reduceEqDiff, Bool.true_and, Bool.and_true, Bool.false_and, Bool.and_false, Bool.true_eq_false, Bool.false_eq_true, i10, i20, i30, vp0, nc0]
    exact ih X2 w2
theorem m_571 {X1 : XH} {v : Int64} {K : Int64 → XH → Prop} (w1 : MD X1 d σ o h) (k : ∀ X2, Wd X2 d σ o → K (dBu σ (chF (ch h v) (!(decide (zK σ 1 = 0))))) X2) : w_X5_digest_571 123 123 v X1 K := by
  unfold w_X5_digest_571
  have q1 := w1.1.1
  have h1 : RR X1 (zG σ) := w1.1.rr
  try simp only [q1.t123, q1.r123_0, q1.t124, q1.n124, hty_sI, hln_sI, hR_sI, cnd1, cnd2, b2i_0, b2i_1, b2i_z, if_true, if_false, true_and, and_true, true_implies, false_implies, ne_eq, not_false_eq_true, not_true_eq_false, eq_self, exIA, exIS, exAI, exAS, exSI, exSA, true_or, or_true, false_or, or_false, Nat.reduceEqDiff, Bool.true_and, Bool.and_true, Bool.false_and, Bool.and_false, Bool.true_eq_false, Bool.false_eq_true, i10, i20, i30, vp0, nc0]
  refine m_mix w1 (fun X2 w2 => ?_)
  have q2 := w2.1.1
  have e1 : hI X2 127 1 = zK σ 1 := (w2.1.2.2.1.2.2.2.1 1 (by decide)).1
  have v1 : vp_in (1 : Int32) 2 = True := vp_of (i := 1) (by decide) (by decide)
  have n1 : (1 : Int32).toNatClampNeg = 1 := rfl
  simp only [q2.t123, q2.r123_4, q2.t127, q2.n127, v1, n1, e1, hty_sI, hln_sI, hR_sI, cnd1, cnd2, b2i_0, b2i_1, b2i_z, if_true, if_false, true_and, and_true, true_implies, false_implies, ne_eq, not_false_eq_true, not_true_eq_false, eq_self, exIA, exIS, exAI, exAS, exSI, exSA, true_or, or_true, false_or, or_false, Nat.reduceEqDiff, Bool.true_and, Bool.and_true, Bool.false_and, Bool.and_false, Bool.true_eq_false, Bool.false_eq_true, i10, i20, i30, vp0, nc0]
  by_cases h0 : zK σ 1 = 0
  · simp only [h0, decide_true, Bool.not_true] at k
    simp only [h0, hty_sI, hln_sI, hR_sI, cnd1, cnd2, b2i_0, b2i_1, b2i_z, if_true, if_false, true_and, and_true, true_implies, false_implies, ne_eq, not_false_eq_true, not_true_eq_false, eq_self, exIA, exIS, exAI, exAS, exSI, exSA, true_or, or_true, false_or, or_false, Nat.reduceEqDiff, Bool.true_and, Bool.and_true, Bool.false_and, Bool.and_false, Bool.true_eq_false, Bool.false_eq_true, i10, i20, i30, vp0, nc0]
    refine m_mix w2 (fun X3 w3 => ?_)
    have q3 := w3.1.1
    have e6 : hI X3 123 6 = Int32.ofNat (zN σ) := w3.1.2.2.1.2.2.2.2.1
    simp only [q3.t123, e6, hty_sI, hln_sI, hR_sI, cnd1, cnd2, b2i_0, b2i_1, b2i_z, if_true, if_false, true_and, and_true, true_implies, false_implies, ne_eq, not_false_eq_true, not_true_eq_false, eq_self, exIA, exIS, exAI, exAS, exSI, exSA, true_or, or_true, false_or, or_false, Nat.reduceEqDiff, Bool.true_and, Bool.and_true, Bool.false_and, Bool.and_false, Bool.true_eq_false, Bool.false_eq_true, i10, i20, i30, vp0, nc0]
    refine m_mix w3 (fun X4 w4 => ?_)
    try simp only [w4.1.1.t123, hty_sI, hln_sI, hR_sI, cnd1, cnd2, b2i_0, b2i_1, b2i_z, if_true, if_false, true_and, and_true, true_implies, false_implies, ne_eq, not_false_eq_true, not_true_eq_false, eq_self, exIA, exIS, exAI, exAS, exSI, exSA, true_or, or_true, false_or, or_false, Nat.reduceEqDiff, Bool.true_and, Bool.and_true, Bool.false_and, Bool.and_false, Bool.true_eq_false, Bool.false_eq_true, i10, i20, i30, vp0, nc0]
    exact m_603 w4 k
  · simp only [h0, decide_false, Bool.not_false] at k
    simp only [h0, hty_sI, hln_sI, hR_sI, cnd1, cnd2, b2i_0, b2i_1, b2i_z, if_true, if_false, true_and, and_true, true_implies, false_implies, ne_eq, not_false_eq_true, not_true_eq_false, eq_self, exIA, exIS, exAI, exAS, exSI, exSA, true_or, or_true, false_or, or_false, Nat.reduceEqDiff, Bool.true_and, Bool.and_true, Bool.false_and, Bool.and_false, Bool.true_eq_false, Bool.false_eq_true, i10, i20, i30, vp0, nc0]
    refine m_mix w2 (fun X3 w3 => ?_)
    have q3 := w3.1.1
    have e6 : hI X3 123 6 = Int32.ofNat (zN σ) := w3.1.2.2.1.2.2.2.2.1
    simp only [q3.t123, e6, hty_sI, hln_sI, hR_sI, cnd1, cnd2, b2i_0, b2i_1, b2i_z, if_true, if_false, true_and, and_true, true_implies, false_implies, ne_eq, not_false_eq_true, not_true_eq_false, eq_self, exIA, exIS, exAI, exAS, exSI, exSA, true_or, or_true, false_or, or_false, Nat.reduceEqDiff, Bool.true_and, Bool.and_true, Bool.false_and, Bool.and_false, Bool.true_eq_false, Bool.false_eq_true, i10, i20, i30, vp0, nc0]
    refine m_mix w3 (fun X4 w4 => ?_)
    try simp only [w4.1.1.t123, hty_sI, hln_sI, hR_sI, cnd1, cnd2, b2i_0, b2i_1, b2i_z, if_true, if_false, true_and, and_true, true_implies, false_implies, ne_eq, not_false_eq_true, not_true_eq_false, eq_self, exIA, exIS, exAI, exAS, exSI, exSA, true_or, or_true, false_or, or_false, Nat.reduceEqDiff, Bool.true_and, Bool.and_true, Bool.false_and, Bool.and_false, Bool.true_eq_false, Bool.false_eq_true, i10, i20, i30, vp0, nc0]
    exact m_603 w4 k
theorem m_505 {X1 : XH} {K : Int64 → XH → Prop} (w1 : MD X1 d σ o h) (i : Inv (zG σ) n) (k : ∀ X2, Wd X2 d σ o → K (dBu σ (dA σ n h)) X2) : w_X5_digest_505 123 367 X1 K := by
  have hn := i.cn
  have l4 : ∀ j, j < 4 → ((370 : Int32) < Int32.ofNat (367 + j)) = False := fun j hj => (of_lt (i := 370) (by decide) (by omega)).trans (eq_false (by omega))
  have l4t : ((370 : Int32) < Int32.ofNat (367 + 4)) = True := by decide
  intro P hP
  refine (dwn (n := 4) (p := fun j => ∀ X1, MD X1 d σ o (fo (fun k h => ch h (zG σ (367 + k)).toInt64) h j) → P 123 (Int32.ofNat (367 + j)) X1) (fun X1 w1 => hP _ _ _ ?_) (fun j hj ih X1 w1 => hP _ _ _ ?_)) X1 w1
  rotate_left
  · have q1 := w1.1.1
    have h1 := w1.1.rr
    simp only [l4 j hj, q1.t123, q1.r123_0, q1.t124, q1.n124, vp3 (show 367 + j < 371 by omega), h1.v (show 367 + j < 371 by omega), hty_sI, hln_sI, hR_sI, cnd1, cnd2, b2i_0, b2i_1, b2i_z, if_true, if_false, true_and, and_true, true_implies, false_implies, ne_eq, not_false_eq_true, not_true_eq_false, eq_self, exIA, exIS, exAI, exAS, exSI, exSA, true_or, or_true, false_or, or_false, Nat.reduceEqDiff, Bool.true_and, Bool.and_true, Bool.false_and, Bool.and_false, Bool.true_eq_false, Bool.false_eq_true, i10, i20, i30, vp0, nc0]
    refine m_mix w1 (fun X2 w2 => ?_)
    simp only [w2.1.1.t123, of_s, hty_sI, hln_sI, hR_sI, cnd1, cnd2, b2i_0, b2i_1, b2i_z, if_true, if_false, true_and, and_true, true_implies, false_implies, ne_eq, not_false_eq_true, not_true_eq_false, eq_self, exIA, exIS, exAI, exAS, exSI, exSA, true_or, or_true, false_or, or_false, Nat.reduceEqDiff, Bool.true_and, Bool.and_true, Bool.false_and, Bool.and_false, Bool.true_eq_false, Bool.false_eq_true, i10, i20, i30, vp0, nc0]
    exact ih X2 w2
  have q1 := w1.1.1
  have h1 : RR X1 (zG σ) := w1.1.rr
  try simp only [q1.t123, q1.r123_0, q1.t124, q1.n124, l4t, hty_sI, hln_sI, hR_sI, cnd1, cnd2, b2i_0, b2i_1, b2i_z, if_true, if_false, true_and, and_true, true_implies, false_implies, ne_eq, not_false_eq_true, not_true_eq_false, eq_self, exIA, exIS, exAI, exAS, exSI, exSA, true_or, or_true, false_or, or_false, Nat.reduceEqDiff, Bool.true_and, Bool.and_true, Bool.false_and, Bool.and_false, Bool.true_eq_false, Bool.false_eq_true, i10, i20, i30, vp0, nc0]
  refine s_best q1 h1 hn ?_
  try simp only [q1.t123, q1.r123_0, q1.t124, q1.n124, hty_sI, hln_sI, hR_sI, cnd1, cnd2, b2i_0, b2i_1, b2i_z, if_true, if_false, true_and, and_true, true_implies, false_implies, ne_eq, not_false_eq_true, not_true_eq_false, eq_self, exIA, exIS, exAI, exAS, exSI, exSA, true_or, or_true, false_or, or_false, Nat.reduceEqDiff, Bool.true_and, Bool.and_true, Bool.false_and, Bool.and_false, Bool.true_eq_false, Bool.false_eq_true, i10, i20, i30, vp0, nc0]
  refine m_mix w1 (fun X2 w2 => ?_)
  have q2 := w2.1.1
  have h2 : RR X2 (zG σ) := w2.1.rr
  try simp only [q2.t123, q2.r123_0, q2.t124, q2.n124, hty_sI, hln_sI, hR_sI, cnd1, cnd2, b2i_0, b2i_1, b2i_z, if_true, if_false, true_and, and_true, true_implies, false_implies, ne_eq, not_false_eq_true, not_true_eq_false, eq_self, exIA, exIS, exAI, exAS, exSI, exSA, true_or, or_true, false_or, or_false, Nat.reduceEqDiff, Bool.true_and, Bool.and_true, Bool.false_and, Bool.and_false, Bool.true_eq_false, Bool.false_eq_true, i10, i20, i30, vp0, nc0]
  refine s_loudest q2 h2 hn ?_
  try simp only [q2.t123, q2.r123_0, q2.t124, q2.n124, hty_sI, hln_sI, hR_sI, cnd1, cnd2, b2i_0, b2i_1, b2i_z, if_true, if_false, true_and, and_true, true_implies, false_implies, ne_eq, not_false_eq_true, not_true_eq_false, eq_self, exIA, exIS, exAI, exAS, exSI, exSA, true_or, or_true, false_or, or_false, Nat.reduceEqDiff, Bool.true_and, Bool.and_true, Bool.false_and, Bool.and_false, Bool.true_eq_false, Bool.false_eq_true, i10, i20, i30, vp0, nc0]
  refine m_mix w2 (fun X3 w3 => ?_)
  have q3 := w3.1.1
  have e2 : hI X3 123 2 = Int32.ofNat (zH σ) := w3.1.2.2.1.2.1.1
  simp only [q3.t123, e2, hty_sI, hln_sI, hR_sI, cnd1, cnd2, b2i_0, b2i_1, b2i_z, if_true, if_false, true_and, and_true, true_implies, false_implies, ne_eq, not_false_eq_true, not_true_eq_false, eq_self, exIA, exIS, exAI, exAS, exSI, exSA, true_or, or_true, false_or, or_false, Nat.reduceEqDiff, Bool.true_and, Bool.and_true, Bool.false_and, Bool.and_false, Bool.true_eq_false, Bool.false_eq_true, i10, i20, i30, vp0, nc0]
  refine m_mix w3 (fun X4 w4 => ?_)
  have q4 := w4.1.1
  have v0 : vp_in (0 : Int32) 2 = True := vp_of (i := 0) (by decide) (by decide)
  have e0 : hI X4 127 0 = zK σ 0 := (w4.1.2.2.1.2.2.2.1 0 (by decide)).1
  simp only [q4.t123, q4.r123_4, q4.t127, q4.n127, v0, e0, hty_sI, hln_sI, hR_sI, cnd1, cnd2, b2i_0, b2i_1, b2i_z, if_true, if_false, true_and, and_true, true_implies, false_implies, ne_eq, not_false_eq_true, not_true_eq_false, eq_self, exIA, exIS, exAI, exAS, exSI, exSA, true_or, or_true, false_or, or_false, Nat.reduceEqDiff, Bool.true_and, Bool.and_true, Bool.false_and, Bool.and_false, Bool.true_eq_false, Bool.false_eq_true, i10, i20, i30, vp0, nc0]
  unfold dA at k
  simp only [fo] at k w4
  by_cases h0 : zK σ 0 = 0
  · simp only [h0, decide_true, Bool.not_true] at k
    simp only [h0, hty_sI, hln_sI, hR_sI, cnd1, cnd2, b2i_0, b2i_1, b2i_z, if_true, if_false, true_and, and_true, true_implies, false_implies, ne_eq, not_false_eq_true, not_true_eq_false, eq_self, exIA, exIS, exAI, exAS, exSI, exSA, true_or, or_true, false_or, or_false, Nat.reduceEqDiff, Bool.true_and, Bool.and_true, Bool.false_and, Bool.and_false, Bool.true_eq_false, Bool.false_eq_true, i10, i20, i30, vp0, nc0]
    exact m_571 w4 k
  · simp only [h0, decide_false, Bool.not_false] at k
    simp only [h0, hty_sI, hln_sI, hR_sI, cnd1, cnd2, b2i_0, b2i_1, b2i_z, if_true, if_false, true_and, and_true, true_implies, false_implies, ne_eq, not_false_eq_true, not_true_eq_false, eq_self, exIA, exIS, exAI, exAS, exSI, exSA, true_or, or_true, false_or, or_false, Nat.reduceEqDiff, Bool.true_and, Bool.and_true, Bool.false_and, Bool.and_false, Bool.true_eq_false, Bool.false_eq_true, i10, i20, i30, vp0, nc0]
    exact m_571 w4 k
theorem m_399 {X1 : XH} {K : Int64 → XH → Prop} (w1 : MD X1 d σ o h) (i : Inv (zG σ) n) (k : ∀ X2, Wd X2 d σ o → K (dBu σ (dA σ n (fo (dO (zG σ) n) h 3))) X2) : w_X5_digest_399 123 0 X1 K := by
  have hn := i.cn
  intro P hP
  refine (dwn (n := 3) (p := fun j => ∀ X1, MD X1 d σ o (fo (dO (zG σ) n) h j) → P 123 (Int32.ofNat j) X1) (fun X1 w1 => hP _ _ _ ?_) (fun t ht ih X1 w1 => hP _ _ _ ?_)) X1 w1
  · simp only [lt3t, w1.1.1.t123, hty_sI, hln_sI, hR_sI, cnd1, cnd2, b2i_0, b2i_1, b2i_z, if_true, if_false, true_and, and_true, true_implies, false_implies, ne_eq, not_false_eq_true, not_true_eq_false, eq_self, exIA, exIS, exAI, exAS, exSI, exSA, true_or, or_true, false_or, or_false, Nat.reduceEqDiff, Bool.true_and, Bool.and_true, Bool.false_and, Bool.and_false, Bool.true_eq_false, Bool.false_eq_true, i10, i20, i30, vp0, nc0]
    exact m_505 w1 i k
  have q1 := w1.1.1
  have h1 : RR X1 (zG σ) := w1.1.rr
  try simp only [q1.t123, q1.r123_0, q1.t124, q1.n124, lt3 ht, hty_sI, hln_sI, hR_sI, cnd1, cnd2, b2i_0, b2i_1, b2i_z, if_true, if_false, true_and, and_true, true_implies, false_implies, ne_eq, not_false_eq_true, not_true_eq_false, eq_self, exIA, exIS, exAI, exAS, exSI, exSA, true_or, or_true, false_or, or_false, Nat.reduceEqDiff, Bool.true_and, Bool.and_true, Bool.false_and, Bool.and_false, Bool.true_eq_false, Bool.false_eq_true, i10, i20, i30, vp0, nc0]
  refine s_annexed q1 h1 hn ht ?_
  try simp only [q1.t123, q1.r123_0, q1.t124, q1.n124, hty_sI, hln_sI, hR_sI, cnd1, cnd2, b2i_0, b2i_1, b2i_z, if_true, if_false, true_and, and_true, true_implies, false_implies, ne_eq, not_false_eq_true, not_true_eq_false, eq_self, exIA, exIS, exAI, exAS, exSI, exSA, true_or, or_true, false_or, or_false, Nat.reduceEqDiff, Bool.true_and, Bool.and_true, Bool.false_and, Bool.and_false, Bool.true_eq_false, Bool.false_eq_true, i10, i20, i30, vp0, nc0]
  refine m_mix w1 (fun X2 w2 => ?_)
  have q2 := w2.1.1
  have h2 : RR X2 (zG σ) := w2.1.rr
  try simp only [q2.t123, q2.r123_0, q2.t124, q2.n124, hty_sI, hln_sI, hR_sI, cnd1, cnd2, b2i_0, b2i_1, b2i_z, if_true, if_false, true_and, and_true, true_implies, false_implies, ne_eq, not_false_eq_true, not_true_eq_false, eq_self, exIA, exIS, exAI, exAS, exSI, exSA, true_or, or_true, false_or, or_false, Nat.reduceEqDiff, Bool.true_and, Bool.and_true, Bool.false_and, Bool.and_false, Bool.true_eq_false, Bool.false_eq_true, i10, i20, i30, vp0, nc0]
  refine s_taken q2 h2 hn ht ?_
  try simp only [q2.t123, q2.r123_0, q2.t124, q2.n124, hty_sI, hln_sI, hR_sI, cnd1, cnd2, b2i_0, b2i_1, b2i_z, if_true, if_false, true_and, and_true, true_implies, false_implies, ne_eq, not_false_eq_true, not_true_eq_false, eq_self, exIA, exIS, exAI, exAS, exSI, exSA, true_or, or_true, false_or, or_false, Nat.reduceEqDiff, Bool.true_and, Bool.and_true, Bool.false_and, Bool.and_false, Bool.true_eq_false, Bool.false_eq_true, i10, i20, i30, vp0, nc0]
  refine m_mix w2 (fun X3 w3 => ?_)
  have q3 := w3.1.1
  have h3 : RR X3 (zG σ) := w3.1.rr
  try simp only [q3.t123, q3.r123_0, q3.t124, q3.n124, hty_sI, hln_sI, hR_sI, cnd1, cnd2, b2i_0, b2i_1, b2i_z, if_true, if_false, true_and, and_true, true_implies, false_implies, ne_eq, not_false_eq_true, not_true_eq_false, eq_self, exIA, exIS, exAI, exAS, exSI, exSA, true_or, or_true, false_or, or_false, Nat.reduceEqDiff, Bool.true_and, Bool.and_true, Bool.false_and, Bool.and_false, Bool.true_eq_false, Bool.false_eq_true, i10, i20, i30, vp0, nc0]
  refine s_ready q3 h3 hn ht i.S (i.F ht) ?_
  try simp only [q3.t123, q3.r123_0, q3.t124, q3.n124, hty_sI, hln_sI, hR_sI, cnd1, cnd2, b2i_0, b2i_1, b2i_z, if_true, if_false, true_and, and_true, true_implies, false_implies, ne_eq, not_false_eq_true, not_true_eq_false, eq_self, exIA, exIS, exAI, exAS, exSI, exSA, true_or, or_true, false_or, or_false, Nat.reduceEqDiff, Bool.true_and, Bool.and_true, Bool.false_and, Bool.and_false, Bool.true_eq_false, Bool.false_eq_true, i10, i20, i30, vp0, nc0]
  refine m_mix w3 (fun X4 w4 => ?_)
  have q4 := w4.1.1
  have h4 : RR X4 (zG σ) := w4.1.rr
  try simp only [q4.t123, q4.r123_0, q4.t124, q4.n124, hty_sI, hln_sI, hR_sI, cnd1, cnd2, b2i_0, b2i_1, b2i_z, if_true, if_false, true_and, and_true, true_implies, false_implies, ne_eq, not_false_eq_true, not_true_eq_false, eq_self, exIA, exIS, exAI, exAS, exSI, exSA, true_or, or_true, false_or, or_false, Nat.reduceEqDiff, Bool.true_and, Bool.and_true, Bool.false_and, Bool.and_false, Bool.true_eq_false, Bool.false_eq_true, i10, i20, i30, vp0, nc0]
  refine s_ready q4 h4 hn ht i.S (i.F ht) ?_
  try simp only [q4.t123, q4.r123_0, q4.t124, q4.n124, hty_sI, hln_sI, hR_sI, cnd1, cnd2, b2i_0, b2i_1, b2i_z, if_true, if_false, true_and, and_true, true_implies, false_implies, ne_eq, not_false_eq_true, not_true_eq_false, eq_self, exIA, exIS, exAI, exAS, exSI, exSA, true_or, or_true, false_or, or_false, Nat.reduceEqDiff, Bool.true_and, Bool.and_true, Bool.false_and, Bool.and_false, Bool.true_eq_false, Bool.false_eq_true, i10, i20, i30, vp0, nc0]
  refine m_mix w4 (fun X5 w5 => ?_)
  have q5 := w5.1.1
  have h5 : RR X5 (zG σ) := w5.1.rr
  try simp only [q5.t123, q5.r123_0, q5.t124, q5.n124, hty_sI, hln_sI, hR_sI, cnd1, cnd2, b2i_0, b2i_1, b2i_z, if_true, if_false, true_and, and_true, true_implies, false_implies, ne_eq, not_false_eq_true, not_true_eq_false, eq_self, exIA, exIS, exAI, exAS, exSI, exSA, true_or, or_true, false_or, or_false, Nat.reduceEqDiff, Bool.true_and, Bool.and_true, Bool.false_and, Bool.and_false, Bool.true_eq_false, Bool.false_eq_true, i10, i20, i30, vp0, nc0]
  refine s_ratified q5 h5 hn ht ?_
  try simp only [q5.t123, q5.r123_0, q5.t124, q5.n124, hty_sI, hln_sI, hR_sI, cnd1, cnd2, b2i_0, b2i_1, b2i_z, if_true, if_false, true_and, and_true, true_implies, false_implies, ne_eq, not_false_eq_true, not_true_eq_false, eq_self, exIA, exIS, exAI, exAS, exSI, exSA, true_or, or_true, false_or, or_false, Nat.reduceEqDiff, Bool.true_and, Bool.and_true, Bool.false_and, Bool.and_false, Bool.true_eq_false, Bool.false_eq_true, i10, i20, i30, vp0, nc0]
  have ih' : ∀ X2, MD X2 d σ o (dO0 (zG σ) n t (chF (ch (ch (ch (ch (fo (dO (zG σ) n) h t) (sAnnex (zG σ) n t).toInt64) (sTaken (zG σ) n t).toInt64) (sReady (zG σ) n t).toInt64) (sReady (zG σ) n t).toInt64) (pRat (zG σ) n t))) → P 123 (Int32.ofNat (t + 1)) X2 := ih
  cases hp : pRat (zG σ) n t
  · rw [hp] at ih'
    simp only [hty_sI, hln_sI, hR_sI, cnd1, cnd2, b2i_0, b2i_1, b2i_z, if_true, if_false, true_and, and_true, true_implies, false_implies, ne_eq, not_false_eq_true, not_true_eq_false, eq_self, exIA, exIS, exAI, exAS, exSI, exSA, true_or, or_true, false_or, or_false, Nat.reduceEqDiff, Bool.true_and, Bool.and_true, Bool.false_and, Bool.and_false, Bool.true_eq_false, Bool.false_eq_true, i10, i20, i30, vp0, nc0]
    exact m_458 w5 i ht ih'
  · rw [hp] at ih'
    simp only [hty_sI, hln_sI, hR_sI, cnd1, cnd2, b2i_0, b2i_1, b2i_z, if_true, if_false, true_and, and_true, true_implies, false_implies, ne_eq, not_false_eq_true, not_true_eq_false, eq_self, exIA, exIS, exAI, exAS, exSI, exSA, true_or, or_true, false_or, or_false, Nat.reduceEqDiff, Bool.true_and, Bool.and_true, Bool.false_and, Bool.and_false, Bool.true_eq_false, Bool.false_eq_true, i10, i20, i30, vp0, nc0]
    exact m_458 w5 i ht ih'
theorem m_295 {X1 : XH} {K : Int64 → XH → Prop} (w1 : MD X1 d σ o h) (i : Inv (zG σ) n) (k : ∀ X2, Wd X2 d σ o → K (dBu σ (dA σ n (fo (dO (zG σ) n) (fo (dR (zG σ) n) h 4) 3))) X2) : w_X5_digest_295 123 0 X1 K := by
  have hn := i.cn
  intro P hP
  refine (dwn (n := 4) (p := fun j => ∀ X1, MD X1 d σ o (fo (dR (zG σ) n) h j) → P 123 (Int32.ofNat j) X1) (fun X1 w1 => hP _ _ _ ?_) (fun r hr ih X1 w1 => hP _ _ _ ?_)) X1 w1
  · simp only [lt4t, w1.1.1.t123, hty_sI, hln_sI, hR_sI, cnd1, cnd2, b2i_0, b2i_1, b2i_z, if_true, if_false, true_and, and_true, true_implies, false_implies, ne_eq, not_false_eq_true, not_true_eq_false, eq_self, exIA, exIS, exAI, exAS, exSI, exSA, true_or, or_true, false_or, or_false, Nat.reduceEqDiff, Bool.true_and, Bool.and_true, Bool.false_and, Bool.and_false, Bool.true_eq_false, Bool.false_eq_true, i10, i20, i30, vp0, nc0]
    exact m_399 w1 i k
  have q1 := w1.1.1
  have h1 : RR X1 (zG σ) := w1.1.rr
  try simp only [q1.t123, q1.r123_0, q1.t124, q1.n124, lt4 hr, hty_sI, hln_sI, hR_sI, cnd1, cnd2, b2i_0, b2i_1, b2i_z, if_true, if_false, true_and, and_true, true_implies, false_implies, ne_eq, not_false_eq_true, not_true_eq_false, eq_self, exIA, exIS, exAI, exAS, exSI, exSA, true_or, or_true, false_or, or_false, Nat.reduceEqDiff, Bool.true_and, Bool.and_true, Bool.false_and, Bool.and_false, Bool.true_eq_false, Bool.false_eq_true, i10, i20, i30, vp0, nc0]
  refine s_many q1 h1 hn ?_
  try simp only [q1.t123, q1.r123_0, q1.t124, q1.n124, hty_sI, hln_sI, hR_sI, cnd1, cnd2, b2i_0, b2i_1, b2i_z, if_true, if_false, true_and, and_true, true_implies, false_implies, ne_eq, not_false_eq_true, not_true_eq_false, eq_self, exIA, exIS, exAI, exAS, exSI, exSA, true_or, or_true, false_or, or_false, Nat.reduceEqDiff, Bool.true_and, Bool.and_true, Bool.false_and, Bool.and_false, Bool.true_eq_false, Bool.false_eq_true, i10, i20, i30, vp0, nc0]
  refine m_mix w1 (fun X2 w2 => ?_)
  have q2 := w2.1.1
  have h2 : RR X2 (zG σ) := w2.1.rr
  try simp only [q2.t123, q2.r123_0, q2.t124, q2.n124, hty_sI, hln_sI, hR_sI, cnd1, cnd2, b2i_0, b2i_1, b2i_z, if_true, if_false, true_and, and_true, true_implies, false_implies, ne_eq, not_false_eq_true, not_true_eq_false, eq_self, exIA, exIS, exAI, exAS, exSI, exSA, true_or, or_true, false_or, or_false, Nat.reduceEqDiff, Bool.true_and, Bool.and_true, Bool.false_and, Bool.and_false, Bool.true_eq_false, Bool.false_eq_true, i10, i20, i30, vp0, nc0]
  refine s_long1 q2 h2 hn ?_
  try simp only [q2.t123, q2.r123_0, q2.t124, q2.n124, hty_sI, hln_sI, hR_sI, cnd1, cnd2, b2i_0, b2i_1, b2i_z, if_true, if_false, true_and, and_true, true_implies, false_implies, ne_eq, not_false_eq_true, not_true_eq_false, eq_self, exIA, exIS, exAI, exAS, exSI, exSA, true_or, or_true, false_or, or_false, Nat.reduceEqDiff, Bool.true_and, Bool.and_true, Bool.false_and, Bool.and_false, Bool.true_eq_false, Bool.false_eq_true, i10, i20, i30, vp0, nc0]
  refine m_mix w2 (fun X3 w3 => ?_)
  try simp only [w3.1.1.t123, hty_sI, hln_sI, hR_sI, cnd1, cnd2, b2i_0, b2i_1, b2i_z, if_true, if_false, true_and, and_true, true_implies, false_implies, ne_eq, not_false_eq_true, not_true_eq_false, eq_self, exIA, exIS, exAI, exAS, exSI, exSA, true_or, or_true, false_or, or_false, Nat.reduceEqDiff, Bool.true_and, Bool.and_true, Bool.false_and, Bool.and_false, Bool.true_eq_false, Bool.false_eq_true, i10, i20, i30, vp0, nc0]
  exact m_re w3 i hr ih
theorem m_202 {X1 : XH} {K : Int64 → XH → Prop} (w1 : MD X1 d σ o h) (i : Inv (zG σ) n) (k : ∀ X2, Wd X2 d σ o → K (dBu σ (dA σ n (fo (dO (zG σ) n) (fo (dR (zG σ) n) (fo (dV3 (zG σ) n) h 5) 4) 3))) X2) : w_X5_digest_202 123 0 X1 K := by
  intro P hP
  refine (dwn (n := 5) (p := fun j => ∀ X1, MD X1 d σ o (fo (dV3 (zG σ) n) h j) → P 123 (Int32.ofNat j) X1) (fun X1 w1 => hP _ _ _ ?_) (fun s hs ih X1 w1 => hP _ _ _ ?_)) X1 w1
  · simp only [lt5t, w1.1.1.t123, hty_sI, hln_sI, hR_sI, cnd1, cnd2, b2i_0, b2i_1, b2i_z, if_true, if_false, true_and, and_true, true_implies, false_implies, ne_eq, not_false_eq_true, not_true_eq_false, eq_self, exIA, exIS, exAI, exAS, exSI, exSA, true_or, or_true, false_or, or_false, Nat.reduceEqDiff, Bool.true_and, Bool.and_true, Bool.false_and, Bool.and_false, Bool.true_eq_false, Bool.false_eq_true, i10, i20, i30, vp0, nc0]
    exact m_295 w1 i k
  · simp only [lt5 hs, w1.1.1.t123, hty_sI, hln_sI, hR_sI, cnd1, cnd2, b2i_0, b2i_1, b2i_z, if_true, if_false, true_and, and_true, true_implies, false_implies, ne_eq, not_false_eq_true, not_true_eq_false, eq_self, exIA, exIS, exAI, exAS, exSI, exSA, true_or, or_true, false_or, or_false, Nat.reduceEqDiff, Bool.true_and, Bool.and_true, Bool.false_and, Bool.and_false, Bool.true_eq_false, Bool.false_eq_true, i10, i20, i30, vp0, nc0]
    simp only [fo_s] at ih
    exact m_vo w1 i hs ih
theorem m_27 {X1 : XH} {K : Int64 → XH → Prop} (w1 : MD X1 d σ o h) (i : Inv (zG σ) n) (k : ∀ X2, Wd X2 d σ o → K (dBu σ (dA σ n (fo (dO (zG σ) n) (fo (dR (zG σ) n) (fo (dV3 (zG σ) n) (fo (dC (zG σ)) h n) 5) 4) 3))) X2) : w_X5_digest_27 123 0 X1 K := by
  have hn := i.cn
  have hn2 := hn.2
  intro P hP
  refine (dwn (n := n) (p := fun j => ∀ X1, MD X1 d σ o (fo (dC (zG σ)) h j) → P 123 (Int32.ofNat j) X1) (fun X1 w1 => hP _ _ _ ?_) (fun c hc ih X1 w1 => hP _ _ _ ?_)) X1 w1
  · have q1 := w1.1.1
    have e1 : hI X1 124 366 = Int32.ofNat n := (w1.1.rr 366 (by decide)).trans hn.1
    simp only [q1.t123, q1.r123_0, q1.t124, q1.n124, vp366, nc366, e1, ltt (show n < 4096 by omega), hty_sI, hln_sI, hR_sI, cnd1, cnd2, b2i_0, b2i_1, b2i_z, if_true, if_false, true_and, and_true, true_implies, false_implies, ne_eq, not_false_eq_true, not_true_eq_false, eq_self, exIA, exIS, exAI, exAS, exSI, exSA, true_or, or_true, false_or, or_false, Nat.reduceEqDiff, Bool.true_and, Bool.and_true, Bool.false_and, Bool.and_false, Bool.true_eq_false, Bool.false_eq_true, i10, i20, i30, vp0, nc0]
    exact m_202 w1 i k
  · have q1 := w1.1.1
    have e1 : hI X1 124 366 = Int32.ofNat n := (w1.1.rr 366 (by decide)).trans hn.1
    simp only [q1.t123, q1.r123_0, q1.t124, q1.n124, vp366, nc366, e1, ltl hc (show n < 4096 by omega), hty_sI, hln_sI, hR_sI, cnd1, cnd2, b2i_0, b2i_1, b2i_z, if_true, if_false, true_and, and_true, true_implies, false_implies, ne_eq, not_false_eq_true, not_true_eq_false, eq_self, exIA, exIS, exAI, exAS, exSI, exSA, true_or, or_true, false_or, or_false, Nat.reduceEqDiff, Bool.true_and, Bool.and_true, Bool.false_and, Bool.and_false, Bool.true_eq_false, Bool.false_eq_true, i10, i20, i30, vp0, nc0]
    simp only [fo_s] at ih
    exact m_cl w1 i hc ih
theorem m_dg {K : Int64 → XH → Prop} (w : Wd X d σ o) (i : Inv (zG σ) n) (k : ∀ X1, Wd X1 d σ (o.1, o.2.1, 0) → K (dgst σ n) X1) : w_X5_digest 123 X K := by
  have hn := i.cn
  have q := w.1
  have hr := w.rr
  have e0 : hI (sI X 123 7 0) 124 366 = hI X 124 366 := by rw [sI_ne (by decide)]
  have e : hI (sI X 123 7 0) 124 366 = Int32.ofNat n := e0.trans ((hr 366 (by decide)).trans hn.1)
  have w1 : MD (sL (sI X 123 7 0) 123 14 (4229 : Int64)) d σ (o.1, o.2.1, 0) 4229 := ⟨w.thr.mixL, sL_at⟩
  simp only [w_X5_digest, q.t123, q.r123_0, q.t124, q.n124, vp366, nc366, e, hty_sI, hln_sI, hR_sI, cnd1, cnd2, b2i_0, b2i_1, b2i_z, if_true, if_false, true_and, and_true, true_implies, false_implies, ne_eq, not_false_eq_true, not_true_eq_false, eq_self, exIA, exIS, exAI, exAS, exSI, exSA, true_or, or_true, false_or, or_false, Nat.reduceEqDiff, Bool.true_and, Bool.and_true, Bool.false_and, Bool.and_false, Bool.true_eq_false, Bool.false_eq_true, i10, i20, i30, vp0, nc0]
  refine m_mix w1 (fun X2 w2 => ?_)
  try simp only [w2.1.1.t123, hty_sI, hln_sI, hR_sI, cnd1, cnd2, b2i_0, b2i_1, b2i_z, if_true, if_false, true_and, and_true, true_implies, false_implies, ne_eq, not_false_eq_true, not_true_eq_false, eq_self, exIA, exIS, exAI, exAS, exSI, exSA, true_or, or_true, false_or, or_false, Nat.reduceEqDiff, Bool.true_and, Bool.and_true, Bool.false_and, Bool.and_false, Bool.true_eq_false, Bool.false_eq_true, i10, i20, i30, vp0, nc0]
  exact m_27 w2 i k
end PS
