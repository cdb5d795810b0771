/-! the digest: both chain the same numbers -/
section PS
def ch (h v : Int64) : Int64 := (31 : Int64) * h + v
def chF (h : Int64) (b : Bool) : Int64 := ch h (if b = true then 1 else 0)
def fo (f : Nat → Int64 → Int64) (h : Int64) : Nat → Int64
  | 0 => h
  | i + 1 => f i (fo f h i)
def dT0 (g : Row) (c t : Nat) (h : Int64) : Int64 := if pHas g c t = true then ch (ch (ch (ch h (gRs g c t).toInt64) (gRm g c t).toInt64) (gP g c t).toInt64) (gLA g c t + 1).toInt64 else ch h (gRs g c t).toInt64
def dT (g : Row) (c t : Nat) (h : Int64) : Int64 := dT0 g c t (chF (ch (ch h (gF g c t).toInt64) (gAn g c t).toInt64) (pTk g c t))
def dC (g : Row) (c : Nat) (h : Int64) : Int64 := fo (dT g c) (ch (ch (ch (ch (ch h (gR g c).toInt64) (gS g c).toInt64) (gL g c).toInt64) (gH g c).toInt64) (gLo g c + 1).toInt64) 3
def ses (g : Row) (n s t : Nat) : Int32 := if pTL g n s t = true then -1 else gGo g n s t
def dV (g : Row) (n s t : Nat) (h : Int64) : Int64 := ch (ch (ch (ch (ch h (gSt g s t).toInt64) (gSn g s t).toInt64) (sVoiced g n (Int32.ofNat s) t).toInt64) (ses g n s t + 1).toInt64) (ses g n s t + 1).toInt64
def dV3 (g : Row) (n s : Nat) (h : Int64) : Int64 := fo (dV g n s) h 3
theorem fo_s {f : Nat → Int64 → Int64} {h : Int64} {i : Nat} : fo f h (i + 1) = f i (fo f h i) := rfl
def dR1 (g : Row) (n r t : Nat) (h : Int64) : Int64 := ch (ch (chF (chF h (pWh g n (Int32.ofNat r) t)) (pMx g r t)) (sSigs g r t).toInt64) (sMiss g n r t).toInt64
def dR (g : Row) (n r : Nat) (h : Int64) : Int64 := fo (dR1 g n r) (ch (ch h (sMany g n (Int32.ofNat r)).toInt64) (sLong g n (Int32.ofNat r)).toInt64) 3
def dO0 (g : Row) (n t : Nat) (h : Int64) : Int64 := ch (ch (ch h (sMis g n t).toInt64) (encO (nxTo g t n) + 1).toInt64) (UInt64.toInt64 (gMean g n t))
def dO (g : Row) (n t : Nat) (h : Int64) : Int64 := dO0 g n t (chF (ch (ch (ch (ch h (sAnnex g n t).toInt64) (sTaken g n t).toInt64) (sReady g n t).toInt64) (sReady g n t).toInt64) (pRat g n t))
def dA (σ : St) (n : Nat) (h : Int64) : Int64 := fo (fun k h => chF h (!(decide (zK σ k = 0)))) (ch (ch (ch (ch (ch (ch (ch h (zG σ 367).toInt64) (zG σ 368).toInt64) (zG σ 369).toInt64) (zG σ 370).toInt64) (Int32.ofNat (bsTo (fun t => sTaken (zG σ) n t) 2)).toInt64) (Int32.ofNat (bsTo (fun s => sSpoken (zG σ) n (Int32.ofNat s)) 4)).toInt64) (Int32.ofNat (zH σ)).toInt64) 2
def dBu (σ : St) (h : Int64) : Int64 := fo (fun k h => ch h (zT σ k).toInt64) (ch h (Int32.ofNat (zN σ)).toInt64) (zN σ)
def dgst (σ : St) (n : Nat) : Int64 := dBu σ (dA σ n (fo (dO (zG σ) n) (fo (dR (zG σ) n) (fo (dV3 (zG σ) n) (fo (dC (zG σ)) (ch (4229 : Int64) (Int32.ofNat n).toInt64) n) 5) 4) 3))
theorem e_ch {h v : Int64} {X : XH} {K : Int64 → XH → Prop} : w_X4_chain h v X K = K (ch h v) X := rfl
theorem e_flag {h : Int64} {b : Bool} {X : XH} {K : Int64 → XH → Prop} : w_X4_chainFlag h (b2i b) X K = K (chF h b) X := by
  simp only [w_X4_chainFlag, e_ch]
  cases b <;> simp only [chF, hty_sI, hln_sI, hR_sI, cnd1, cnd2, b2i_0, b2i_1, b2i_z, if_true, if_false, true_and, and_true, true_implies, false_implies, ne_eq, not_false_eq_true, not_true_eq_false, eq_self, exIA, exIS, exAI, exAS, exSI, exSA, true_or, or_true, false_or, or_false, Nat.reduceEqDiff, Bool.true_and, Bool.and_true, Bool.false_and, Bool.and_false, Bool.true_eq_false, Bool.false_eq_true, i10, i20, i30, vp0, nc0]
theorem lt3 {i : Nat} (hi : i < 3) : ((3 : Int32) ≤ Int32.ofNat i) = False := ltl hi (by decide)
theorem lt3t : ((3 : Int32) ≤ Int32.ofNat 3) = True := ltt (by decide)
theorem lt4 {i : Nat} (hi : i < 4) : ((4 : Int32) ≤ Int32.ofNat i) = False := ltl hi (by decide)
theorem lt4t : ((4 : Int32) ≤ Int32.ofNat 4) = True := ltt (by decide)
theorem lt5 {i : Nat} (hi : i < 5) : ((5 : Int32) ≤ Int32.ofNat i) = False := ltl hi (by decide)
theorem lt5t : ((5 : Int32) ≤ Int32.ofNat 5) = True := ltt (by decide)
theorem lt2 {i : Nat} (hi : i < 2) : ((2 : Int32) ≤ Int32.ofNat i) = False := ltl hi (by decide)
theorem lt2t : ((2 : Int32) ≤ Int32.ofNat 2) = True := ltt (by decide)
variable {X : XH} {σ : St} {Zz : XH} {n c t s r : Nat} {h : Int64}
theorem c_tr {K : Int64 → XH → Prop} (q : Shp X) (hh : TR X 2 (zG σ)) (i : Inv (zG σ) n) (hcn : c < n) (ht : t < 3) : w_X4_chainTranslation 1 h (Int32.ofNat c) (Int32.ofNat t) X K = K (dT (zG σ) c t h) X := by
  have hc : c < 24 := Nat.lt_of_lt_of_le hcn i.1.2
  simp only [w_X4_chainTranslation, q.t1, q.r1_0, q.t2, e_framesAt q hh hc ht, e_annexedAt q hh hc ht, e_isTaken q hh hc ht, e_flag, e_reasonAt q hh hc ht (i.S c hcn), e_hasTranslation q hh hc ht, e_roomAt q hh hc ht, e_hundredthsAt q hh hc ht (i.L c hcn), e_leastAnnexAt q hh hc ht, e_ch, hty_sI, hln_sI, hR_sI, cnd1, cnd2, b2i_0, b2i_1, b2i_z, if_true, if_false, true_and, and_true, true_implies, false_implies, ne_eq, not_false_eq_true, not_true_eq_false, eq_self, exIA, exIS, exAI, exAS, exSI, exSA, true_or, or_true, false_or, or_false, Nat.reduceEqDiff, Bool.true_and, Bool.and_true, Bool.false_and, Bool.and_false, Bool.true_eq_false, Bool.false_eq_true, i10, i20, i30, vp0, nc0]
  unfold dT dT0
  cases pHas (zG σ) c t <;> simp only [hty_sI, hln_sI, hR_sI, cnd1, cnd2, b2i_0, b2i_1, b2i_z, if_true, if_false, true_and, and_true, true_implies, false_implies, ne_eq, not_false_eq_true, not_true_eq_false, eq_self, exIA, exIS, exAI, exAS, exSI, exSA, true_or, or_true, false_or, or_false, Nat.reduceEqDiff, Bool.true_and, Bool.and_true, Bool.false_and, Bool.and_false, Bool.true_eq_false, Bool.false_eq_true, i10, i20, i30, vp0, nc0]
theorem c_cl {K : Int64 → XH → Prop} (w : Wd X σ Zz) (i : Inv (zG σ) n) (hcn : c < n) (k : K (dC (zG σ) c h) X) : w_X4_chainClause 1 h (Int32.ofNat c) X K := by
  have q := w.1
  have hh : TR X 2 (zG σ) := w.2.1.1
  have hc : c < 24 := Nat.lt_of_lt_of_le hcn i.1.2
  simp only [w_X4_chainClause, q.t1, q.r1_0, q.t2, e_reelAt q hh hc, e_speakerAt q hh hc, e_lipsAt q hh hc, e_sighAt q hh hc, e_ch, hty_sI, hln_sI, hR_sI, cnd1, cnd2, b2i_0, b2i_1, b2i_z, if_true, if_false, true_and, and_true, true_implies, false_implies, ne_eq, not_false_eq_true, not_true_eq_false, eq_self, exIA, exIS, exAI, exAS, exSI, exSA, true_or, or_true, false_or, or_false, Nat.reduceEqDiff, Bool.true_and, Bool.and_true, Bool.false_and, Bool.and_false, Bool.true_eq_false, Bool.false_eq_true, i10, i20, i30, vp0, nc0]
  refine s_longestSighAt q hh hc ?_
  try simp only [q.t1, q.r1_0, q.t2, e_ch, hty_sI, hln_sI, hR_sI, cnd1, cnd2, b2i_0, b2i_1, b2i_z, if_true, if_false, true_and, and_true, true_implies, false_implies, ne_eq, not_false_eq_true, not_true_eq_false, eq_self, exIA, exIS, exAI, exAS, exSI, exSA, true_or, or_true, false_or, or_false, Nat.reduceEqDiff, Bool.true_and, Bool.and_true, Bool.false_and, Bool.and_false, Bool.true_eq_false, Bool.false_eq_true, i10, i20, i30, vp0, nc0]
  intro P hP
  refine dwn (n := 3) (p := fun j => P 1 (Int32.ofNat c) (fo (dT (zG σ) c) (ch (ch (ch (ch (ch h (gR (zG σ) c).toInt64) (gS (zG σ) c).toInt64) (gL (zG σ) c).toInt64) (gH (zG σ) c).toInt64) (gLo (zG σ) c + 1).toInt64) j) (Int32.ofNat j) X) (hP _ _ _ _ _ ?_) (fun j hj ih => hP _ _ _ _ _ ?_)
  · simp only [lt3t, hty_sI, hln_sI, hR_sI, cnd1, cnd2, b2i_0, b2i_1, b2i_z, if_true, if_false, true_and, and_true, true_implies, false_implies, ne_eq, not_false_eq_true, not_true_eq_false, eq_self, exIA, exIS, exAI, exAS, exSI, exSA, true_or, or_true, false_or, or_false, Nat.reduceEqDiff, Bool.true_and, Bool.and_true, Bool.false_and, Bool.and_false, Bool.true_eq_false, Bool.false_eq_true, i10, i20, i30, vp0, nc0]
    exact k
  · simp only [lt3 hj, c_tr q hh i hcn hj, q.t1, of_s, hty_sI, hln_sI, hR_sI, cnd1, cnd2, b2i_0, b2i_1, b2i_z, if_true, if_false, true_and, and_true, true_implies, false_implies, ne_eq, not_false_eq_true, not_true_eq_false, eq_self, exIA, exIS, exAI, exAS, exSI, exSA, true_or, or_true, false_or, or_false, Nat.reduceEqDiff, Bool.true_and, Bool.and_true, Bool.false_and, Bool.and_false, Bool.true_eq_false, Bool.false_eq_true, i10, i20, i30, vp0, nc0]
    exact ih
theorem c_vo {K : Int64 → XH → Prop} (w : Wd X σ Zz) (i : Inv (zG σ) n) (hs : s < 5) (ht : t < 3) (k : ∀ X1, Wd X1 σ Zz → K (dV (zG σ) n s t h) X1) : w_X4_chainVoice 1 h (Int32.ofNat s) (Int32.ofNat t) X K := by
  have q := w.1
  have hh : TR X 2 (zG σ) := w.2.1.1
  have hn := i.cn
  obtain ⟨v1, v2, v3, v4, v5⟩ := i.V hs ht
  have hm : rdM (zG σ) (Int32.ofNat s) t n ≤ 24 := Nat.le_trans (rdM_le _ _ _ _) hn.2
  have hb := rdB_le (a := Int32.ofNat s) i ht n (Nat.le_refl n)
  simp only [w_X4_chainVoice, q.t1, q.r1_0, q.t2, e_staminaAt q hh hs ht, e_strengthAt q hh hs ht, e_ch, hty_sI, hln_sI, hR_sI, cnd1, cnd2, b2i_0, b2i_1, b2i_z, if_true, if_false, true_and, and_true, true_implies, false_implies, ne_eq, not_false_eq_true, not_true_eq_false, eq_self, exIA, exIS, exAI, exAS, exSI, exSA, true_or, or_true, false_or, or_false, Nat.reduceEqDiff, Bool.true_and, Bool.and_true, Bool.false_and, Bool.and_false, Bool.true_eq_false, Bool.false_eq_true, i10, i20, i30, vp0, nc0]
  refine s_takenFramesOf q hh hn ht ?_
  simp only [q.t1, q.r1_0, q.r1_5, q.t2, q.t120, e_ch, hty_sI, hln_sI, hR_sI, cnd1, cnd2, b2i_0, b2i_1, b2i_z, if_true, if_false, true_and, and_true, true_implies, false_implies, ne_eq, not_false_eq_true, not_true_eq_false, eq_self, exIA, exIS, exAI, exAS, exSI, exSA, true_or, or_true, false_or, or_false, Nat.reduceEqDiff, Bool.true_and, Bool.and_true, Bool.false_and, Bool.and_false, Bool.true_eq_false, Bool.false_eq_true, i10, i20, i30, vp0, nc0]
  refine s_fillPlan q hh i hs ht (fun X1 a p => ?_)
  have q2 := a.shp q
  have w2 := w.pl (a.fr q)
  simp only [q2.t1, q2.r1_5, q2.t120, hty_sI, hln_sI, hR_sI, cnd1, cnd2, b2i_0, b2i_1, b2i_z, if_true, if_false, true_and, and_true, true_implies, false_implies, ne_eq, not_false_eq_true, not_true_eq_false, eq_self, exIA, exIS, exAI, exAS, exSI, exSA, true_or, or_true, false_or, or_false, Nat.reduceEqDiff, Bool.true_and, Bool.and_true, Bool.false_and, Bool.and_false, Bool.true_eq_false, Bool.false_eq_true, i10, i20, i30, vp0, nc0]
  refine s_hasTooLong q2 p hm hb v3 ?_
  unfold dV ses at k
  cases hp : pTL (zG σ) n s t
  · have hT : anyTo (fun k => !(decide (rdB (zG σ) (Int32.ofNat s) t n k ≤ gSA (zG σ) s t))) (rdM (zG σ) (Int32.ofNat s) t n) = false := hp
    simp only [hp, Bool.false_eq_true, if_false] at k
    simp only [hT, q2.t1, q2.r1_5, q2.t120, hty_sI, hln_sI, hR_sI, cnd1, cnd2, b2i_0, b2i_1, b2i_z, if_true, if_false, true_and, and_true, true_implies, false_implies, ne_eq, not_false_eq_true, not_true_eq_false, eq_self, exIA, exIS, exAI, exAS, exSI, exSA, true_or, or_true, false_or, or_false, Nat.reduceEqDiff, Bool.true_and, Bool.and_true, Bool.false_and, Bool.and_false, Bool.true_eq_false, Bool.false_eq_true, i10, i20, i30, vp0, nc0]
    refine s_goThrough q2 p hm (pTL_b hp) v3 v4 ?_
    simp only [e_ch, q2.t1, q2.r1_5, q2.t120, hty_sI, hln_sI, hR_sI, cnd1, cnd2, b2i_0, b2i_1, b2i_z, if_true, if_false, true_and, and_true, true_implies, false_implies, ne_eq, not_false_eq_true, not_true_eq_false, eq_self, exIA, exIS, exAI, exAS, exSI, exSA, true_or, or_true, false_or, or_false, Nat.reduceEqDiff, Bool.true_and, Bool.and_true, Bool.false_and, Bool.and_false, Bool.true_eq_false, Bool.false_eq_true, i10, i20, i30, vp0, nc0]
    refine s_fillTable q2 p hm (pTL_b hp) v3 v4 (fun X3 a3 => ?_)
    exact k X3 (w2.pl (a3.fr q2))
  · have hT : anyTo (fun k => !(decide (rdB (zG σ) (Int32.ofNat s) t n k ≤ gSA (zG σ) s t))) (rdM (zG σ) (Int32.ofNat s) t n) = true := hp
    simp only [hp, if_true] at k
    simp only [hT, e_ch, q2.t1, q2.r1_5, q2.t120, hty_sI, hln_sI, hR_sI, cnd1, cnd2, b2i_0, b2i_1, b2i_z, if_true, if_false, true_and, and_true, true_implies, false_implies, ne_eq, not_false_eq_true, not_true_eq_false, eq_self, exIA, exIS, exAI, exAS, exSI, exSA, true_or, or_true, false_or, or_false, Nat.reduceEqDiff, Bool.true_and, Bool.and_true, Bool.false_and, Bool.and_false, Bool.true_eq_false, Bool.false_eq_true, i10, i20, i30, vp0, nc0]
    exact k X1 w2
theorem c_re {K : Int64 → XH → Prop} (w : Wd X σ Zz) (i : Inv (zG σ) n) (hr : r < 4) (k : K (dR (zG σ) n r h) X) : w_X4_chainReel 1 h (Int32.ofNat r) X K := by
  have q := w.1
  have hh : TR X 2 (zG σ) := w.2.1.1
  have hn := i.cn
  simp only [w_X4_chainReel, q.t1, q.r1_0, q.t2, hty_sI, hln_sI, hR_sI, cnd1, cnd2, b2i_0, b2i_1, b2i_z, if_true, if_false, true_and, and_true, true_implies, false_implies, ne_eq, not_false_eq_true, not_true_eq_false, eq_self, exIA, exIS, exAI, exAS, exSI, exSA, true_or, or_true, false_or, or_false, Nat.reduceEqDiff, Bool.true_and, Bool.and_true, Bool.false_and, Bool.and_false, Bool.true_eq_false, Bool.false_eq_true, i10, i20, i30, vp0, nc0]
  refine s_clausesOn q hh hn ?_
  try simp only [q.t1, q.r1_0, q.t2, e_ch, hty_sI, hln_sI, hR_sI, cnd1, cnd2, b2i_0, b2i_1, b2i_z, if_true, if_false, true_and, and_true, true_implies, false_implies, ne_eq, not_false_eq_true, not_true_eq_false, eq_self, exIA, exIS, exAI, exAS, exSI, exSA, true_or, or_true, false_or, or_false, Nat.reduceEqDiff, Bool.true_and, Bool.and_true, Bool.false_and, Bool.and_false, Bool.true_eq_false, Bool.false_eq_true, i10, i20, i30, vp0, nc0]
  refine s_lipsOn q hh hn ?_
  try simp only [q.t1, q.r1_0, q.t2, e_ch, hty_sI, hln_sI, hR_sI, cnd1, cnd2, b2i_0, b2i_1, b2i_z, if_true, if_false, true_and, and_true, true_implies, false_implies, ne_eq, not_false_eq_true, not_true_eq_false, eq_self, exIA, exIS, exAI, exAS, exSI, exSA, true_or, or_true, false_or, or_false, Nat.reduceEqDiff, Bool.true_and, Bool.and_true, Bool.false_and, Bool.and_false, Bool.true_eq_false, Bool.false_eq_true, i10, i20, i30, vp0, nc0]
  intro P hP
  refine dwn (n := 3) (p := fun j => P 1 (Int32.ofNat r) (fo (dR1 (zG σ) n r) (ch (ch h (sMany (zG σ) n (Int32.ofNat r)).toInt64) (sLong (zG σ) n (Int32.ofNat r)).toInt64) j) (Int32.ofNat j) X) (hP _ _ _ _ _ ?_) (fun j hj ih => hP _ _ _ _ _ ?_)
  · simp only [lt3t, hty_sI, hln_sI, hR_sI, cnd1, cnd2, b2i_0, b2i_1, b2i_z, if_true, if_false, true_and, and_true, true_implies, false_implies, ne_eq, not_false_eq_true, not_true_eq_false, eq_self, exIA, exIS, exAI, exAS, exSI, exSA, true_or, or_true, false_or, or_false, Nat.reduceEqDiff, Bool.true_and, Bool.and_true, Bool.false_and, Bool.and_false, Bool.true_eq_false, Bool.false_eq_true, i10, i20, i30, vp0, nc0]
    exact k
  · simp only [lt3 hj, q.t1, q.r1_0, q.t2, hty_sI, hln_sI, hR_sI, cnd1, cnd2, b2i_0, b2i_1, b2i_z, if_true, if_false, true_and, and_true, true_implies, false_implies, ne_eq, not_false_eq_true, not_true_eq_false, eq_self, exIA, exIS, exAI, exAS, exSI, exSA, true_or, or_true, false_or, or_false, Nat.reduceEqDiff, Bool.true_and, Bool.and_true, Bool.false_and, Bool.and_false, Bool.true_eq_false, Bool.false_eq_true, i10, i20, i30, vp0, nc0]
    refine s_isWholeReel q hh hn hj ?_
    simp only [e_flag, e_hasMix q hh hr hj, q.t1, q.r1_0, q.t2, hty_sI, hln_sI, hR_sI, cnd1, cnd2, b2i_0, b2i_1, b2i_z, if_true, if_false, true_and, and_true, true_implies, false_implies, ne_eq, not_false_eq_true, not_true_eq_false, eq_self, exIA, exIS, exAI, exAS, exSI, exSA, true_or, or_true, false_or, or_false, Nat.reduceEqDiff, Bool.true_and, Bool.and_true, Bool.false_and, Bool.and_false, Bool.true_eq_false, Bool.false_eq_true, i10, i20, i30, vp0, nc0]
    refine s_signaturesAt q hh hr hj (i.2.2.2.2.1 r hr j hj).2 ?_
    simp only [e_ch, q.t1, q.r1_0, q.t2, hty_sI, hln_sI, hR_sI, cnd1, cnd2, b2i_0, b2i_1, b2i_z, if_true, if_false, true_and, and_true, true_implies, false_implies, ne_eq, not_false_eq_true, not_true_eq_false, eq_self, exIA, exIS, exAI, exAS, exSI, exSA, true_or, or_true, false_or, or_false, Nat.reduceEqDiff, Bool.true_and, Bool.and_true, Bool.false_and, Bool.and_false, Bool.true_eq_false, Bool.false_eq_true, i10, i20, i30, vp0, nc0]
    refine s_signaturesMissing q hh hn hr hj ?_
    simp only [e_ch, of_s, hty_sI, hln_sI, hR_sI, cnd1, cnd2, b2i_0, b2i_1, b2i_z, if_true, if_false, true_and, and_true, true_implies, false_implies, ne_eq, not_false_eq_true, not_true_eq_false, eq_self, exIA, exIS, exAI, exAS, exSI, exSA, true_or, or_true, false_or, or_false, Nat.reduceEqDiff, Bool.true_and, Bool.and_true, Bool.false_and, Bool.and_false, Bool.true_eq_false, Bool.false_eq_true, i10, i20, i30, vp0, nc0]
    exact ih
theorem c_to {K : Int64 → XH → Prop} (w : Wd X σ Zz) (i : Inv (zG σ) n) (ht : t < 3) (k : K (dO (zG σ) n t h) X) : w_X4_chainTongue 1 h (Int32.ofNat t) X K := by
  have q := w.1
  have hh : TR X 2 (zG σ) := w.2.1.1
  have hn := i.cn
  have mo := mean_ok i ht
  simp only [w_X4_chainTongue, q.t1, q.r1_0, q.t2, hty_sI, hln_sI, hR_sI, cnd1, cnd2, b2i_0, b2i_1, b2i_z, if_true, if_false, true_and, and_true, true_implies, false_implies, ne_eq, not_false_eq_true, not_true_eq_false, eq_self, exIA, exIS, exAI, exAS, exSI, exSA, true_or, or_true, false_or, or_false, Nat.reduceEqDiff, Bool.true_and, Bool.and_true, Bool.false_and, Bool.and_false, Bool.true_eq_false, Bool.false_eq_true, i10, i20, i30, vp0, nc0]
  refine s_annexTotal q hh hn ht ?_
  try simp only [q.t1, q.r1_0, q.t2, e_ch, hty_sI, hln_sI, hR_sI, cnd1, cnd2, b2i_0, b2i_1, b2i_z, if_true, if_false, true_and, and_true, true_implies, false_implies, ne_eq, not_false_eq_true, not_true_eq_false, eq_self, exIA, exIS, exAI, exAS, exSI, exSA, true_or, or_true, false_or, or_false, Nat.reduceEqDiff, Bool.true_and, Bool.and_true, Bool.false_and, Bool.and_false, Bool.true_eq_false, Bool.false_eq_true, i10, i20, i30, vp0, nc0]
  refine s_takenTotal q hh hn ht ?_
  try simp only [q.t1, q.r1_0, q.t2, e_ch, hty_sI, hln_sI, hR_sI, cnd1, cnd2, b2i_0, b2i_1, b2i_z, if_true, if_false, true_and, and_true, true_implies, false_implies, ne_eq, not_false_eq_true, not_true_eq_false, eq_self, exIA, exIS, exAI, exAS, exSI, exSA, true_or, or_true, false_or, or_false, Nat.reduceEqDiff, Bool.true_and, Bool.and_true, Bool.false_and, Bool.and_false, Bool.true_eq_false, Bool.false_eq_true, i10, i20, i30, vp0, nc0]
  refine s_readyTotal q hh hn ht ?_
  try simp only [q.t1, q.r1_0, q.t2, e_ch, hty_sI, hln_sI, hR_sI, cnd1, cnd2, b2i_0, b2i_1, b2i_z, if_true, if_false, true_and, and_true, true_implies, false_implies, ne_eq, not_false_eq_true, not_true_eq_false, eq_self, exIA, exIS, exAI, exAS, exSI, exSA, true_or, or_true, false_or, or_false, Nat.reduceEqDiff, Bool.true_and, Bool.and_true, Bool.false_and, Bool.and_false, Bool.true_eq_false, Bool.false_eq_true, i10, i20, i30, vp0, nc0]
  refine s_readyOfAllVoices q hh hn ht ?_
  rw [rdAll_eq i.S]
  try simp only [q.t1, q.r1_0, q.t2, e_ch, hty_sI, hln_sI, hR_sI, cnd1, cnd2, b2i_0, b2i_1, b2i_z, if_true, if_false, true_and, and_true, true_implies, false_implies, ne_eq, not_false_eq_true, not_true_eq_false, eq_self, exIA, exIS, exAI, exAS, exSI, exSA, true_or, or_true, false_or, or_false, Nat.reduceEqDiff, Bool.true_and, Bool.and_true, Bool.false_and, Bool.and_false, Bool.true_eq_false, Bool.false_eq_true, i10, i20, i30, vp0, nc0]
  refine s_hasRatification q hh hn ht ?_
  simp only [q.t1, q.r1_0, q.t2, e_flag, hty_sI, hln_sI, hR_sI, cnd1, cnd2, b2i_0, b2i_1, b2i_z, if_true, if_false, true_and, and_true, true_implies, false_implies, ne_eq, not_false_eq_true, not_true_eq_false, eq_self, exIA, exIS, exAI, exAS, exSI, exSA, true_or, or_true, false_or, or_false, Nat.reduceEqDiff, Bool.true_and, Bool.and_true, Bool.false_and, Bool.and_false, Bool.true_eq_false, Bool.false_eq_true, i10, i20, i30, vp0, nc0]
  refine s_misfitTotal q hh hn ht ?_
  try simp only [q.t1, q.r1_0, q.t2, e_ch, hty_sI, hln_sI, hR_sI, cnd1, cnd2, b2i_0, b2i_1, b2i_z, if_true, if_false, true_and, and_true, true_implies, false_implies, ne_eq, not_false_eq_true, not_true_eq_false, eq_self, exIA, exIS, exAI, exAS, exSI, exSA, true_or, or_true, false_or, or_false, Nat.reduceEqDiff, Bool.true_and, Bool.and_true, Bool.false_and, Bool.and_false, Bool.true_eq_false, Bool.false_eq_true, i10, i20, i30, vp0, nc0]
  refine s_longestToTake q hh hn i.S ht ?_
  try simp only [q.t1, q.r1_0, q.t2, e_ch, hty_sI, hln_sI, hR_sI, cnd1, cnd2, b2i_0, b2i_1, b2i_z, if_true, if_false, true_and, and_true, true_implies, false_implies, ne_eq, not_false_eq_true, not_true_eq_false, eq_self, exIA, exIS, exAI, exAS, exSI, exSA, true_or, or_true, false_or, or_false, Nat.reduceEqDiff, Bool.true_and, Bool.and_true, Bool.false_and, Bool.and_false, Bool.true_eq_false, Bool.false_eq_true, i10, i20, i30, vp0, nc0]
  refine s_meanHundredths q hh i ht mo.1 ?_
  exact s_bitsOf mo.2 k
theorem e_snap {j : Nat} {K : Int32 → XH → Prop} (w : Wd X σ Zz) (hj : j < 2) : w_X4_hasSnapshot 1 (Int32.ofNat j) X K = K (b2i (!(decide (zK σ j = 0)))) X := by
  have q := w.1
  have e := (w.2.1.2.2.1 j hj).1
  simp only [w_X4_hasSnapshot, q.t1, q.r1_3, q.t113, q.n113, e, of_nn (show j < 4096 by omega), ltl hj (show 2 < 4096 by decide), vp_of hj (show 2 < 4096 by decide), nc (show j < 4096 by omega), hty_sI, hln_sI, hR_sI, cnd1, cnd2, b2i_0, b2i_1, b2i_z, if_true, if_false, true_and, and_true, true_implies, false_implies, ne_eq, not_false_eq_true, not_true_eq_false, eq_self, exIA, exIS, exAI, exAS, exSI, exSA, true_or, or_true, false_or, or_false, Nat.reduceEqDiff, Bool.true_and, Bool.and_true, Bool.false_and, Bool.and_false, Bool.true_eq_false, Bool.false_eq_true, i10, i20, i30, vp0, nc0]
  by_cases h0 : zK σ j = 0 <;> simp [h0, b2i]
theorem c_ac {K : Int64 → XH → Prop} (w : Wd X σ Zz) (i : Inv (zG σ) n) (k : K (dA σ n h) X) : w_X4_chainAccounts 1 h X K := by
  have q := w.1
  have hh : TR X 2 (zG σ) := w.2.1.1
  have hn := i.cn
  have e1 : hI X 2 12 = zG σ 367 := hh 0 12 rfl
  have e2 : hI X 2 13 = zG σ 368 := hh 0 13 rfl
  have e3 : hI X 2 14 = zG σ 369 := hh 0 14 rfl
  have e4 : hI X 2 15 = zG σ 370 := hh 0 15 rfl
  have e5 : hI X 14 1 = Int32.ofNat (zH σ) := w.2.1.2.1.1
  simp only [w_X4_chainAccounts, q.t1, q.r1_0, q.t2, e_ch, e1, e2, e3, e4, hty_sI, hln_sI, hR_sI, cnd1, cnd2, b2i_0, b2i_1, b2i_z, if_true, if_false, true_and, and_true, true_implies, false_implies, ne_eq, not_false_eq_true, not_true_eq_false, eq_self, exIA, exIS, exAI, exAS, exSI, exSA, true_or, or_true, false_or, or_false, Nat.reduceEqDiff, Bool.true_and, Bool.and_true, Bool.false_and, Bool.and_false, Bool.true_eq_false, Bool.false_eq_true, i10, i20, i30, vp0, nc0]
  refine s_mostTakenTongue q hh hn ?_
  try simp only [q.t1, q.r1_0, q.t2, e_ch, hty_sI, hln_sI, hR_sI, cnd1, cnd2, b2i_0, b2i_1, b2i_z, if_true, if_false, true_and, and_true, true_implies, false_implies, ne_eq, not_false_eq_true, not_true_eq_false, eq_self, exIA, exIS, exAI, exAS, exSI, exSA, true_or, or_true, false_or, or_false, Nat.reduceEqDiff, Bool.true_and, Bool.and_true, Bool.false_and, Bool.and_false, Bool.true_eq_false, Bool.false_eq_true, i10, i20, i30, vp0, nc0]
  refine s_mostLipsState q hh hn ?_
  simp only [q.t1, q.r1_0, q.r1_1, q.t14, q.t2, e_ch, e5, hty_sI, hln_sI, hR_sI, cnd1, cnd2, b2i_0, b2i_1, b2i_z, if_true, if_false, true_and, and_true, true_implies, false_implies, ne_eq, not_false_eq_true, not_true_eq_false, eq_self, exIA, exIS, exAI, exAS, exSI, exSA, true_or, or_true, false_or, or_false, Nat.reduceEqDiff, Bool.true_and, Bool.and_true, Bool.false_and, Bool.and_false, Bool.true_eq_false, Bool.false_eq_true, i10, i20, i30, vp0, nc0]
  intro P hP
  refine dwn (n := 2) (p := fun j => P 1 (fo (fun k h => chF h (!(decide (zK σ k = 0)))) (ch (ch (ch (ch (ch (ch (ch h (zG σ 367).toInt64) (zG σ 368).toInt64) (zG σ 369).toInt64) (zG σ 370).toInt64) (Int32.ofNat (bsTo (fun t => sTaken (zG σ) n t) 2)).toInt64) (Int32.ofNat (bsTo (fun s => sSpoken (zG σ) n (Int32.ofNat s)) 4)).toInt64) (Int32.ofNat (zH σ)).toInt64) j) (Int32.ofNat j) X) (hP _ _ _ _ ?_) (fun j hj ih => hP _ _ _ _ ?_)
  · simp only [lt2t, hty_sI, hln_sI, hR_sI, cnd1, cnd2, b2i_0, b2i_1, b2i_z, if_true, if_false, true_and, and_true, true_implies, false_implies, ne_eq, not_false_eq_true, not_true_eq_false, eq_self, exIA, exIS, exAI, exAS, exSI, exSA, true_or, or_true, false_or, or_false, Nat.reduceEqDiff, Bool.true_and, Bool.and_true, Bool.false_and, Bool.and_false, Bool.true_eq_false, Bool.false_eq_true, i10, i20, i30, vp0, nc0]
    exact k
  · simp only [lt2 hj, e_snap w hj, e_flag, q.t1, of_s, hty_sI, hln_sI, hR_sI, cnd1, cnd2, b2i_0, b2i_1, b2i_z, if_true, if_false, true_and, and_true, true_implies, false_implies, ne_eq, not_false_eq_true, not_true_eq_false, eq_self, exIA, exIS, exAI, exAS, exSI, exSA, true_or, or_true, false_or, or_false, Nat.reduceEqDiff, Bool.true_and, Bool.and_true, Bool.false_and, Bool.and_false, Bool.true_eq_false, Bool.false_eq_true, i10, i20, i30, vp0, nc0]
    exact ih
theorem c_bu {K : Int64 → XH → Prop} (w : Wd X σ Zz) (k : K (dBu σ h) X) : w_X4_chainBuffer 1 h X K := by
  have q := w.1
  obtain ⟨e1, e2, e3⟩ := w.2.1.2.2.2
  simp only [w_X4_chainBuffer, q.t1, q.r1_4, q.t114, e_ch, e1, hty_sI, hln_sI, hR_sI, cnd1, cnd2, b2i_0, b2i_1, b2i_z, if_true, if_false, true_and, and_true, true_implies, false_implies, ne_eq, not_false_eq_true, not_true_eq_false, eq_self, exIA, exIS, exAI, exAS, exSI, exSA, true_or, or_true, false_or, or_false, Nat.reduceEqDiff, Bool.true_and, Bool.and_true, Bool.false_and, Bool.and_false, Bool.true_eq_false, Bool.false_eq_true, i10, i20, i30, vp0, nc0]
  intro P hP
  refine dwn (n := zN σ) (p := fun j => P 1 (fo (fun k h => ch h (zT σ k).toInt64) (ch h (Int32.ofNat (zN σ)).toInt64) j) (Int32.ofNat j) X) (hP _ _ _ _ ?_) (fun j hj ih => hP _ _ _ _ ?_)
  · simp only [q.t1, q.r1_4, q.t114, e1, ltt (show zN σ < 4096 by omega), hty_sI, hln_sI, hR_sI, cnd1, cnd2, b2i_0, b2i_1, b2i_z, if_true, if_false, true_and, and_true, true_implies, false_implies, ne_eq, not_false_eq_true, not_true_eq_false, eq_self, exIA, exIS, exAI, exAS, exSI, exSA, true_or, or_true, false_or, or_false, Nat.reduceEqDiff, Bool.true_and, Bool.and_true, Bool.false_and, Bool.and_false, Bool.true_eq_false, Bool.false_eq_true, i10, i20, i30, vp0, nc0]
    exact k
  · simp only [q.t1, q.r1_4, q.t114, q.r114_0, e1, ltl hj (show zN σ < 4096 by omega), at_eq q.t115 q.n115 (show j < 60 by omega) (by decide), e3 j hj, e_ch, of_s, hty_sI, hln_sI, hR_sI, cnd1, cnd2, b2i_0, b2i_1, b2i_z, if_true, if_false, true_and, and_true, true_implies, false_implies, ne_eq, not_false_eq_true, not_true_eq_false, eq_self, exIA, exIS, exAI, exAS, exSI, exSA, true_or, or_true, false_or, or_false, Nat.reduceEqDiff, Bool.true_and, Bool.and_true, Bool.false_and, Bool.and_false, Bool.true_eq_false, Bool.false_eq_true, i10, i20, i30, vp0, nc0]
    exact ih
theorem c_vos {P43 : Nat → Int64 → Int32 → XH → Prop} {K : Int64 → XH → Prop} (w : Wd X σ Zz) (i : Inv (zG σ) n) (hs : s < 5) (k : ∀ X1, Wd X1 σ Zz → P43 1 (dV3 (zG σ) n s h) (Int32.ofNat (s + 1)) X1) : w_X4_digest_51 P43 1 h (Int32.ofNat s) 0 X K := by
  intro P2 hP2
  unfold dV3 at k
  refine (dwn (n := 3) (p := fun l => ∀ X2, Wd X2 σ Zz → P2 1 (fo (dV (zG σ) n s) h l) (Int32.ofNat s) (Int32.ofNat l) X2) (fun X2 w2 => hP2 _ _ _ _ _ ?_) (fun l hl ih2 X2 w2 => hP2 _ _ _ _ _ ?_)) X w
  · simp only [lt3t, of_s, hty_sI, hln_sI, hR_sI, cnd1, cnd2, b2i_0, b2i_1, b2i_z, if_true, if_false, true_and, and_true, true_implies, false_implies, ne_eq, not_false_eq_true, not_true_eq_false, eq_self, exIA, exIS, exAI, exAS, exSI, exSA, true_or, or_true, false_or, or_false, Nat.reduceEqDiff, Bool.true_and, Bool.and_true, Bool.false_and, Bool.and_false, Bool.true_eq_false, Bool.false_eq_true, i10, i20, i30, vp0, nc0]
    exact k X2 w2
  · simp only [lt3 hl, w2.1.t1, hty_sI, hln_sI, hR_sI, cnd1, cnd2, b2i_0, b2i_1, b2i_z, if_true, if_false, true_and, and_true, true_implies, false_implies, ne_eq, not_false_eq_true, not_true_eq_false, eq_self, exIA, exIS, exAI, exAS, exSI, exSA, true_or, or_true, false_or, or_false, Nat.reduceEqDiff, Bool.true_and, Bool.and_true, Bool.false_and, Bool.and_false, Bool.true_eq_false, Bool.false_eq_true, i10, i20, i30, vp0, nc0]
    refine c_vo w2 i hs hl (fun X3 w3 => ?_)
    simp only [of_s]
    exact ih2 X3 w3
theorem c_100 {K : Int64 → XH → Prop} (w : Wd X σ Zz) (i : Inv (zG σ) n) (k : K (dBu σ (dA σ n (fo (dO (zG σ) n) h 3))) X) : w_X4_digest_100 1 h 0 X K := by
  intro P hP
  refine dwn (n := 3) (p := fun j => P 1 (fo (dO (zG σ) n) h j) (Int32.ofNat j) X) (hP _ _ _ _ ?_) (fun j hj ih => hP _ _ _ _ ?_)
  · simp only [lt3t, w.1.t1, hty_sI, hln_sI, hR_sI, cnd1, cnd2, b2i_0, b2i_1, b2i_z, if_true, if_false, true_and, and_true, true_implies, false_implies, ne_eq, not_false_eq_true, not_true_eq_false, eq_self, exIA, exIS, exAI, exAS, exSI, exSA, true_or, or_true, false_or, or_false, Nat.reduceEqDiff, Bool.true_and, Bool.and_true, Bool.false_and, Bool.and_false, Bool.true_eq_false, Bool.false_eq_true, i10, i20, i30, vp0, nc0]
    refine c_ac w i ?_
    simp only [w.1.t1, hty_sI, hln_sI, hR_sI, cnd1, cnd2, b2i_0, b2i_1, b2i_z, if_true, if_false, true_and, and_true, true_implies, false_implies, ne_eq, not_false_eq_true, not_true_eq_false, eq_self, exIA, exIS, exAI, exAS, exSI, exSA, true_or, or_true, false_or, or_false, Nat.reduceEqDiff, Bool.true_and, Bool.and_true, Bool.false_and, Bool.and_false, Bool.true_eq_false, Bool.false_eq_true, i10, i20, i30, vp0, nc0]
    exact c_bu w k
  · simp only [lt3 hj, w.1.t1, hty_sI, hln_sI, hR_sI, cnd1, cnd2, b2i_0, b2i_1, b2i_z, if_true, if_false, true_and, and_true, true_implies, false_implies, ne_eq, not_false_eq_true, not_true_eq_false, eq_self, exIA, exIS, exAI, exAS, exSI, exSA, true_or, or_true, false_or, or_false, Nat.reduceEqDiff, Bool.true_and, Bool.and_true, Bool.false_and, Bool.and_false, Bool.true_eq_false, Bool.false_eq_true, i10, i20, i30, vp0, nc0]
    refine c_to w i hj ?_
    simp only [of_s]
    exact ih
theorem c_80 {K : Int64 → XH → Prop} (w : Wd X σ Zz) (i : Inv (zG σ) n) (k : K (dBu σ (dA σ n (fo (dO (zG σ) n) (fo (dR (zG σ) n) h 4) 3))) X) : w_X4_digest_80 1 h 0 X K := by
  intro P hP
  refine dwn (n := 4) (p := fun j => P 1 (fo (dR (zG σ) n) h j) (Int32.ofNat j) X) (hP _ _ _ _ ?_) (fun j hj ih => hP _ _ _ _ ?_)
  · simp only [lt4t, hty_sI, hln_sI, hR_sI, cnd1, cnd2, b2i_0, b2i_1, b2i_z, if_true, if_false, true_and, and_true, true_implies, false_implies, ne_eq, not_false_eq_true, not_true_eq_false, eq_self, exIA, exIS, exAI, exAS, exSI, exSA, true_or, or_true, false_or, or_false, Nat.reduceEqDiff, Bool.true_and, Bool.and_true, Bool.false_and, Bool.and_false, Bool.true_eq_false, Bool.false_eq_true, i10, i20, i30, vp0, nc0]
    exact c_100 w i k
  · simp only [lt4 hj, w.1.t1, hty_sI, hln_sI, hR_sI, cnd1, cnd2, b2i_0, b2i_1, b2i_z, if_true, if_false, true_and, and_true, true_implies, false_implies, ne_eq, not_false_eq_true, not_true_eq_false, eq_self, exIA, exIS, exAI, exAS, exSI, exSA, true_or, or_true, false_or, or_false, Nat.reduceEqDiff, Bool.true_and, Bool.and_true, Bool.false_and, Bool.and_false, Bool.true_eq_false, Bool.false_eq_true, i10, i20, i30, vp0, nc0]
    refine c_re w i hj ?_
    simp only [of_s]
    exact ih
theorem c_43 {K : Int64 → XH → Prop} (w : Wd X σ Zz) (i : Inv (zG σ) n) (k : ∀ X1, Wd X1 σ Zz → K (dBu σ (dA σ n (fo (dO (zG σ) n) (fo (dR (zG σ) n) (fo (dV3 (zG σ) n) h 5) 4) 3))) X1) : w_X4_digest_43 1 h 0 X K := by
  intro P hP
  refine (dwn (n := 5) (p := fun j => ∀ X1, Wd X1 σ Zz → P 1 (fo (dV3 (zG σ) n) h j) (Int32.ofNat j) X1) (fun X1 w1 => hP _ _ _ _ ?_) (fun j hj ih X1 w1 => hP _ _ _ _ ?_)) X w
  · simp only [lt5t, hty_sI, hln_sI, hR_sI, cnd1, cnd2, b2i_0, b2i_1, b2i_z, if_true, if_false, true_and, and_true, true_implies, false_implies, ne_eq, not_false_eq_true, not_true_eq_false, eq_self, exIA, exIS, exAI, exAS, exSI, exSA, true_or, or_true, false_or, or_false, Nat.reduceEqDiff, Bool.true_and, Bool.and_true, Bool.false_and, Bool.and_false, Bool.true_eq_false, Bool.false_eq_true, i10, i20, i30, vp0, nc0]
    exact c_80 w1 i (k X1 w1)
  · simp only [lt5 hj, hty_sI, hln_sI, hR_sI, cnd1, cnd2, b2i_0, b2i_1, b2i_z, if_true, if_false, true_and, and_true, true_implies, false_implies, ne_eq, not_false_eq_true, not_true_eq_false, eq_self, exIA, exIS, exAI, exAS, exSI, exSA, true_or, or_true, false_or, or_false, Nat.reduceEqDiff, Bool.true_and, Bool.and_true, Bool.false_and, Bool.and_false, Bool.true_eq_false, Bool.false_eq_true, i10, i20, i30, vp0, nc0]
    simp only [fo_s] at ih
    exact c_vos w1 i hj ih
theorem c_17 {K : Int64 → XH → Prop} (w : Wd X σ Zz) (i : Inv (zG σ) n) (k : ∀ X1, Wd X1 σ Zz → K (dBu σ (dA σ n (fo (dO (zG σ) n) (fo (dR (zG σ) n) (fo (dV3 (zG σ) n) (fo (dC (zG σ)) h n) 5) 4) 3))) X1) : w_X4_digest_17 1 h 0 X K := by
  have q := w.1
  have hh : TR X 2 (zG σ) := w.2.1.1
  have hn := i.cn
  have hn2 := hn.2
  intro P hP
  refine dwn (n := n) (p := fun j => P 1 (fo (dC (zG σ)) h j) (Int32.ofNat j) X) (hP _ _ _ _ ?_) (fun j hj ih => hP _ _ _ _ ?_)
  · simp only [q.t1, q.r1_0, q.t2, hh.cn hn, ltt (show n < 4096 by omega), hty_sI, hln_sI, hR_sI, cnd1, cnd2, b2i_0, b2i_1, b2i_z, if_true, if_false, true_and, and_true, true_implies, false_implies, ne_eq, not_false_eq_true, not_true_eq_false, eq_self, exIA, exIS, exAI, exAS, exSI, exSA, true_or, or_true, false_or, or_false, Nat.reduceEqDiff, Bool.true_and, Bool.and_true, Bool.false_and, Bool.and_false, Bool.true_eq_false, Bool.false_eq_true, i10, i20, i30, vp0, nc0]
    exact c_43 w i k
  · simp only [q.t1, q.r1_0, q.t2, hh.cn hn, ltl hj (show n < 4096 by omega), hty_sI, hln_sI, hR_sI, cnd1, cnd2, b2i_0, b2i_1, b2i_z, if_true, if_false, true_and, and_true, true_implies, false_implies, ne_eq, not_false_eq_true, not_true_eq_false, eq_self, exIA, exIS, exAI, exAS, exSI, exSA, true_or, or_true, false_or, or_false, Nat.reduceEqDiff, Bool.true_and, Bool.and_true, Bool.false_and, Bool.and_false, Bool.true_eq_false, Bool.false_eq_true, i10, i20, i30, vp0, nc0]
    refine c_cl w i hj ?_
    simp only [of_s]
    exact ih
theorem c_dg {K : Int64 → XH → Prop} (w : Wd X σ Zz) (i : Inv (zG σ) n) (k : ∀ X1, Wd X1 σ Zz → K (dgst σ n) X1) : w_X4_digest 1 X K := by
  have q := w.1
  have hh : TR X 2 (zG σ) := w.2.1.1
  simp only [w_X4_digest, q.t1, q.r1_0, q.t2, hh.cn i.cn, e_ch, hty_sI, hln_sI, hR_sI, cnd1, cnd2, b2i_0, b2i_1, b2i_z, if_true, if_false, true_and, and_true, true_implies, false_implies, ne_eq, not_false_eq_true, not_true_eq_false, eq_self, exIA, exIS, exAI, exAS, exSI, exSA, true_or, or_true, false_or, or_false, Nat.reduceEqDiff, Bool.true_and, Bool.and_true, Bool.false_and, Bool.and_false, Bool.true_eq_false, Bool.false_eq_true, i10, i20, i30, vp0, nc0]
  exact c_17 w i k
end PS
