/-! the loops over clauses, states, reels, tongues -/
section PE
def sumTo (f : Nat → Int32) : Nat → Int32
  | 0 => 0
  | i + 1 => sumTo f i + f i
def anyTo (p : Nat → Bool) : Nat → Bool
  | 0 => false
  | i + 1 => anyTo p i || p i
def bi (b : Bool) (v : Int32) : Int32 := if b = true then v else 0
theorem bi_t {v : Int32} : bi true v = v := rfl
theorem bi_f {v : Int32} : bi false v = 0 := rfl
theorem dwn {n : Nat} {p : Nat → Prop} (h0 : p n) (hs : ∀ i, i < n → p (i + 1) → p i) : p 0 := by
  have : ∀ d, d ≤ n → p (n - d) := by
    intro d
    induction d with
    | zero => intro _; exact h0
    | succ d ih =>
      intro hd
      have h1 := ih (by omega)
      refine hs (n - (d + 1)) (by omega) ?_
      rw [show n - (d + 1) + 1 = n - d by omega]
      exact h1
  have h := this n (Nat.le_refl n)
  rwa [Nat.sub_self] at h
theorem anyTo_in {p : Nat → Bool} {i n : Nat} (hi : i < n) (h : p i = true) : anyTo p n = true := by
  induction n with
  | zero => omega
  | succ n ih =>
    unfold anyTo
    rcases Nat.lt_or_ge i n with h1 | h1
    · rw [ih h1]; rfl
    · rw [show n = i by omega, h, Bool.or_true]
theorem le_f {n i : Nat} (h : i < n) : (n ≤ i) = False := eq_false (by omega)
theorem le_t (n : Nat) : (n ≤ n) = True := eq_true (Nat.le_refl n)
/-- how many clauses -/
def Cn (g : Row) (n : Nat) : Prop := g 366 = Int32.ofNat n ∧ n ≤ 24
theorem TR.cn {X : XH} {g : Row} {n : Nat} (h : TR X 2 g) (hn : Cn g n) : hI X 2 0 = Int32.ofNat n := h.n.trans hn.1
theorem lf {n i : Nat} (hi : i < n) (hn : n ≤ 24) : (Int32.ofNat n ≤ Int32.ofNat i) = False := by rw [of_le (by omega) (by omega)]; exact le_f hi
theorem lt_ {n : Nat} (hn : n ≤ 24) : (Int32.ofNat n ≤ Int32.ofNat n) = True := by rw [of_le (by omega) (by omega)]; exact le_t n
def pHd (g : Row) (n : Nat) (a b : Int32) : Bool := anyTo (fun c => decide (gR g c = b) && decide (gS g c = a)) n
def sAnnex (g : Row) (n t : Nat) : Int32 := sumTo (fun c => gAn g c t) n
def sMany (g : Row) (n : Nat) (a : Int32) : Int32 := sumTo (fun c => bi (decide (gR g c = a)) 1) n
def sLong (g : Row) (n : Nat) (a : Int32) : Int32 := sumTo (fun c => bi (decide (gR g c = a)) (gL g c)) n
def sSpoken (g : Row) (n : Nat) (a : Int32) : Int32 := sumTo (fun c => bi (decide (gS g c = a)) (gL g c)) n
def sTaken (g : Row) (n t : Nat) : Int32 := sumTo (fun c => bi (pTk g c t) 1) n
def sReady (g : Row) (n t : Nat) : Int32 := sumTo (fun c => bi (pRd g c t) (gB g c t)) n
def sMis (g : Row) (n t : Nat) : Int32 := sumTo (fun c => bi (pHas g c t && !(pFit g c t)) 1) n
def sVoiced (g : Row) (n : Nat) (a : Int32) (t : Nat) : Int32 := sumTo (fun c => bi (decide (gS g c = a) && pTk g c t) (gB g c t)) n
def sRdV (g : Row) (n : Nat) (a : Int32) (t : Nat) : Int32 := sumTo (fun c => bi (decide (gS g c = a) && pRd g c t) (gB g c t)) n
def sSil (g : Row) (n : Nat) (a : Int32) (t : Nat) : Int32 := sumTo (fun c => bi (decide (gR g c = a)) (gRm g c t)) n
def sRdAll (g : Row) (n t : Nat) : Int32 := sumTo (fun s => sRdV g n (Int32.ofNat s) t) 5
def sMiss (g : Row) (n r t : Nat) : Int32 := sumTo (fun s => bi (pHd g n (Int32.ofNat s) (Int32.ofNat r) && !(pSg g s r t)) 1) 5
def sSigs (g : Row) (r t : Nat) : Int32 := sumTo (fun s => bi (pSg g s r t) 1) 5
def pWh (g : Row) (n : Nat) (a : Int32) (t : Nat) : Bool := !(anyTo (fun c => decide (gR g c = a) && !(pTk g c t)) n) && !(decide (sMany g n a ≤ 0))
def pRat (g : Row) (n t : Nat) : Bool := !(anyTo (fun r => !(decide (sMany g n (Int32.ofNat r) ≤ 0)) && !(pMx g r t && decide (sMiss g n r t = 0))) 4) && !(decide (g 366 ≤ 0))
def sH (g : Row) (n t : Nat) : Int32 := sumTo (fun c => bi (pHas g c t) (gP g c t)) n
def sC (g : Row) (n t : Nat) : Int32 := sumTo (fun c => bi (pHas g c t) 1) n
def gMean (g : Row) (n t : Nat) : UInt64 := if sC g n t ≤ 0 then FP.dconst0 else FP.ddiv (FP.i2d (sH g n t)) (FP.i2d (sC g n t))
/-- the next clause -/
def nxTo (g : Row) (t : Nat) : Nat → Option Nat
  | 0 => none
  | i + 1 => match nxTo g t i with
    | none => if gRs g i t = 0 then some i else none
    | some j => if gRs g i t = 0 then (if gB g i t ≤ gB g j t then some j else some i) else some j
def encO (x : Option Nat) : Int32 := match x with
  | none => -1
  | some j => Int32.ofNat j
theorem nxTo_lt {g : Row} {t : Nat} : ∀ {i j : Nat}, nxTo g t i = some j → j < i
  | 0, _, h => by simp [nxTo] at h
  | i + 1, j, h => by
    unfold nxTo at h
    cases e : nxTo g t i with
    | none =>
      rw [e] at h
      simp only at h
      split at h
      · cases h; omega
      · cases h
    | some k =>
      have hk := nxTo_lt e
      rw [e] at h
      simp only at h
      split at h
      · split at h
        · cases h; omega
        · cases h; omega
      · cases h; omega
def bsTo (f : Nat → Int32) : Nat → Nat
  | 0 => 0
  | i + 1 => if f (i + 1) ≤ f (bsTo f i) then bsTo f i else i + 1
theorem bsTo_le (f : Nat → Int32) : ∀ i, bsTo f i ≤ i
  | 0 => Nat.le_refl 0
  | i + 1 => by
    have := bsTo_le f i
    unfold bsTo
    split <;> omega
end PE
section PE1
theorem l_annexTotal {X : XH} {g : Row} {n : Nat} {t : Nat} {K : Int32 → XH → Prop} (q : Shp X) (h : TR X 2 g) (hn : Cn g n) (ht : t < 3)  (k : K (sAnnex g n t) X) : w_X3_annexTotal_4 2 (Int32.ofNat t) 0 0 X K := by
  intro P hP
  refine dwn (n := n) (p := fun i => P 2 (Int32.ofNat t) (sumTo (fun c => gAn g c t) i) (Int32.ofNat i) X) (hP _ _ _ _ _ ?_) (fun i hi ih => hP _ _ _ _ _ ?_)
  · clear hP
    simp only [q.t2, h.cn hn, lt_ hn.2, if_true, w_X3_place, cnd1, cnd2, b2i_0, b2i_1, ne_eq, not_false_eq_true, true_and, and_true, eq_self, Nat.reduceEqDiff, Bool.not_eq_false, Bool.not_eq_true]
    exact k
  · clear hP
    have hc : i < 24 := Nat.lt_of_lt_of_le hi hn.2
    simp only [sumTo, ← of_s] at ih
    simp only [q.t2, h.cn hn, lf hi hn.2, if_false, e_annexedAt q h hc ht, w_X3_place, cnd1, cnd2, b2i_0, b2i_1, ne_eq, not_false_eq_true, true_and, and_true, eq_self, Nat.reduceEqDiff, Bool.not_eq_false, Bool.not_eq_true]
    exact ⟨fun h => h.elim, fun _ => ih⟩
theorem s_annexTotal {X : XH} {g : Row} {n : Nat} {t : Nat} {K : Int32 → XH → Prop} (q : Shp X) (h : TR X 2 g) (hn : Cn g n) (ht : t < 3)  (k : K (sAnnex g n t) X) : w_X3_annexTotal 2 (Int32.ofNat t) X K := l_annexTotal q h hn ht k
theorem l_clausesOn {X : XH} {g : Row} {n : Nat} {a : Int32} {K : Int32 → XH → Prop} (q : Shp X) (h : TR X 2 g) (hn : Cn g n)  (k : K (sMany g n a) X) : w_X3_clausesOn_4 2 a 0 0 X K := by
  intro P hP
  refine dwn (n := n) (p := fun i => P 2 a (sumTo (fun c => bi (decide (gR g c = a)) 1) i) (Int32.ofNat i) X) (hP _ _ _ _ _ ?_) (fun i hi ih => hP _ _ _ _ _ ?_)
  · clear hP
    simp only [q.t2, h.cn hn, lt_ hn.2, if_true, w_X3_place, cnd1, cnd2, b2i_0, b2i_1, ne_eq, not_false_eq_true, true_and, and_true, eq_self, Nat.reduceEqDiff, Bool.not_eq_false, Bool.not_eq_true]
    exact k
  · clear hP
    have hc : i < 24 := Nat.lt_of_lt_of_le hi hn.2
    simp only [sumTo, ← of_s] at ih
    simp only [q.t2, h.cn hn, lf hi hn.2, if_false, e_reelAt q h hc, w_X3_place, cnd1, cnd2, b2i_0, b2i_1, ne_eq, not_false_eq_true, true_and, and_true, eq_self, Nat.reduceEqDiff, Bool.not_eq_false, Bool.not_eq_true]
    by_cases h0 : gR g i = a <;> simp_all [bi]
theorem s_clausesOn {X : XH} {g : Row} {n : Nat} {a : Int32} {K : Int32 → XH → Prop} (q : Shp X) (h : TR X 2 g) (hn : Cn g n)  (k : K (sMany g n a) X) : w_X3_clausesOn 2 a X K := l_clausesOn q h hn k
theorem l_lipsOn {X : XH} {g : Row} {n : Nat} {a : Int32} {K : Int32 → XH → Prop} (q : Shp X) (h : TR X 2 g) (hn : Cn g n)  (k : K (sLong g n a) X) : w_X3_lipsOn_4 2 a 0 0 X K := by
  intro P hP
  refine dwn (n := n) (p := fun i => P 2 a (sumTo (fun c => bi (decide (gR g c = a)) (gL g c)) i) (Int32.ofNat i) X) (hP _ _ _ _ _ ?_) (fun i hi ih => hP _ _ _ _ _ ?_)
  · clear hP
    simp only [q.t2, h.cn hn, lt_ hn.2, if_true, w_X3_place, cnd1, cnd2, b2i_0, b2i_1, ne_eq, not_false_eq_true, true_and, and_true, eq_self, Nat.reduceEqDiff, Bool.not_eq_false, Bool.not_eq_true]
    exact k
  · clear hP
    have hc : i < 24 := Nat.lt_of_lt_of_le hi hn.2
    simp only [sumTo, ← of_s] at ih
    simp only [q.t2, h.cn hn, lf hi hn.2, if_false, e_reelAt q h hc, e_lipsAt q h hc, w_X3_place, cnd1, cnd2, b2i_0, b2i_1, ne_eq, not_false_eq_true, true_and, and_true, eq_self, Nat.reduceEqDiff, Bool.not_eq_false, Bool.not_eq_true]
    by_cases h0 : gR g i = a <;> simp_all [bi]
theorem s_lipsOn {X : XH} {g : Row} {n : Nat} {a : Int32} {K : Int32 → XH → Prop} (q : Shp X) (h : TR X 2 g) (hn : Cn g n)  (k : K (sLong g n a) X) : w_X3_lipsOn 2 a X K := l_lipsOn q h hn k
theorem l_lipsBy {X : XH} {g : Row} {n : Nat} {a : Int32} {K : Int32 → XH → Prop} (q : Shp X) (h : TR X 2 g) (hn : Cn g n)  (k : K (sSpoken g n a) X) : w_X3_lipsBy_4 2 a 0 0 X K := by
  intro P hP
  refine dwn (n := n) (p := fun i => P 2 a (sumTo (fun c => bi (decide (gS g c = a)) (gL g c)) i) (Int32.ofNat i) X) (hP _ _ _ _ _ ?_) (fun i hi ih => hP _ _ _ _ _ ?_)
  · clear hP
    simp only [q.t2, h.cn hn, lt_ hn.2, if_true, w_X3_place, cnd1, cnd2, b2i_0, b2i_1, ne_eq, not_false_eq_true, true_and, and_true, eq_self, Nat.reduceEqDiff, Bool.not_eq_false, Bool.not_eq_true]
    exact k
  · clear hP
    have hc : i < 24 := Nat.lt_of_lt_of_le hi hn.2
    simp only [sumTo, ← of_s] at ih
    simp only [q.t2, h.cn hn, lf hi hn.2, if_false, e_speakerAt q h hc, e_lipsAt q h hc, w_X3_place, cnd1, cnd2, b2i_0, b2i_1, ne_eq, not_false_eq_true, true_and, and_true, eq_self, Nat.reduceEqDiff, Bool.not_eq_false, Bool.not_eq_true]
    by_cases h0 : gS g i = a <;> simp_all [bi]
theorem s_lipsBy {X : XH} {g : Row} {n : Nat} {a : Int32} {K : Int32 → XH → Prop} (q : Shp X) (h : TR X 2 g) (hn : Cn g n)  (k : K (sSpoken g n a) X) : w_X3_lipsBy 2 a X K := l_lipsBy q h hn k
theorem l_takenTotal {X : XH} {g : Row} {n : Nat} {t : Nat} {K : Int32 → XH → Prop} (q : Shp X) (h : TR X 2 g) (hn : Cn g n) (ht : t < 3)  (k : K (sTaken g n t) X) : w_X3_takenTotal_4 2 (Int32.ofNat t) 0 0 X K := by
  intro P hP
  refine dwn (n := n) (p := fun i => P 2 (Int32.ofNat t) (sumTo (fun c => bi (pTk g c t) 1) i) (Int32.ofNat i) X) (hP _ _ _ _ _ ?_) (fun i hi ih => hP _ _ _ _ _ ?_)
  · clear hP
    simp only [q.t2, h.cn hn, lt_ hn.2, if_true, w_X3_place, cnd1, cnd2, b2i_0, b2i_1, ne_eq, not_false_eq_true, true_and, and_true, eq_self, Nat.reduceEqDiff, Bool.not_eq_false, Bool.not_eq_true]
    exact k
  · clear hP
    have hc : i < 24 := Nat.lt_of_lt_of_le hi hn.2
    simp only [sumTo, ← of_s] at ih
    simp only [q.t2, h.cn hn, lf hi hn.2, if_false, e_isTaken q h hc ht, w_X3_place, cnd1, cnd2, b2i_0, b2i_1, ne_eq, not_false_eq_true, true_and, and_true, eq_self, Nat.reduceEqDiff, Bool.not_eq_false, Bool.not_eq_true]
    cases h0 : pTk g i t <;> simp_all [bi]
theorem s_takenTotal {X : XH} {g : Row} {n : Nat} {t : Nat} {K : Int32 → XH → Prop} (q : Shp X) (h : TR X 2 g) (hn : Cn g n) (ht : t < 3)  (k : K (sTaken g n t) X) : w_X3_takenTotal 2 (Int32.ofNat t) X K := l_takenTotal q h hn ht k
theorem l_readyTotal {X : XH} {g : Row} {n : Nat} {t : Nat} {K : Int32 → XH → Prop} (q : Shp X) (h : TR X 2 g) (hn : Cn g n) (ht : t < 3)  (k : K (sReady g n t) X) : w_X3_readyTotal_4 2 (Int32.ofNat t) 0 0 X K := by
  intro P hP
  refine dwn (n := n) (p := fun i => P 2 (Int32.ofNat t) (sumTo (fun c => bi (pRd g c t) (gB g c t)) i) (Int32.ofNat i) X) (hP _ _ _ _ _ ?_) (fun i hi ih => hP _ _ _ _ _ ?_)
  · clear hP
    simp only [q.t2, h.cn hn, lt_ hn.2, if_true, w_X3_place, cnd1, cnd2, b2i_0, b2i_1, ne_eq, not_false_eq_true, true_and, and_true, eq_self, Nat.reduceEqDiff, Bool.not_eq_false, Bool.not_eq_true]
    exact k
  · clear hP
    have hc : i < 24 := Nat.lt_of_lt_of_le hi hn.2
    simp only [sumTo, ← of_s] at ih
    simp only [q.t2, h.cn hn, lf hi hn.2, if_false, e_isReady q h hc ht, e_spokenAt q h hc ht, w_X3_place, cnd1, cnd2, b2i_0, b2i_1, ne_eq, not_false_eq_true, true_and, and_true, eq_self, Nat.reduceEqDiff, Bool.not_eq_false, Bool.not_eq_true]
    cases h0 : pRd g i t <;> simp_all [bi]
theorem s_readyTotal {X : XH} {g : Row} {n : Nat} {t : Nat} {K : Int32 → XH → Prop} (q : Shp X) (h : TR X 2 g) (hn : Cn g n) (ht : t < 3)  (k : K (sReady g n t) X) : w_X3_readyTotal 2 (Int32.ofNat t) X K := l_readyTotal q h hn ht k
theorem l_misfitTotal {X : XH} {g : Row} {n : Nat} {t : Nat} {K : Int32 → XH → Prop} (q : Shp X) (h : TR X 2 g) (hn : Cn g n) (ht : t < 3)  (k : K (sMis g n t) X) : w_X3_misfitTotal_4 2 (Int32.ofNat t) 0 0 X K := by
  intro P hP
  refine dwn (n := n) (p := fun i => P 2 (Int32.ofNat t) (sumTo (fun c => bi (pHas g c t && !(pFit g c t)) 1) i) (Int32.ofNat i) X) (hP _ _ _ _ _ ?_) (fun i hi ih => hP _ _ _ _ _ ?_)
  · clear hP
    simp only [q.t2, h.cn hn, lt_ hn.2, if_true, w_X3_place, cnd1, cnd2, b2i_0, b2i_1, ne_eq, not_false_eq_true, true_and, and_true, eq_self, Nat.reduceEqDiff, Bool.not_eq_false, Bool.not_eq_true]
    exact k
  · clear hP
    have hc : i < 24 := Nat.lt_of_lt_of_le hi hn.2
    simp only [sumTo, ← of_s] at ih
    simp only [q.t2, h.cn hn, lf hi hn.2, if_false, e_hasTranslation q h hc ht, e_hasFit q h hc ht, w_X3_place, cnd1, cnd2, b2i_0, b2i_1, ne_eq, not_false_eq_true, true_and, and_true, eq_self, Nat.reduceEqDiff, Bool.not_eq_false, Bool.not_eq_true]
    cases h0 : pHas g i t <;> cases h1 : pFit g i t <;> simp_all [bi]
theorem s_misfitTotal {X : XH} {g : Row} {n : Nat} {t : Nat} {K : Int32 → XH → Prop} (q : Shp X) (h : TR X 2 g) (hn : Cn g n) (ht : t < 3)  (k : K (sMis g n t) X) : w_X3_misfitTotal 2 (Int32.ofNat t) X K := l_misfitTotal q h hn ht k
theorem l_takenFramesOf {X : XH} {g : Row} {n : Nat} {a : Int32} {t : Nat} {K : Int32 → XH → Prop} (q : Shp X) (h : TR X 2 g) (hn : Cn g n) (ht : t < 3)  (k : K (sVoiced g n a t) X) : w_X3_takenFramesOf_5 2 a (Int32.ofNat t) 0 0 X K := by
  intro P hP
  refine dwn (n := n) (p := fun i => P 2 a (Int32.ofNat t) (sumTo (fun c => bi (decide (gS g c = a) && pTk g c t) (gB g c t)) i) (Int32.ofNat i) X) (hP _ _ _ _ _ _ ?_) (fun i hi ih => hP _ _ _ _ _ _ ?_)
  · clear hP
    simp only [q.t2, h.cn hn, lt_ hn.2, if_true, w_X3_place, cnd1, cnd2, b2i_0, b2i_1, ne_eq, not_false_eq_true, true_and, and_true, eq_self, Nat.reduceEqDiff, Bool.not_eq_false, Bool.not_eq_true]
    exact k
  · clear hP
    have hc : i < 24 := Nat.lt_of_lt_of_le hi hn.2
    simp only [sumTo, ← of_s] at ih
    simp only [q.t2, h.cn hn, lf hi hn.2, if_false, e_speakerAt q h hc, e_isTaken q h hc ht, e_spokenAt q h hc ht, w_X3_place, cnd1, cnd2, b2i_0, b2i_1, ne_eq, not_false_eq_true, true_and, and_true, eq_self, Nat.reduceEqDiff, Bool.not_eq_false, Bool.not_eq_true]
    by_cases h1 : gS g i = a <;> cases h0 : pTk g i t <;> simp_all [bi]
theorem s_takenFramesOf {X : XH} {g : Row} {n : Nat} {a : Int32} {t : Nat} {K : Int32 → XH → Prop} (q : Shp X) (h : TR X 2 g) (hn : Cn g n) (ht : t < 3)  (k : K (sVoiced g n a t) X) : w_X3_takenFramesOf 2 a (Int32.ofNat t) X K := l_takenFramesOf q h hn ht k
theorem l_readyOfVoice {X : XH} {g : Row} {n : Nat} {a : Int32} {t : Nat} {K : Int32 → XH → Prop} (q : Shp X) (h : TR X 2 g) (hn : Cn g n) (ht : t < 3)  (k : K (sRdV g n a t) X) : w_X3_readyOfVoice_5 2 a (Int32.ofNat t) 0 0 X K := by
  intro P hP
  refine dwn (n := n) (p := fun i => P 2 a (Int32.ofNat t) (sumTo (fun c => bi (decide (gS g c = a) && pRd g c t) (gB g c t)) i) (Int32.ofNat i) X) (hP _ _ _ _ _ _ ?_) (fun i hi ih => hP _ _ _ _ _ _ ?_)
  · clear hP
    simp only [q.t2, h.cn hn, lt_ hn.2, if_true, w_X3_place, cnd1, cnd2, b2i_0, b2i_1, ne_eq, not_false_eq_true, true_and, and_true, eq_self, Nat.reduceEqDiff, Bool.not_eq_false, Bool.not_eq_true]
    exact k
  · clear hP
    have hc : i < 24 := Nat.lt_of_lt_of_le hi hn.2
    simp only [sumTo, ← of_s] at ih
    simp only [q.t2, h.cn hn, lf hi hn.2, if_false, e_speakerAt q h hc, e_isReady q h hc ht, e_spokenAt q h hc ht, w_X3_place, cnd1, cnd2, b2i_0, b2i_1, ne_eq, not_false_eq_true, true_and, and_true, eq_self, Nat.reduceEqDiff, Bool.not_eq_false, Bool.not_eq_true]
    by_cases h1 : gS g i = a <;> cases h0 : pRd g i t <;> simp_all [bi]
theorem s_readyOfVoice {X : XH} {g : Row} {n : Nat} {a : Int32} {t : Nat} {K : Int32 → XH → Prop} (q : Shp X) (h : TR X 2 g) (hn : Cn g n) (ht : t < 3)  (k : K (sRdV g n a t) X) : w_X3_readyOfVoice 2 a (Int32.ofNat t) X K := l_readyOfVoice q h hn ht k
theorem l_silenceIn {X : XH} {g : Row} {n : Nat} {a : Int32} {t : Nat} {K : Int32 → XH → Prop} (q : Shp X) (h : TR X 2 g) (hn : Cn g n) (ht : t < 3)  (k : K (sSil g n a t) X) : w_X3_silenceIn_5 2 a (Int32.ofNat t) 0 0 X K := by
  intro P hP
  refine dwn (n := n) (p := fun i => P 2 a (Int32.ofNat t) (sumTo (fun c => bi (decide (gR g c = a)) (gRm g c t)) i) (Int32.ofNat i) X) (hP _ _ _ _ _ _ ?_) (fun i hi ih => hP _ _ _ _ _ _ ?_)
  · clear hP
    simp only [q.t2, h.cn hn, lt_ hn.2, if_true, w_X3_place, cnd1, cnd2, b2i_0, b2i_1, ne_eq, not_false_eq_true, true_and, and_true, eq_self, Nat.reduceEqDiff, Bool.not_eq_false, Bool.not_eq_true]
    exact k
  · clear hP
    have hc : i < 24 := Nat.lt_of_lt_of_le hi hn.2
    simp only [sumTo, ← of_s] at ih
    simp only [q.t2, h.cn hn, lf hi hn.2, if_false, e_reelAt q h hc, e_roomAt q h hc ht, w_X3_place, cnd1, cnd2, b2i_0, b2i_1, ne_eq, not_false_eq_true, true_and, and_true, eq_self, Nat.reduceEqDiff, Bool.not_eq_false, Bool.not_eq_true]
    by_cases h1 : gR g i = a <;> simp_all [bi]
theorem s_silenceIn {X : XH} {g : Row} {n : Nat} {a : Int32} {t : Nat} {K : Int32 → XH → Prop} (q : Shp X) (h : TR X 2 g) (hn : Cn g n) (ht : t < 3)  (k : K (sSil g n a t) X) : w_X3_silenceIn 2 a (Int32.ofNat t) X K := l_silenceIn q h hn ht k
end PE1
section PE2
end PE2
