/-! the other loops over clauses, states, reels, tongues -/
section PF
theorem i10 : ((1 : Int32) = 0) = False := by decide
theorem ltl {k i : Nat} (hi : i < k) (hk : k < 4096) : (Int32.ofNat k ≤ Int32.ofNat i) = False := by rw [of_le hk (by omega)]; exact le_f hi
theorem ltt {k : Nat} (hk : k < 4096) : (Int32.ofNat k ≤ Int32.ofNat k) = True := by rw [of_le hk hk]; exact le_t k
theorem le5 {i : Nat} (hi : i < 5) : ((5 : Int32) ≤ Int32.ofNat i) = False := ltl hi (by decide)
theorem le5t : ((5 : Int32) ≤ Int32.ofNat 5) = True := ltt (by decide)
theorem le4 {i : Nat} (hi : i < 4) : ((4 : Int32) ≤ Int32.ofNat i) = False := ltl hi (by decide)
theorem le4t : ((4 : Int32) ≤ Int32.ofNat 4) = True := ltt (by decide)
theorem le3 {i : Nat} (hi : i < 3) : ((3 : Int32) ≤ Int32.ofNat i) = False := ltl hi (by decide)
theorem le3t : ((3 : Int32) ≤ Int32.ofNat 3) = True := ltt (by decide)
variable {X : XH} {g : Row} {n : Nat}
theorem s_isHeardIn {a b : Int32} {K : Int32 → XH → Prop} (q : Shp X) (h : TR X 2 g) (hn : Cn g n) (k : K (b2i (pHd g n a b)) X) : w_X3_isHeardIn 2 a b X K := by
  intro P hP
  unfold pHd at k
  refine dwn (n := n) (p := fun i => anyTo (fun c => decide (gR g c = b) && decide (gS g c = a)) i = false → P 2 a b (Int32.ofNat i) X) (fun ha => hP _ _ _ _ _ ?_) (fun i hi ih ha => hP _ _ _ _ _ ?_) rfl
  · clear hP
    simp only [q.t2, h.cn hn, lt_ hn.2, if_true, w_X3_place, cnd1, cnd2, b2i_0, b2i_1, ne_eq, not_false_eq_true, true_and, and_true, eq_self, Nat.reduceEqDiff, Bool.not_eq_false, Bool.not_eq_true, i10, false_implies, true_implies, not_true_eq_false]
    rw [ha] at k
    exact k
  · clear hP
    have hc : i < 24 := Nat.lt_of_lt_of_le hi hn.2
    have ih' : (decide (gR g i = b) && decide (gS g i = a)) = false → P 2 a b (Int32.ofNat i + 1) X := fun hp => by rw [of_s]; exact ih (by simp only [anyTo, ha, hp, Bool.or_self])
    simp only [q.t2, h.cn hn, lf hi hn.2, if_false, e_reelAt q h hc, e_speakerAt q h hc, w_X3_place, cnd1, cnd2, b2i_0, b2i_1, ne_eq, not_false_eq_true, true_and, and_true, eq_self, Nat.reduceEqDiff, Bool.not_eq_false, Bool.not_eq_true, i10, false_implies, true_implies, not_true_eq_false]
    by_cases h1 : gR g i = b
    · by_cases h2 : gS g i = a
      · have h3 := anyTo_in (p := fun c => decide (gR g c = b) && decide (gS g c = a)) hi (by simp [h1, h2])
        rw [h3] at k
        simp only [h1, h2, if_true]
        simpa [b2i] using k
      · simp only [h1, h2, if_true, if_false]
        simpa using ih' (by simp [h2])
    · simp only [h1, if_false]
      simpa using ih' (by simp [h1])
theorem s_signaturesMissing {r t : Nat} {K : Int32 → XH → Prop} (q : Shp X) (h : TR X 2 g) (hn : Cn g n) (hr : r < 4) (ht : t < 3) (k : K (sMiss g n r t) X) : w_X3_signaturesMissing 2 (Int32.ofNat r) (Int32.ofNat t) X K := by
  intro P hP
  refine dwn (n := 5) (p := fun i => P 2 (Int32.ofNat r) (Int32.ofNat t) (sumTo (fun s => bi (pHd g n (Int32.ofNat s) (Int32.ofNat r) && !(pSg g s r t)) 1) i) (Int32.ofNat i) X) (hP _ _ _ _ _ _ ?_) (fun i hi ih => hP _ _ _ _ _ _ ?_)
  · clear hP
    exact ⟨fun _ => k, fun hne => absurd le5t (by simpa using hne)⟩
  · clear hP
    simp only [sumTo, ← of_s] at ih
    refine ⟨fun he => absurd he (by rw [le5 hi]; exact not_false), fun _ => ⟨q.t2, s_isHeardIn q h hn ?_⟩⟩
    simp only [q.t2, e_hasSignature q h hi hr ht, w_X3_place, cnd1, cnd2, b2i_0, b2i_1, ne_eq, not_false_eq_true, true_and, and_true, eq_self, Nat.reduceEqDiff, Bool.not_eq_false, Bool.not_eq_true, i10, false_implies, true_implies, not_true_eq_false]
    cases h0 : pHd g n (Int32.ofNat i) (Int32.ofNat r) <;> cases h1 : pSg g i r t <;> simp_all [bi]
theorem s_readyOfAllVoices {t : Nat} {K : Int32 → XH → Prop} (q : Shp X) (h : TR X 2 g) (hn : Cn g n) (ht : t < 3) (k : K (sRdAll g n t) X) : w_X3_readyOfAllVoices 2 (Int32.ofNat t) X K := by
  intro P hP
  refine dwn (n := 5) (p := fun i => P 2 (Int32.ofNat t) (sumTo (fun s => sRdV g n (Int32.ofNat s) t) i) (Int32.ofNat i) X) (hP _ _ _ _ _ ?_) (fun i hi ih => hP _ _ _ _ _ ?_)
  · clear hP
    exact ⟨fun _ => k, fun hne => absurd le5t (by simpa using hne)⟩
  · clear hP
    simp only [sumTo, ← of_s] at ih
    exact ⟨fun he => absurd he (by rw [le5 hi]; exact not_false), fun _ => ⟨q.t2, s_readyOfVoice q h hn ht ih⟩⟩
theorem s_isRecordedAnywhere {c : Nat} {K : Int32 → XH → Prop} (q : Shp X) (h : TR X 2 g) (hc : c < 24) (k : K (b2i (pTA g c)) X) : w_X3_isRecordedAnywhere 2 (Int32.ofNat c) X K := by
  intro P hP
  have e : pTA g c = anyTo (fun t => pTk g c t) 3 := by
    unfold pTA
    simp only [anyTo]
    cases pTk g c 0 <;> cases pTk g c 1 <;> cases pTk g c 2 <;> rfl
  rw [e] at k
  refine dwn (n := 3) (p := fun i => anyTo (fun t => pTk g c t) i = false → P 2 (Int32.ofNat c) (Int32.ofNat i) X) (fun ha => hP _ _ _ _ ?_) (fun i hi ih ha => hP _ _ _ _ ?_) rfl
  · clear hP
    rw [ha] at k
    exact ⟨fun _ => k, fun hne => absurd le3t (by simpa using hne)⟩
  · clear hP
    refine ⟨fun he => absurd he (by rw [le3 hi]; exact not_false), fun _ => ⟨q.t2, ?_⟩⟩
    have ih' : pTk g c i = false → P 2 (Int32.ofNat c) (Int32.ofNat i + 1) X := fun hp => by rw [of_s]; exact ih (by simp only [anyTo, ha, hp, Bool.or_self])
    simp only [e_isTaken q h hc hi, w_X3_place, cnd1, cnd2, b2i_0, b2i_1, ne_eq, not_false_eq_true, true_and, and_true, eq_self, Nat.reduceEqDiff, Bool.not_eq_false, Bool.not_eq_true, i10, false_implies, true_implies, not_true_eq_false]
    cases h1 : pTk g c i
    · simpa using ih' h1
    · have h3 := anyTo_in (p := fun t => pTk g c t) hi h1
      rw [h3] at k
      simpa [b2i] using k
theorem s_isWholeReel {a : Int32} {t : Nat} {K : Int32 → XH → Prop} (q : Shp X) (h : TR X 2 g) (hn : Cn g n) (ht : t < 3) (k : K (b2i (pWh g n a t)) X) : w_X3_isWholeReel 2 a (Int32.ofNat t) X K := by
  intro P hP
  unfold pWh at k
  refine dwn (n := n) (p := fun i => anyTo (fun c => decide (gR g c = a) && !(pTk g c t)) i = false → P 2 a (Int32.ofNat t) (Int32.ofNat i) X) (fun ha => hP _ _ _ _ _ ?_) (fun i hi ih ha => hP _ _ _ _ _ ?_) rfl
  · clear hP
    rw [ha] at k
    refine ⟨q.t2, fun _ => s_clausesOn q h hn ?_, fun hne => absurd (lt_ hn.2) (by rw [h.cn hn] at hne; simpa using hne)⟩
    simp only [cnd1]
    by_cases h1 : sMany g n a ≤ 0
    · simpa [h1, b2i] using k
    · simpa [h1, b2i] using k
  · clear hP
    have hc : i < 24 := Nat.lt_of_lt_of_le hi hn.2
    have ih' : (decide (gR g i = a) && !(pTk g i t)) = false → P 2 a (Int32.ofNat t) (Int32.ofNat i + 1) X := fun hp => by rw [of_s]; exact ih (by simp only [anyTo, ha, hp, Bool.or_self])
    simp only [q.t2, h.cn hn, lf hi hn.2, if_false, e_reelAt q h hc, e_isTaken q h hc ht, w_X3_place, cnd1, cnd2, b2i_0, b2i_1, ne_eq, not_false_eq_true, true_and, and_true, eq_self, Nat.reduceEqDiff, Bool.not_eq_false, Bool.not_eq_true, i10, false_implies, true_implies, not_true_eq_false]
    by_cases h1 : gR g i = a
    · cases h2 : pTk g i t
      · have h3 := anyTo_in (p := fun c => decide (gR g c = a) && !(pTk g c t)) hi (by simp [h1, h2])
        rw [h3] at k
        simpa [h1, b2i] using k
      · simpa [h1] using ih' (by simp [h2])
    · simpa [h1] using ih' (by simp [h1])
/-- the least of some, from m on -/
def mnTo (f : Nat → Int32) (m : Int32) : Nat → Int32
  | 0 => m
  | i + 1 => if f i < mnTo f m i then f i else mnTo f m i
def gLo (g : Row) (c : Nat) : Int32 := if mnTo (fun t => gL g c - gF g c t) (if gL g c < 20 then gL g c else 20) 3 < 0 then -1 else mnTo (fun t => gL g c - gF g c t) (if gL g c < 20 then gL g c else 20) 3
theorem t20 : (20 : Int32).toInt = 20 := rfl
theorem t0 : (0 : Int32).toInt = 0 := rfl
theorem mn_key (x y : Int32) : (if x < (if y < 20 then y else 20) then x else (if y < 20 then y else 20)) = (if (if x < y then x else y) < 20 then (if x < y then x else y) else 20) := by
  simp only [Int32.lt_iff_toInt_lt, t20]
  by_cases h1 : y.toInt < 20 <;> by_cases h2 : x.toInt < y.toInt <;> by_cases h3 : x.toInt < 20 <;> simp only [h1, h2, h3, t20, if_true, if_false] <;> (exfalso; omega)
theorem mnTo_20 (f : Nat → Int32) (m : Int32) : ∀ i, mnTo f (if m < 20 then m else 20) i = (if mnTo f m i < 20 then mnTo f m i else 20)
  | 0 => rfl
  | i + 1 => by
    simp only [mnTo]
    rw [mnTo_20 f m i]
    exact mn_key _ _
theorem s_longestSighAt {c : Nat} {K : Int32 → XH → Prop} (q : Shp X) (h : TR X 2 g) (hc : c < 24) (k : K (gLo g c) X) : w_X3_longestSighAt 2 (Int32.ofNat c) X K := by
  unfold w_X3_longestSighAt
  simp only [q.t2, e_lipsAt q h hc, true_and]
  intro P hP
  unfold gLo at k
  refine dwn (n := 3) (p := fun i => P 2 (Int32.ofNat c) (mnTo (fun t => gL g c - gF g c t) (if gL g c < 20 then gL g c else 20) i) (Int32.ofNat i) X) (hP _ _ _ _ _ ?_) (fun i hi ih => hP _ _ _ _ _ ?_)
  · clear hP
    refine ⟨fun _ => ?_, fun hne => absurd le3t (by simpa using hne)⟩
    simp only [cnd1]
    by_cases h1 : mnTo (fun t => gL g c - gF g c t) (if gL g c < 20 then gL g c else 20) 3 < 0
    · rw [if_pos h1] at k ⊢
      exact k
    · rw [if_neg h1] at k ⊢
      exact k
  · clear hP
    refine ⟨fun he => absurd he (by rw [le3 hi]; exact not_false), fun _ => ⟨q.t2, ?_⟩⟩
    simp only [mnTo, ← of_s] at ih
    simp only [q.t2, e_lipsAt q h hc, e_framesAt q h hc hi, true_and]
    exact ih
theorem s_longestToTake {t : Nat} {K : Int32 → XH → Prop} (q : Shp X) (h : TR X 2 g) (hn : Cn g n) (hS : ∀ c, c < n → ∃ s, s < 5 ∧ gS g c = Int32.ofNat s) (ht : t < 3) (k : K (encO (nxTo g t n)) X) : w_X3_longestToTake 2 (Int32.ofNat t) X K := by
  intro P hP
  refine dwn (n := n) (p := fun i => P 2 (Int32.ofNat t) (encO (nxTo g t i)) (Int32.ofNat i) X) (hP _ _ _ _ _ ?_) (fun i hi ih => hP _ _ _ _ _ ?_)
  · clear hP
    simp only [q.t2, h.cn hn, lt_ hn.2, if_true, w_X3_place, cnd1, cnd2, b2i_0, b2i_1, ne_eq, not_false_eq_true, true_and, and_true, eq_self, Nat.reduceEqDiff, Bool.not_eq_false, Bool.not_eq_true, i10, false_implies, true_implies, not_true_eq_false]
    exact k
  · clear hP
    have hc : i < 24 := Nat.lt_of_lt_of_le hi hn.2
    simp only [nxTo, ← of_s] at ih
    simp only [q.t2, h.cn hn, lf hi hn.2, if_false, e_reasonAt q h hc ht (hS i hi), e_spokenAt q h hc ht, w_X3_place, cnd1, cnd2, b2i_0, b2i_1, ne_eq, not_false_eq_true, true_and, and_true, eq_self, Nat.reduceEqDiff, Bool.not_eq_false, Bool.not_eq_true, i10, false_implies, true_implies, not_true_eq_false]
    cases e : nxTo g t i with
    | none =>
      rw [e] at ih
      simp only [encO] at ih ⊢
      have h9 : ((-1 : Int32) = -1) = True := eq_true rfl
      by_cases h1 : gRs g i t = 0 <;> simp only [h1, h9, if_true, if_false] at ih ⊢ <;> exact ih
    | some j =>
      have hj : j < 24 := Nat.lt_trans (nxTo_lt e) hc
      have hne : ¬ Int32.ofNat j = -1 := fun he => by
        have := congrArg Int32.toInt he
        rw [Int32.toInt_ofNat_of_lt (by omega)] at this
        rw [show (-1 : Int32).toInt = -1 from rfl] at this
        omega
      rw [e] at ih
      simp only [encO] at ih ⊢
      simp only [e_spokenAt q h hj ht, hne, if_false]
      by_cases h1 : gRs g i t = 0 <;> by_cases h2 : gB g i t ≤ gB g j t <;> simp only [h1, h2, if_true, if_false] at ih ⊢ <;> exact ih
theorem s_mostTakenTongue {K : Int32 → XH → Prop} (q : Shp X) (h : TR X 2 g) (hn : Cn g n) (k : K (Int32.ofNat (bsTo (fun t => sTaken g n t) 2)) X) : w_X3_mostTakenTongue 2 X K := by
  intro P hP
  refine dwn (n := 2) (p := fun i => P 2 (Int32.ofNat (bsTo (fun t => sTaken g n t) i)) (Int32.ofNat (i + 1)) X) (hP _ _ _ _ ?_) (fun i hi ih => hP _ _ _ _ ?_)
  · clear hP
    exact ⟨fun _ => k, fun hne => absurd le3t (by simpa using hne)⟩
  · clear hP
    have hb := bsTo_le (fun t => sTaken g n t) i
    refine ⟨fun he => absurd he (by rw [le3 (by omega)]; exact not_false), fun _ => ⟨q.t2, s_takenTotal q h hn (by omega) ⟨q.t2, s_takenTotal q h hn (by omega) ?_⟩⟩⟩
    simp only [cnd1]
    rw [of_s]
    simp only [bsTo] at ih
    by_cases h1 : sTaken g n (i + 1) ≤ sTaken g n (bsTo (fun t => sTaken g n t) i) <;> simp only [h1, if_true, if_false] at ih ⊢ <;> exact ih
theorem s_mostLipsState {K : Int32 → XH → Prop} (q : Shp X) (h : TR X 2 g) (hn : Cn g n) (k : K (Int32.ofNat (bsTo (fun s => sSpoken g n (Int32.ofNat s)) 4)) X) : w_X3_mostLipsState 2 X K := by
  intro P hP
  refine dwn (n := 4) (p := fun i => P 2 (Int32.ofNat (bsTo (fun s => sSpoken g n (Int32.ofNat s)) i)) (Int32.ofNat (i + 1)) X) (hP _ _ _ _ ?_) (fun i hi ih => hP _ _ _ _ ?_)
  · clear hP
    exact ⟨fun _ => k, fun hne => absurd le5t (by simpa using hne)⟩
  · clear hP
    refine ⟨fun he => absurd he (by rw [le5 (by omega)]; exact not_false), fun _ => ⟨q.t2, s_lipsBy q h hn ⟨q.t2, s_lipsBy q h hn ?_⟩⟩⟩
    simp only [cnd1]
    rw [of_s]
    simp only [bsTo] at ih
    by_cases h1 : sSpoken g n (Int32.ofNat (i + 1)) ≤ sSpoken g n (Int32.ofNat (bsTo (fun s => sSpoken g n (Int32.ofNat s)) i)) <;> simp only [h1, if_true, if_false] at ih ⊢ <;> exact ih
end PF
