/-! the getters: class, told of the row -/
section PD
/-- a boolean as the machine has it -/
def b2i (b : Bool) : Int32 := if b = true then 1 else 0
theorem b2i_0 {b : Bool} : (b2i b = 0) = (b = false) := by cases b <;> simp [b2i]
theorem b2i_1 {b : Bool} : (b2i b = 1) = (b = true) := by cases b <;> simp [b2i]
theorem b2i_z {b : Bool} : (b2i b = 0 ∨ b2i b = 1) = True := by cases b <;> simp [b2i]
theorem b2i_le {b : Bool} : (b2i b ≤ 0) = (b = false) := by cases b <;> simp [b2i]
def pHas (g : Row) (c t : Nat) : Bool := !(decide (gF g c t ≤ 0))
def pTk (g : Row) (c t : Nat) : Bool := !(decide (gT g c t ≤ 0))
def pFit (g : Row) (c t : Nat) : Bool := !(decide (gF g c t ≤ 0)) && !(decide (gL g c < gF g c t + gH g c))
def pRd (g : Row) (c t : Nat) : Bool := pFit g c t && !(pTk g c t)
def pMx (g : Row) (r t : Nat) : Bool := decide (gM g r t = 1)
def pSg (g : Row) (s r t : Nat) : Bool := decide ((gZ g r t >>> (Int32.ofNat s &&& 31)) &&& 1 = 1)
def pTA (g : Row) (c : Nat) : Bool := pTk g c 0 || (pTk g c 1 || pTk g c 2)
def gP (g : Row) (c t : Nat) : Int32 := gB g c t * 100 / gL g c
def gRm (g : Row) (c t : Nat) : Int32 := gL g c - gB g c t
def gSn (g : Row) (s t : Nat) : Int32 := gSt g s t - gU g s t
def gRs (g : Row) (c t : Nat) : Int32 := if pHas g c t = false then 1 else if pTk g c t = true then 2 else if pFit g c t = false then 3 else if gB g c t ≤ gSn g (gS g c).toNatClampNeg t then 0 else 4
def gLA (g : Row) (c t : Nat) : Int32 := if gF g c t - (if 0 < -(gRm g c t) then -(gRm g c t) else 0) < 1 then -1 else (if 0 < -(gRm g c t) then -(gRm g c t) else 0)
def inR (a : Int32) : Bool := !(decide (a < 0)) && decide (a < 4)
def inS (a : Int32) : Bool := !(decide (a < 0)) && decide (a < 5)
def inT (a : Int32) : Bool := !(decide (a < 0)) && decide (a < 3)
def inC (n a : Int32) : Bool := !(decide (a < 0)) && decide (a < n)
def inG (a lo hi : Int32) : Bool := !(decide (a < lo)) && decide (a ≤ hi)
def inQ (a lo hi : Int32) : Bool := !(decide (a < lo)) && !(decide (hi < a))
end PD
section PD2
theorem e_framesAt {X : XH} {g : Row} {c t : Nat} {K : Int32 → XH → Prop} (q : Shp X) (h : TR X 2 g) (hc : c < 24) (ht : t < 3)  : w_X3_framesAt 2 (Int32.ofNat c) (Int32.ofNat t) X K = K (gF g c t) X := by
  simp only [w_X3_framesAt, q.t2, q.r2_5, a_7 q h hc ht, w_X3_place, cnd1, cnd2, b2i_0, b2i_1, b2i_z, ne_eq, not_false_eq_true, true_and, and_true, eq_self, Nat.reduceEqDiff, Bool.not_eq_false]
theorem e_hasTranslation {X : XH} {g : Row} {c t : Nat} {K : Int32 → XH → Prop} (q : Shp X) (h : TR X 2 g) (hc : c < 24) (ht : t < 3)  : w_X3_hasTranslation 2 (Int32.ofNat c) (Int32.ofNat t) X K = K (b2i (pHas g c t)) X := by
  simp only [w_X3_hasTranslation, q.t2, e_framesAt q h hc ht, w_X3_place, cnd1, cnd2, b2i_0, b2i_1, b2i_z, ne_eq, not_false_eq_true, true_and, and_true, eq_self, Nat.reduceEqDiff, Bool.not_eq_false]
  by_cases h0 : gF g c t ≤ 0 <;> simp [h0, b2i, pHas]
theorem e_isTaken {X : XH} {g : Row} {c t : Nat} {K : Int32 → XH → Prop} (q : Shp X) (h : TR X 2 g) (hc : c < 24) (ht : t < 3)  : w_X3_isTaken 2 (Int32.ofNat c) (Int32.ofNat t) X K = K (b2i (pTk g c t)) X := by
  simp only [w_X3_isTaken, q.t2, q.r2_7, a_9 q h hc ht, w_X3_place, cnd1, cnd2, b2i_0, b2i_1, b2i_z, ne_eq, not_false_eq_true, true_and, and_true, eq_self, Nat.reduceEqDiff, Bool.not_eq_false]
  by_cases h0 : gT g c t ≤ 0 <;> simp [h0, b2i, pTk]
theorem e_annexedAt {X : XH} {g : Row} {c t : Nat} {K : Int32 → XH → Prop} (q : Shp X) (h : TR X 2 g) (hc : c < 24) (ht : t < 3)  : w_X3_annexedAt 2 (Int32.ofNat c) (Int32.ofNat t) X K = K (gAn g c t) X := by
  simp only [w_X3_annexedAt, q.t2, q.r2_6, a_8 q h hc ht, w_X3_place, cnd1, cnd2, b2i_0, b2i_1, b2i_z, ne_eq, not_false_eq_true, true_and, and_true, eq_self, Nat.reduceEqDiff, Bool.not_eq_false]
theorem e_takenIn {X : XH} {g : Row} {c t : Nat} {K : Int32 → XH → Prop} (q : Shp X) (h : TR X 2 g) (hc : c < 24) (ht : t < 3)  : w_X3_takenIn 2 (Int32.ofNat c) (Int32.ofNat t) X K = K (gT g c t - 1) X := by
  simp only [w_X3_takenIn, q.t2, q.r2_7, a_9 q h hc ht, w_X3_place, cnd1, cnd2, b2i_0, b2i_1, b2i_z, ne_eq, not_false_eq_true, true_and, and_true, eq_self, Nat.reduceEqDiff, Bool.not_eq_false]
theorem e_usedBy {X : XH} {g : Row} {s t : Nat} {K : Int32 → XH → Prop} (q : Shp X) (h : TR X 2 g) (hs : s < 5) (ht : t < 3)  : w_X3_usedBy 2 (Int32.ofNat s) (Int32.ofNat t) X K = K (gU g s t) X := by
  simp only [w_X3_usedBy, q.t2, q.r2_9, a_11 q h hs ht, w_X3_place, cnd1, cnd2, b2i_0, b2i_1, b2i_z, ne_eq, not_false_eq_true, true_and, and_true, eq_self, Nat.reduceEqDiff, Bool.not_eq_false]
theorem e_staminaAt {X : XH} {g : Row} {s t : Nat} {K : Int32 → XH → Prop} (q : Shp X) (h : TR X 2 g) (hs : s < 5) (ht : t < 3)  : w_X3_staminaAt 2 (Int32.ofNat s) (Int32.ofNat t) X K = K (gSt g s t) X := by
  simp only [w_X3_staminaAt, q.t2, q.r2_8, a_10 q h hs ht, w_X3_place, cnd1, cnd2, b2i_0, b2i_1, b2i_z, ne_eq, not_false_eq_true, true_and, and_true, eq_self, Nat.reduceEqDiff, Bool.not_eq_false]
theorem e_sighAt {X : XH} {g : Row} {c : Nat} {K : Int32 → XH → Prop} (q : Shp X) (h : TR X 2 g) (hc : c < 24)  : w_X3_sighAt 2 (Int32.ofNat c) X K = K (gH g c) X := by
  simp only [w_X3_sighAt, q.t2, q.r2_4, a_6 q h hc, w_X3_place, cnd1, cnd2, b2i_0, b2i_1, b2i_z, ne_eq, not_false_eq_true, true_and, and_true, eq_self, Nat.reduceEqDiff, Bool.not_eq_false]
theorem e_lipsAt {X : XH} {g : Row} {c : Nat} {K : Int32 → XH → Prop} (q : Shp X) (h : TR X 2 g) (hc : c < 24)  : w_X3_lipsAt 2 (Int32.ofNat c) X K = K (gL g c) X := by
  simp only [w_X3_lipsAt, q.t2, q.r2_3, a_5 q h hc, w_X3_place, cnd1, cnd2, b2i_0, b2i_1, b2i_z, ne_eq, not_false_eq_true, true_and, and_true, eq_self, Nat.reduceEqDiff, Bool.not_eq_false]
theorem e_reelAt {X : XH} {g : Row} {c : Nat} {K : Int32 → XH → Prop} (q : Shp X) (h : TR X 2 g) (hc : c < 24)  : w_X3_reelAt 2 (Int32.ofNat c) X K = K (gR g c) X := by
  simp only [w_X3_reelAt, q.t2, q.r2_1, a_3 q h hc, w_X3_place, cnd1, cnd2, b2i_0, b2i_1, b2i_z, ne_eq, not_false_eq_true, true_and, and_true, eq_self, Nat.reduceEqDiff, Bool.not_eq_false]
theorem e_speakerAt {X : XH} {g : Row} {c : Nat} {K : Int32 → XH → Prop} (q : Shp X) (h : TR X 2 g) (hc : c < 24)  : w_X3_speakerAt 2 (Int32.ofNat c) X K = K (gS g c) X := by
  simp only [w_X3_speakerAt, q.t2, q.r2_2, a_4 q h hc, w_X3_place, cnd1, cnd2, b2i_0, b2i_1, b2i_z, ne_eq, not_false_eq_true, true_and, and_true, eq_self, Nat.reduceEqDiff, Bool.not_eq_false]
theorem e_hasFit {X : XH} {g : Row} {c t : Nat} {K : Int32 → XH → Prop} (q : Shp X) (h : TR X 2 g) (hc : c < 24) (ht : t < 3)  : w_X3_hasFit 2 (Int32.ofNat c) (Int32.ofNat t) X K = K (b2i (pFit g c t)) X := by
  simp only [w_X3_hasFit, q.t2, q.r2_5, q.r2_4, q.r2_3, a_7 q h hc ht, a_6 q h hc, a_5 q h hc, w_X3_place, cnd1, cnd2, b2i_0, b2i_1, b2i_z, ne_eq, not_false_eq_true, true_and, and_true, eq_self, Nat.reduceEqDiff, Bool.not_eq_false]
  by_cases h0 : gF g c t ≤ 0 <;> by_cases h1 : gL g c < gF g c t + gH g c <;> simp [h0, h1, b2i, pFit]
theorem e_spokenAt {X : XH} {g : Row} {c t : Nat} {K : Int32 → XH → Prop} (q : Shp X) (h : TR X 2 g) (hc : c < 24) (ht : t < 3)  : w_X3_spokenAt 2 (Int32.ofNat c) (Int32.ofNat t) X K = K (gB g c t) X := by
  simp only [w_X3_spokenAt, q.t2, q.r2_5, q.r2_4, a_7 q h hc ht, a_6 q h hc, gB, w_X3_place, cnd1, cnd2, b2i_0, b2i_1, b2i_z, ne_eq, not_false_eq_true, true_and, and_true, eq_self, Nat.reduceEqDiff, Bool.not_eq_false]
theorem e_hasSignature {X : XH} {g : Row} {s r t : Nat} {K : Int32 → XH → Prop} (q : Shp X) (h : TR X 2 g) (hs : s < 5) (hr : r < 4) (ht : t < 3)  : w_X3_hasSignature 2 (Int32.ofNat s) (Int32.ofNat r) (Int32.ofNat t) X K = K (b2i (pSg g s r t)) X := by
  simp only [w_X3_hasSignature, q.t2, q.r2_11, a_13 q h hr ht, w_X3_place, cnd1, cnd2, b2i_0, b2i_1, b2i_z, ne_eq, not_false_eq_true, true_and, and_true, eq_self, Nat.reduceEqDiff, Bool.not_eq_false]
  by_cases h0 : (gZ g r t >>> (Int32.ofNat s &&& 31)) &&& 1 = 1 <;> simp [h0, b2i, pSg]
theorem e_hundredthsAt {X : XH} {g : Row} {c t : Nat} {K : Int32 → XH → Prop} (q : Shp X) (h : TR X 2 g) (hc : c < 24) (ht : t < 3) (hl : ¬ gL g c ≤ 0) : w_X3_hundredthsAt 2 (Int32.ofNat c) (Int32.ofNat t) X K = K (gP g c t) X := by
  simp only [w_X3_hundredthsAt, q.t2, e_lipsAt q h hc, e_spokenAt q h hc ht, gP, hl, if_false, w_X3_place, cnd1, cnd2, b2i_0, b2i_1, b2i_z, ne_eq, not_false_eq_true, true_and, and_true, eq_self, Nat.reduceEqDiff, Bool.not_eq_false]
  simp [show ¬ gL g c = 0 from fun e => hl (by rw [e]; exact Int32.le_refl 0)]
theorem e_hasMix {X : XH} {g : Row} {r t : Nat} {K : Int32 → XH → Prop} (q : Shp X) (h : TR X 2 g) (hr : r < 4) (ht : t < 3)  : w_X3_hasMix 2 (Int32.ofNat r) (Int32.ofNat t) X K = K (b2i (pMx g r t)) X := by
  simp only [w_X3_hasMix, q.t2, q.r2_10, a_12 q h hr ht, w_X3_place, cnd1, cnd2, b2i_0, b2i_1, b2i_z, ne_eq, not_false_eq_true, true_and, and_true, eq_self, Nat.reduceEqDiff, Bool.not_eq_false]
  by_cases h0 : gM g r t = 1 <;> simp [h0, b2i, pMx]
theorem e_roomAt {X : XH} {g : Row} {c t : Nat} {K : Int32 → XH → Prop} (q : Shp X) (h : TR X 2 g) (hc : c < 24) (ht : t < 3)  : w_X3_roomAt 2 (Int32.ofNat c) (Int32.ofNat t) X K = K (gRm g c t) X := by
  simp only [w_X3_roomAt, q.t2, q.r2_3, a_5 q h hc, e_spokenAt q h hc ht, gRm, w_X3_place, cnd1, cnd2, b2i_0, b2i_1, b2i_z, ne_eq, not_false_eq_true, true_and, and_true, eq_self, Nat.reduceEqDiff, Bool.not_eq_false]
theorem e_strengthAt {X : XH} {g : Row} {s t : Nat} {K : Int32 → XH → Prop} (q : Shp X) (h : TR X 2 g) (hs : s < 5) (ht : t < 3)  : w_X3_strengthAt 2 (Int32.ofNat s) (Int32.ofNat t) X K = K (gSn g s t) X := by
  simp only [w_X3_strengthAt, q.t2, e_staminaAt q h hs ht, e_usedBy q h hs ht, gSn, w_X3_place, cnd1, cnd2, b2i_0, b2i_1, b2i_z, ne_eq, not_false_eq_true, true_and, and_true, eq_self, Nat.reduceEqDiff, Bool.not_eq_false]
theorem e_isReady {X : XH} {g : Row} {c t : Nat} {K : Int32 → XH → Prop} (q : Shp X) (h : TR X 2 g) (hc : c < 24) (ht : t < 3)  : w_X3_isReady 2 (Int32.ofNat c) (Int32.ofNat t) X K = K (b2i (pRd g c t)) X := by
  simp only [w_X3_isReady, q.t2, e_hasFit q h hc ht, e_isTaken q h hc ht, w_X3_place, cnd1, cnd2, b2i_0, b2i_1, b2i_z, ne_eq, not_false_eq_true, true_and, and_true, eq_self, Nat.reduceEqDiff, Bool.not_eq_false]
  cases h0 : pFit g c t <;> cases h1 : pTk g c t <;> simp [pRd, h0, h1, b2i]
theorem e_strengthAt' {X : XH} {g : Row} {c t : Nat} {K : Int32 → XH → Prop} (q : Shp X) (h : TR X 2 g) (hS : ∃ s, s < 5 ∧ gS g c = Int32.ofNat s) (ht : t < 3) : w_X3_strengthAt 2 (gS g c) (Int32.ofNat t) X K = K (gSn g (gS g c).toNatClampNeg t) X := by
  obtain ⟨s, hs, e⟩ := hS
  rw [e, e_strengthAt q h hs ht, nc (by omega)]
theorem e_reasonAt {X : XH} {g : Row} {c t : Nat} {K : Int32 → XH → Prop} (q : Shp X) (h : TR X 2 g) (hc : c < 24) (ht : t < 3) (hS : ∃ s, s < 5 ∧ gS g c = Int32.ofNat s) : w_X3_reasonAt 2 (Int32.ofNat c) (Int32.ofNat t) X K = K (gRs g c t) X := by
  simp only [w_X3_reasonAt, q.t2, e_hasTranslation q h hc ht, e_hasFit q h hc ht, e_isTaken q h hc ht, e_speakerAt q h hc, e_strengthAt' q h hS ht, e_spokenAt q h hc ht, w_X3_place, cnd1, cnd2, b2i_0, b2i_1, b2i_z, ne_eq, not_false_eq_true, true_and, and_true, eq_self, Nat.reduceEqDiff, Bool.not_eq_false]
  cases h0 : pHas g c t <;> cases h1 : pTk g c t <;> cases h2 : pFit g c t <;> by_cases h3 : gB g c t ≤ gSn g (gS g c).toNatClampNeg t <;> simp [gRs, h0, h1, h2, h3]
theorem e_leastAnnexAt {X : XH} {g : Row} {c t : Nat} {K : Int32 → XH → Prop} (q : Shp X) (h : TR X 2 g) (hc : c < 24) (ht : t < 3)  : w_X3_leastAnnexAt 2 (Int32.ofNat c) (Int32.ofNat t) X K = K (gLA g c t) X := by
  simp only [w_X3_leastAnnexAt, q.t2, e_roomAt q h hc ht, e_framesAt q h hc ht, w_X3_place, cnd1, cnd2, b2i_0, b2i_1, b2i_z, ne_eq, not_false_eq_true, true_and, and_true, eq_self, Nat.reduceEqDiff, Bool.not_eq_false]
  unfold gLA; simp only [kit]
theorem e_checkReel {X : XH} {a : Int32} {K : XH → Prop} {KX : String → XH → Prop}    : w_X4_checkReel a X K KX = (if inR a = true then K X else KX xcI X) := by
  simp only [w_X4_checkReel, w_X3_place, cnd1, cnd2, b2i_0, b2i_1, b2i_z, ne_eq, not_false_eq_true, true_and, and_true, eq_self, Nat.reduceEqDiff, Bool.not_eq_false]
  by_cases h0 : a < 0 <;> by_cases h1 : a < 4 <;> simp [h0, h1, b2i, inR]
theorem e_checkState {X : XH} {a : Int32} {K : XH → Prop} {KX : String → XH → Prop}    : w_X4_checkState a X K KX = (if inS a = true then K X else KX xcI X) := by
  simp only [w_X4_checkState, w_X3_place, cnd1, cnd2, b2i_0, b2i_1, b2i_z, ne_eq, not_false_eq_true, true_and, and_true, eq_self, Nat.reduceEqDiff, Bool.not_eq_false]
  by_cases h0 : a < 0 <;> by_cases h1 : a < 5 <;> simp [h0, h1, b2i, inS]
theorem e_checkTongue {X : XH} {a : Int32} {K : XH → Prop} {KX : String → XH → Prop}    : w_X4_checkTongue a X K KX = (if inT a = true then K X else KX xcI X) := by
  simp only [w_X4_checkTongue, w_X3_place, cnd1, cnd2, b2i_0, b2i_1, b2i_z, ne_eq, not_false_eq_true, true_and, and_true, eq_self, Nat.reduceEqDiff, Bool.not_eq_false]
  by_cases h0 : a < 0 <;> by_cases h1 : a < 3 <;> simp [h0, h1, b2i, inT]
theorem e_checkRange {X : XH} {a lo hi : Int32} {K : XH → Prop} {KX : String → XH → Prop}    : w_X4_checkRange a lo hi X K KX = (if inG a lo hi = true then K X else KX xcA X) := by
  simp only [w_X4_checkRange, w_X3_place, cnd1, cnd2, b2i_0, b2i_1, b2i_z, ne_eq, not_false_eq_true, true_and, and_true, eq_self, Nat.reduceEqDiff, Bool.not_eq_false]
  by_cases h0 : a < lo <;> by_cases h1 : a ≤ hi <;> simp [h0, h1, b2i, inG]
theorem e_checkClause {X : XH} {g : Row} {a : Int32} {K : XH → Prop} {KX : String → XH → Prop} (q : Shp X) (h : TR X 2 g)   : w_X4_checkClause 1 a X K KX = (if inC (g 366) a = true then K X else KX xcI X) := by
  simp only [w_X4_checkClause, q.t1, q.r1_0, q.t2, h.n, w_X3_place, cnd1, cnd2, b2i_0, b2i_1, b2i_z, ne_eq, not_false_eq_true, true_and, and_true, eq_self, Nat.reduceEqDiff, Bool.not_eq_false]
  by_cases h0 : a < 0 <;> by_cases h1 : a < g 366 <;> simp [h0, h1, b2i, inC]
theorem e_checkTranslation {X : XH} {g : Row} {a b : Int32} {K : XH → Prop} {KX : String → XH → Prop} (q : Shp X) (h : TR X 2 g)   : w_X4_checkTranslation 1 a b X K KX = (if (inC (g 366) a && inT b) = true then K X else KX xcI X) := by
  simp only [w_X4_checkTranslation, q.t1, e_checkClause q h, e_checkTongue, w_X3_place, cnd1, cnd2, b2i_0, b2i_1, b2i_z, ne_eq, not_false_eq_true, true_and, and_true, eq_self, Nat.reduceEqDiff, Bool.not_eq_false]
  cases inC (g 366) a <;> cases inT b <;> simp
theorem e_checkVoice {X : XH} {a b : Int32} {K : XH → Prop} {KX : String → XH → Prop}    : w_X4_checkVoice a b X K KX = (if (inS a && inT b) = true then K X else KX xcI X) := by
  simp only [w_X4_checkVoice, e_checkState, e_checkTongue, w_X3_place, cnd1, cnd2, b2i_0, b2i_1, b2i_z, ne_eq, not_false_eq_true, true_and, and_true, eq_self, Nat.reduceEqDiff, Bool.not_eq_false]
  cases inS a <;> cases inT b <;> simp
theorem e_checkTranslated {X : XH} {g : Row} {c t : Nat} {K : XH → Prop} {KX : String → XH → Prop} (q : Shp X) (h : TR X 2 g) (hc : c < 24) (ht : t < 3)  : w_X4_checkTranslated 1 (Int32.ofNat c) (Int32.ofNat t) X K KX = (if pHas g c t = true then K X else KX xcS X) := by
  simp only [w_X4_checkTranslated, q.t1, q.r1_0, q.t2, e_hasTranslation q h hc ht, w_X3_place, cnd1, cnd2, b2i_0, b2i_1, b2i_z, ne_eq, not_false_eq_true, true_and, and_true, eq_self, Nat.reduceEqDiff, Bool.not_eq_false]
  cases pHas g c t <;> simp
theorem e_checkTaken {X : XH} {g : Row} {c t : Nat} {K : XH → Prop} {KX : String → XH → Prop} (q : Shp X) (h : TR X 2 g) (hc : c < 24) (ht : t < 3)  : w_X4_checkTaken 1 (Int32.ofNat c) (Int32.ofNat t) X K KX = (if pTk g c t = true then K X else KX xcS X) := by
  simp only [w_X4_checkTaken, q.t1, q.r1_0, q.t2, e_isTaken q h hc ht, w_X3_place, cnd1, cnd2, b2i_0, b2i_1, b2i_z, ne_eq, not_false_eq_true, true_and, and_true, eq_self, Nat.reduceEqDiff, Bool.not_eq_false]
  cases pTk g c t <;> simp
end PD2
section PD3
theorem i366 : (366 : Int32) = Int32.ofNat 366 := rfl
theorem i367 : (367 : Int32) = Int32.ofNat 367 := rfl
theorem i368 : (368 : Int32) = Int32.ofNat 368 := rfl
theorem i369 : (369 : Int32) = Int32.ofNat 369 := rfl
theorem i370 : (370 : Int32) = Int32.ofNat 370 := rfl
theorem vp3 {i : Nat} (hi : i < 371) : vp_in (Int32.ofNat i) 371 = True := vp_of hi (by decide)
end PD3
