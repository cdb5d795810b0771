/-! the law's own questions -/
section LQ
theorem hx1 {P : Prop} (h : P) : (xcI = xcI) ∧ (xcI = xcI → P) := ⟨rfl, fun _ => h⟩
theorem hxI {P Q : Prop} (h : P) : (xcI = xcI ∨ xcI = xcS) ∧ (xcI = xcI → P) ∧ (xcI = xcS → Q) := ⟨Or.inl rfl, fun _ => h, fun e => absurd e (by decide)⟩
theorem hxS {P Q : Prop} (h : Q) : (xcS = xcI ∨ xcS = xcS) ∧ (xcS = xcI → P) ∧ (xcS = xcS → Q) := ⟨Or.inr rfl, fun e => absurd e (by decide), fun _ => h⟩
theorem hb01 {K : Int32 → XH → Prop} {X : XH} {p : Bool} (k : K (b2i p) X) : (b2i p = 0 → K 0 X) ∧ (¬ b2i p = 0 → K 1 X) := by
  cases p
  · exact ⟨fun _ => k, fun e => absurd rfl e⟩
  · exact ⟨fun e => absurd e (by decide), fun _ => k⟩
variable {σ : St} {n : Nat}
theorem lb_isTranslated {a b : Int32} (h0 : (inC (zG σ 366) a && inT b) = false) : Op (fun X K => w_L_isTranslated 1 a b X K) σ (-2) σ := fun X Zz K w k => ⟨w.1.t1, q_isTranslated_b w h0 (hx1 (k _ w))⟩
theorem lg_isTranslated {c t : Nat} (i : Inv (zG σ) n) (hc : c < n) (ht : t < 3) : Op (fun X K => w_L_isTranslated 1 (Int32.ofNat c) (Int32.ofNat t) X K) σ (b2i (pHas (zG σ) c t)) σ := by
  intro X Zz K w k
  exact ⟨w.1.t1, q_isTranslated w i hc ht (hb01 (k _ w))⟩
theorem lb_framesOf {a b : Int32} (h0 : (inC (zG σ 366) a && inT b) = false) : Op (fun X K => w_L_framesOf 1 a b X K) σ (-2) σ := fun X Zz K w k => ⟨w.1.t1, q_framesOf_b w h0 (hxI (k _ w))⟩
theorem lg_framesOf {c t : Nat} (i : Inv (zG σ) n) (hc : c < n) (ht : t < 3) : Op (fun X K => w_L_framesOf 1 (Int32.ofNat c) (Int32.ofNat t) X K) σ (if pHas (zG σ) c t = true then gF (zG σ) c t else -4) σ := by
  intro X Zz K w k
  cases hp : pHas (zG σ) c t
  · rw [hp, if_neg (by decide)] at k
    exact ⟨w.1.t1, q_framesOf_s w i hc ht hp (hxS (k _ w))⟩
  · rw [hp, if_pos rfl] at k
    exact ⟨w.1.t1, q_framesOf w i hc ht hp (k _ w)⟩
theorem lb_annexedOf {a b : Int32} (h0 : (inC (zG σ 366) a && inT b) = false) : Op (fun X K => w_L_annexedOf 1 a b X K) σ (-2) σ := fun X Zz K w k => ⟨w.1.t1, q_annexedOf_b w h0 (hx1 (k _ w))⟩
theorem lg_annexedOf {c t : Nat} (i : Inv (zG σ) n) (hc : c < n) (ht : t < 3) : Op (fun X K => w_L_annexedOf 1 (Int32.ofNat c) (Int32.ofNat t) X K) σ (gAn (zG σ) c t) σ := by
  intro X Zz K w k
  exact ⟨w.1.t1, q_annexedOf w i hc ht (k _ w)⟩
theorem lb_isRecorded {a b : Int32} (h0 : (inC (zG σ 366) a && inT b) = false) : Op (fun X K => w_L_isRecorded 1 a b X K) σ (-2) σ := fun X Zz K w k => ⟨w.1.t1, q_isRecorded_b w h0 (hx1 (k _ w))⟩
theorem lg_isRecorded {c t : Nat} (i : Inv (zG σ) n) (hc : c < n) (ht : t < 3) : Op (fun X K => w_L_isRecorded 1 (Int32.ofNat c) (Int32.ofNat t) X K) σ (b2i (pTk (zG σ) c t)) σ := by
  intro X Zz K w k
  exact ⟨w.1.t1, q_isRecorded w i hc ht (hb01 (k _ w))⟩
theorem lb_sessionOf {a b : Int32} (h0 : (inC (zG σ 366) a && inT b) = false) : Op (fun X K => w_L_sessionOf 1 a b X K) σ (-2) σ := fun X Zz K w k => ⟨w.1.t1, q_sessionOf_b w h0 (hxI (k _ w))⟩
theorem lg_sessionOf {c t : Nat} (i : Inv (zG σ) n) (hc : c < n) (ht : t < 3) : Op (fun X K => w_L_sessionOf 1 (Int32.ofNat c) (Int32.ofNat t) X K) σ (if pTk (zG σ) c t = true then gT (zG σ) c t - 1 else -4) σ := by
  intro X Zz K w k
  cases hp : pTk (zG σ) c t
  · rw [hp, if_neg (by decide)] at k
    exact ⟨w.1.t1, q_sessionOf_s w i hc ht hp (hxS (k _ w))⟩
  · rw [hp, if_pos rfl] at k
    exact ⟨w.1.t1, q_sessionOf w i hc ht hp (k _ w)⟩
theorem lb_roomFor {a b : Int32} (h0 : (inC (zG σ 366) a && inT b) = false) : Op (fun X K => w_L_roomFor 1 a b X K) σ (-902) σ := fun X Zz K w k => ⟨w.1.t1, q_roomFor_b w h0 (hxI (k _ w))⟩
theorem lg_roomFor {c t : Nat} (i : Inv (zG σ) n) (hc : c < n) (ht : t < 3) : Op (fun X K => w_L_roomFor 1 (Int32.ofNat c) (Int32.ofNat t) X K) σ (if pHas (zG σ) c t = true then gRm (zG σ) c t else -904) σ := by
  intro X Zz K w k
  cases hp : pHas (zG σ) c t
  · rw [hp, if_neg (by decide)] at k
    exact ⟨w.1.t1, q_roomFor_s w i hc ht hp (hxS (k _ w))⟩
  · rw [hp, if_pos rfl] at k
    exact ⟨w.1.t1, q_roomFor w i hc ht hp (k _ w)⟩
theorem lb_fits {a b : Int32} (h0 : (inC (zG σ 366) a && inT b) = false) : Op (fun X K => w_L_fits 1 a b X K) σ (-2) σ := fun X Zz K w k => ⟨w.1.t1, q_fits_b w h0 (hx1 (k _ w))⟩
theorem lg_fits {c t : Nat} (i : Inv (zG σ) n) (hc : c < n) (ht : t < 3) : Op (fun X K => w_L_fits 1 (Int32.ofNat c) (Int32.ofNat t) X K) σ (b2i (pFit (zG σ) c t)) σ := by
  intro X Zz K w k
  exact ⟨w.1.t1, q_fits w i hc ht (hb01 (k _ w))⟩
theorem lb_hundredthsOf {a b : Int32} (h0 : (inC (zG σ 366) a && inT b) = false) : Op (fun X K => w_L_hundredthsOf 1 a b X K) σ (-2) σ := fun X Zz K w k => ⟨w.1.t1, q_hundredthsOf_b w h0 (hxI (k _ w))⟩
theorem lg_hundredthsOf {c t : Nat} (i : Inv (zG σ) n) (hc : c < n) (ht : t < 3) : Op (fun X K => w_L_hundredthsOf 1 (Int32.ofNat c) (Int32.ofNat t) X K) σ (if pHas (zG σ) c t = true then gP (zG σ) c t else -4) σ := by
  intro X Zz K w k
  cases hp : pHas (zG σ) c t
  · rw [hp, if_neg (by decide)] at k
    exact ⟨w.1.t1, q_hundredthsOf_s w i hc ht hp (hxS (k _ w))⟩
  · rw [hp, if_pos rfl] at k
    exact ⟨w.1.t1, q_hundredthsOf w i hc ht hp (k _ w)⟩
theorem lb_reasonAgainst {a b : Int32} (h0 : (inC (zG σ 366) a && inT b) = false) : Op (fun X K => w_L_reasonAgainst 1 a b X K) σ (-2) σ := fun X Zz K w k => ⟨w.1.t1, q_reasonAgainst_b w h0 (hx1 (k _ w))⟩
theorem lg_reasonAgainst {c t : Nat} (i : Inv (zG σ) n) (hc : c < n) (ht : t < 3) : Op (fun X K => w_L_reasonAgainst 1 (Int32.ofNat c) (Int32.ofNat t) X K) σ (gRs (zG σ) c t) σ := by
  intro X Zz K w k
  exact ⟨w.1.t1, q_reasonAgainst w i hc ht (k _ w)⟩
theorem lb_staminaOf {a b : Int32} (h0 : (inS a && inT b) = false) : Op (fun X K => w_L_staminaOf 1 a b X K) σ (-2) σ := fun X Zz K w k => ⟨w.1.t1, q_staminaOf_b w h0 (hx1 (k _ w))⟩
theorem lg_staminaOf {s t : Nat} (i : Inv (zG σ) n) (hs : s < 5) (ht : t < 3) : Op (fun X K => w_L_staminaOf 1 (Int32.ofNat s) (Int32.ofNat t) X K) σ (gSt (zG σ) s t) σ := by
  intro X Zz K w k
  exact ⟨w.1.t1, q_staminaOf w i hs ht (k _ w)⟩
theorem lb_strengthLeft {a b : Int32} (h0 : (inS a && inT b) = false) : Op (fun X K => w_L_strengthLeft 1 a b X K) σ (-2) σ := fun X Zz K w k => ⟨w.1.t1, q_strengthLeft_b w h0 (hx1 (k _ w))⟩
theorem lg_strengthLeft {s t : Nat} (i : Inv (zG σ) n) (hs : s < 5) (ht : t < 3) : Op (fun X K => w_L_strengthLeft 1 (Int32.ofNat s) (Int32.ofNat t) X K) σ (gSn (zG σ) s t) σ := by
  intro X Zz K w k
  exact ⟨w.1.t1, q_strengthLeft w i hs ht (k _ w)⟩
theorem lb_framesOfVoice {a b : Int32} (h0 : (inS a && inT b) = false) : Op (fun X K => w_L_framesOfVoice 1 a b X K) σ (-2) σ := fun X Zz K w k => ⟨w.1.t1, q_framesOfVoice_b w h0 (hx1 (k _ w))⟩
theorem lg_framesOfVoice {s t : Nat} (i : Inv (zG σ) n) (hs : s < 5) (ht : t < 3) : Op (fun X K => w_L_framesOfVoice 1 (Int32.ofNat s) (Int32.ofNat t) X K) σ (sVoiced (zG σ) n (Int32.ofNat s) t) σ := by
  intro X Zz K w k
  exact ⟨w.1.t1, q_framesOfVoice w i hs ht (k _ w)⟩
theorem lb_speaksIn {a b : Int32} (h0 : (inS a && inR b) = false) : Op (fun X K => w_L_speaksIn 1 a b X K) σ (-2) σ := fun X Zz K w k => ⟨w.1.t1, q_speaksIn_b w h0 (hx1 (k _ w))⟩
theorem lg_speaksIn {s r : Nat} (i : Inv (zG σ) n) (hs : s < 5) (hr : r < 4) : Op (fun X K => w_L_speaksIn 1 (Int32.ofNat s) (Int32.ofNat r) X K) σ (b2i (pHd (zG σ) n (Int32.ofNat s) (Int32.ofNat r))) σ := by
  intro X Zz K w k
  exact ⟨w.1.t1, q_speaksIn w i hs hr (hb01 (k _ w))⟩
theorem lb_hasSigned {a b e : Int32} (h0 : (inS a && (inR b && inT e)) = false) : Op (fun X K => w_L_hasSigned 1 a b e X K) σ (-2) σ := fun X Zz K w k => ⟨w.1.t1, q_hasSigned_b w h0 (hx1 (k _ w))⟩
theorem lg_hasSigned {s r t : Nat} (i : Inv (zG σ) n) (hs : s < 5) (hr : r < 4) (ht : t < 3) : Op (fun X K => w_L_hasSigned 1 (Int32.ofNat s) (Int32.ofNat r) (Int32.ofNat t) X K) σ (b2i (pSg (zG σ) s r t)) σ := by
  intro X Zz K w k
  exact ⟨w.1.t1, q_hasSigned w i hs hr ht (hb01 (k _ w))⟩
theorem lb_sessionsByGoing {a b : Int32} (h0 : (inS a && inT b) = false) : Op (fun X K => w_L_sessionsByGoing 1 a b X K) σ (-2) σ := fun X Zz K w k => ⟨w.1.t1, q_sessionsByGoing_b w h0 (hxI (k _ w))⟩
theorem lg_sessionsByGoing {s t : Nat} (i : Inv (zG σ) n) (hs : s < 5) (ht : t < 3) : Op (fun X K => w_L_sessionsByGoing 1 (Int32.ofNat s) (Int32.ofNat t) X K) σ (if pTL (zG σ) n s t = true then -4 else gGo (zG σ) n s t) σ := by
  intro X Zz K w k
  cases hp : pTL (zG σ) n s t
  · rw [hp, if_neg (by decide)] at k
    exact ⟨w.1.t1, q_sessionsByGoing w i hs ht hp (fun X1 w1 => k _ w1)⟩
  · rw [hp, if_pos rfl] at k
    exact ⟨w.1.t1, q_sessionsByGoing_s w i hs ht hp (fun X1 w1 => hxS (k _ w1))⟩
theorem lb_sessionsByTable {a b : Int32} (h0 : (inS a && inT b) = false) : Op (fun X K => w_L_sessionsByTable 1 a b X K) σ (-2) σ := fun X Zz K w k => ⟨w.1.t1, q_sessionsByTable_b w h0 (hxI (k _ w))⟩
theorem lg_sessionsByTable {s t : Nat} (i : Inv (zG σ) n) (hs : s < 5) (ht : t < 3) : Op (fun X K => w_L_sessionsByTable 1 (Int32.ofNat s) (Int32.ofNat t) X K) σ (if pTL (zG σ) n s t = true then -4 else gGo (zG σ) n s t) σ := by
  intro X Zz K w k
  cases hp : pTL (zG σ) n s t
  · rw [hp, if_neg (by decide)] at k
    exact ⟨w.1.t1, q_sessionsByTable w i hs ht hp (fun X1 w1 => k _ w1)⟩
  · rw [hp, if_pos rfl] at k
    exact ⟨w.1.t1, q_sessionsByTable_s w i hs ht hp (fun X1 w1 => hxS (k _ w1))⟩
theorem lb_longestSigh {a : Int32} (h0 : inC (zG σ 366) a = false) : Op (fun X K => w_L_longestSigh 1 a X K) σ (-2) σ := fun X Zz K w k => ⟨w.1.t1, q_longestSigh_b w h0 (hxI (k _ w))⟩
theorem lg_longestSigh {c : Nat} (i : Inv (zG σ) n) (hc : c < n) : Op (fun X K => w_L_longestSigh 1 (Int32.ofNat c) X K) σ (if gLo (zG σ) c = -1 then -4 else gLo (zG σ) c) σ := by
  intro X Zz K w k
  by_cases s1 : gLo (zG σ) c = -1
  · rw [if_pos s1] at k
    exact ⟨w.1.t1, q_longestSigh_m w i hc s1 (hxS (k _ w))⟩
  · rw [if_neg s1] at k
    exact ⟨w.1.t1, q_longestSigh w i hc s1 (k _ w)⟩
theorem lb_nextClause {a : Int32} (h0 : inT a = false) : Op (fun X K => w_L_nextClause 1 a X K) σ (-2) σ := fun X Zz K w k => ⟨w.1.t1, q_nextClause_b w h0 (hxI (k _ w))⟩
theorem lg_nextClause {t : Nat} (i : Inv (zG σ) n) (ht : t < 3) : Op (fun X K => w_L_nextClause 1 (Int32.ofNat t) X K) σ (if encO (nxTo (zG σ) t n) = -1 then -4 else encO (nxTo (zG σ) t n)) σ := by
  intro X Zz K w k
  by_cases s1 : encO (nxTo (zG σ) t n) = -1
  · rw [if_pos s1] at k
    exact ⟨w.1.t1, q_nextClause_m w i ht s1 (hxS (k _ w))⟩
  · rw [if_neg s1] at k
    exact ⟨w.1.t1, q_nextClause w i ht s1 (k _ w)⟩
theorem lb_leastAnnex {a b : Int32} (h0 : (inC (zG σ 366) a && inT b) = false) : Op (fun X K => w_L_leastAnnex 1 a b X K) σ (-2) σ := fun X Zz K w k => ⟨w.1.t1, q_leastAnnex_b w h0 (hxI (k _ w))⟩
theorem lg_leastAnnex {c t : Nat} (i : Inv (zG σ) n) (hc : c < n) (ht : t < 3) : Op (fun X K => w_L_leastAnnex 1 (Int32.ofNat c) (Int32.ofNat t) X K) σ (if pHas (zG σ) c t = true then (if gLA (zG σ) c t = -1 then -4 else gLA (zG σ) c t) else -4) σ := by
  intro X Zz K w k
  cases hp : pHas (zG σ) c t
  · rw [hp, if_neg (by decide)] at k
    exact ⟨w.1.t1, q_leastAnnex_s w i hc ht hp (hxS (k _ w))⟩
  · rw [hp, if_pos rfl] at k
    by_cases s1 : gLA (zG σ) c t = -1
    · rw [if_pos s1] at k
      exact ⟨w.1.t1, q_leastAnnex_m w i hc ht hp s1 (hxS (k _ w))⟩
    · rw [if_neg s1] at k
      exact ⟨w.1.t1, q_leastAnnex w i hc ht hp s1 (k _ w)⟩
theorem lb_clauseOf {a : Int32} (h0 : inC (zG σ 366) a = false) : Op (fun X K => w_L_clauseOf 1 a X K) σ (-2) σ := fun X Zz K w k => ⟨w.1.t1, q_reelOf_b w h0 (hx1 (k _ w))⟩
def vCl (g : Row) (c : Nat) : Int32 := gR g c + 4 * gS g c + 32 * gL g c + 2048 * gH g c
theorem lg_clauseOf {c : Nat} (i : Inv (zG σ) n) (hc : c < n) : Op (fun X K => w_L_clauseOf 1 (Int32.ofNat c) X K) σ (vCl (zG σ) c) σ := by
  intro X Zz K w k
  have t := w.1.t1
  exact ⟨t, q_reelOf w i hc ⟨t, q_speakerOf w i hc ⟨t, q_lipsOf w i hc ⟨t, q_sighOf w i hc (k _ w)⟩⟩⟩⟩
theorem lb_reelAt {a : Int32} (h0 : inR a = false) : Op (fun X K => w_L_reelAt 1 a X K) σ (-2) σ := fun X Zz K w k => ⟨w.1.t1, q_clausesIn_b w h0 (hx1 (k _ w))⟩
theorem lg_reelAt {r : Nat} (i : Inv (zG σ) n) (hr : r < 4) : Op (fun X K => w_L_reelAt 1 (Int32.ofNat r) X K) σ (sMany (zG σ) n (Int32.ofNat r) + 100 * sLong (zG σ) n (Int32.ofNat r)) σ := by
  intro X Zz K w k
  have t := w.1.t1
  exact ⟨t, q_clausesIn w i hr ⟨t, q_lengthOf w i hr (k _ w)⟩⟩
theorem lb_ready {a : Int32} (h0 : inT a = false) : Op (fun X K => w_L_ready 1 a X K) σ (-2) σ := fun X Zz K w k => ⟨w.1.t1, q_readyByClauses_b w h0 (hx1 (k _ w))⟩
theorem lg_ready {t : Nat} (i : Inv (zG σ) n) (ht : t < 3) : Op (fun X K => w_L_ready 1 (Int32.ofNat t) X K) σ (sReady (zG σ) n t) σ := by
  intro X Zz K w k
  have t1 := w.1.t1
  exact ⟨t1, q_readyByClauses w i ht ⟨t1, q_readyByVoices w i ht ⟨fun e => absurd rfl e, fun _ => ⟨t1, q_readyByClauses w i ht (k _ w)⟩⟩⟩⟩
theorem lb_tongueAt {a : Int32} (h0 : inT a = false) : Op (fun X K => w_L_tongueAt 1 a X K) σ (-2) σ := fun X Zz K w k => ⟨w.1.t1, q_annexOf_b w h0 (hx1 (k _ w))⟩
def vTo (g : Row) (n t : Nat) : Int32 := sAnnex g n t + 100 * sTaken g n t + 10000 * sMis g n t + bi (pRat g n t) 1000000
theorem lg_tongueAt {t : Nat} (i : Inv (zG σ) n) (ht : t < 3) : Op (fun X K => w_L_tongueAt 1 (Int32.ofNat t) X K) σ (vTo (zG σ) n t) σ := by
  intro X Zz K w k
  have t1 := w.1.t1
  refine ⟨t1, q_annexOf w i ht ⟨t1, q_recordedIn w i ht ⟨t1, q_misfitsIn w i ht ⟨t1, q_isRatified w i ht ?_⟩⟩⟩⟩
  unfold vTo at k
  cases hp : pRat (zG σ) n t
  · rw [hp] at k
    exact ⟨fun _ => k _ w, fun e => absurd rfl e⟩
  · rw [hp] at k
    exact ⟨fun e => absurd e (by decide), fun _ => k _ w⟩
theorem lb_mixOf {a b : Int32} (h0 : (inR a && inT b) = false) : Op (fun X K => w_L_mixOf 1 a b X K) σ (-2) σ := fun X Zz K w k => ⟨w.1.t1, q_isComplete_b w h0 (hx1 (k _ w))⟩
def vMx (g : Row) (n r t : Nat) : Int32 := b2i (pWh g n (Int32.ofNat r) t) + bi (pMx g r t) 2 + 10 * sSigs g r t + 100 * sMiss g n r t
theorem lg_mixOf {r t : Nat} (i : Inv (zG σ) n) (hr : r < 4) (ht : t < 3) : Op (fun X K => w_L_mixOf 1 (Int32.ofNat r) (Int32.ofNat t) X K) σ (vMx (zG σ) n r t) σ := by
  intro X Zz K w k
  have t1 := w.1.t1
  have fin : ∀ s0 s1 : Int32, b2i (pWh (zG σ) n (Int32.ofNat r) t) = s0 → bi (pMx (zG σ) r t) 2 = s1 → w_L_mixOf_28 1 (Int32.ofNat r) (Int32.ofNat t) s0 s1 X K := fun s0 s1 e0 e1 => by
    unfold vMx at k
    rw [e0, e1] at k
    exact ⟨t1, q_signaturesOn w i hr ht ⟨t1, q_missingOn w i hr ht (k _ w)⟩⟩
  refine ⟨t1, q_isComplete w i hr ht ?_⟩
  cases h1 : pWh (zG σ) n (Int32.ofNat r) t
  · refine ⟨fun _ => ⟨t1, q_isMixed w i hr ht ?_⟩, fun e => absurd rfl e⟩
    cases h2 : pMx (zG σ) r t
    · exact ⟨fun _ => fin _ _ (by rw [h1]; rfl) (by rw [h2]; rfl), fun e => absurd rfl e⟩
    · exact ⟨fun e => absurd e (by decide), fun _ => fin _ _ (by rw [h1]; rfl) (by rw [h2]; rfl)⟩
  · refine ⟨fun e => absurd e (by decide), fun _ => ⟨t1, q_isMixed w i hr ht ?_⟩⟩
    cases h2 : pMx (zG σ) r t
    · exact ⟨fun _ => fin _ _ (by rw [h1]; rfl) (by rw [h2]; rfl), fun e => absurd rfl e⟩
    · exact ⟨fun e => absurd e (by decide), fun _ => fin _ _ (by rw [h1]; rfl) (by rw [h2]; rfl)⟩
theorem lb_meanFit {a : Int32} (h0 : inT a = false) {X Zz : XH} {K : UInt64 → XH → Prop} (w : Wd X σ Zz) (k : K 13835058055282163712 X) : w_L_meanFit 1 a X K := ⟨w.1.t1, q_meanFit_b w h0 (hx1 k)⟩
theorem lg_meanFit {t : Nat} (i : Inv (zG σ) n) (ht : t < 3) {X Zz : XH} {K : UInt64 → XH → Prop} (w : Wd X σ Zz) (k : K (gMean (zG σ) n t) X) : w_L_meanFit 1 (Int32.ofNat t) X K := ⟨w.1.t1, q_meanFit w i ht k⟩
end LQ
