/-! the questions that change nothing: class give one answer -/
section PK
theorem hty_sI {X : XH} {a k : Nat} {v : Int32} : hty (sI X a k v) = hty X := rfl
theorem hln_sI {X : XH} {a k : Nat} {v : Int32} : hln (sI X a k v) = hln X := rfl
theorem hR_sI {X : XH} {a k : Nat} {v : Int32} : hR (sI X a k v) = hR X := rfl
theorem exIA : (xcI = xcA) = False := by decide
theorem exIS : (xcI = xcS) = False := by decide
theorem exAI : (xcA = xcI) = False := by decide
theorem exAS : (xcA = xcS) = False := by decide
theorem exSI : (xcS = xcI) = False := by decide
theorem exSA : (xcS = xcA) = False := by decide
theorem i20 : ((2 : Int32) = 0) = False := by decide
theorem i30 : ((3 : Int32) = 0) = False := by decide
theorem vp0 : vp_in (0 : Int32) 1 = True := vp_of (i := 0) (by decide) (by decide)
theorem nc0 : (0 : Int32).toNatClampNeg = 0 := rfl
theorem t3 : (3 : Int32).toInt = 3 := rfl
theorem t4 : (4 : Int32).toInt = 4 := rfl
theorem t5 : (5 : Int32).toInt = 5 := rfl
theorem t2 : (2 : Int32).toInt = 2 := rfl
theorem ex_of {a : Int32} {n : Nat} (h0 : ¬ a < 0) (h : a.toInt < n) : ∃ c, c < n ∧ a = Int32.ofNat c := by
  have h1 : 0 ≤ a := by rw [Int32.not_lt] at h0; exact h0
  refine ⟨a.toNatClampNeg, ?_, (Int32.ofNat_toNatClampNeg a h1).symm⟩
  have := Int32.toInt_eq_toNatClampNeg h1
  omega
theorem inC_ex {g : Row} {n : Nat} (hn : Cn g n) {a : Int32} (h : inC (g 366) a = true) : ∃ c, c < n ∧ a = Int32.ofNat c := by
  have h9 := hn.2
  unfold inC at h
  simp only [Bool.and_eq_true, Bool.not_eq_true', decide_eq_false_iff_not, decide_eq_true_eq] at h
  refine ex_of h.1 ?_
  have h2 := h.2
  rw [hn.1, Int32.lt_iff_toInt_lt, of_toInt (by omega)] at h2
  exact h2
theorem inT_ex {a : Int32} (h : inT a = true) : ∃ c, c < 3 ∧ a = Int32.ofNat c := by
  unfold inT at h
  simp only [Bool.and_eq_true, Bool.not_eq_true', decide_eq_false_iff_not, decide_eq_true_eq] at h
  refine ex_of h.1 ?_
  have h2 := h.2
  rw [Int32.lt_iff_toInt_lt, t3] at h2
  exact h2
theorem inR_ex {a : Int32} (h : inR a = true) : ∃ c, c < 4 ∧ a = Int32.ofNat c := by
  unfold inR at h
  simp only [Bool.and_eq_true, Bool.not_eq_true', decide_eq_false_iff_not, decide_eq_true_eq] at h
  refine ex_of h.1 ?_
  have h2 := h.2
  rw [Int32.lt_iff_toInt_lt, t4] at h2
  exact h2
theorem inS_ex {a : Int32} (h : inS a = true) : ∃ c, c < 5 ∧ a = Int32.ofNat c := by
  unfold inS at h
  simp only [Bool.and_eq_true, Bool.not_eq_true', decide_eq_false_iff_not, decide_eq_true_eq] at h
  refine ex_of h.1 ?_
  have h2 := h.2
  rw [Int32.lt_iff_toInt_lt, t5] at h2
  exact h2
/-- one clause in one tongue -/
def HgC (g : Row) (c t : Nat) : Prop := (pHas g c t = false → gAn g c t = 0 ∧ pTk g c t = false) ∧ (pTk g c t = true → pFit g c t = true ∧ (gT g c t).toNatClampNeg ≤ (g 367).toNatClampNeg + 1)
def nAn (g : Row) (t : Nat) : Nat → Nat
  | 0 => 0
  | i + 1 => nAn g t i + (gAn g i t).toNatClampNeg
/-- one reel in one tongue -/
def HgR (g : Row) (n r t : Nat) : Prop := (gM g r t = 1 → (∀ c, c < n → gR g c = Int32.ofNat r → pTk g c t = true) ∧ ∃ c, c < n ∧ gR g c = Int32.ofNat r) ∧ (¬ gM g r t = 1 → gZ g r t = 0) ∧ ∀ s, s < 5 → pSg g s r t = true → ∃ c, c < n ∧ gR g c = Int32.ofNat r ∧ gS g c = Int32.ofNat s
/-- what hangs together, beside Inv -/
def Hg (B : Nat) (g : Row) (n : Nat) : Prop := (∀ c, c < n → ∀ t, t < 3 → HgC g c t) ∧ (∀ t, t < 3 → nAn g t n ≤ 99) ∧ (∀ r, r < 4 → ∀ t, t < 3 → HgR g n r t) ∧ sTaken g n 0 + sTaken g n 1 + sTaken g n 2 = g 368 - g 369 ∧ ∃ m, m ≤ B ∧ g 370 = Int32.ofNat m
def IvG (B : Nat) (g : Row) : Prop := ∃ n, Inv g n ∧ Hg B g n
/-- what holds of a state: of its row, of those that are saved, of the slots, of the signs -/
def InvS (B : Nat) (σ : St) : Prop := IvG B (zG σ) ∧ (∀ j, j < zH σ → IvG B (zP σ j)) ∧ (∀ k, k < 2 → zK σ k = 1 → IvG B (zS σ k)) ∧ ∀ k, k < zN σ → ∃ s, 33 ≤ s ∧ s ≤ 126 ∧ zT σ k = Int32.ofNat s
theorem Hg.up {B B' n : Nat} {g : Row} (h : Hg B g n) (hB : B ≤ B') : Hg B' g n := by
  obtain ⟨h1, h2, h3, h4, m, h5, h6⟩ := h
  exact ⟨h1, h2, h3, h4, m, Nat.le_trans h5 hB, h6⟩
theorem IvG.up {B B' : Nat} {g : Row} (h : IvG B g) (hB : B ≤ B') : IvG B' g := by
  obtain ⟨n, i, h⟩ := h
  exact ⟨n, i, h.up hB⟩
theorem InvS.up {B B' : Nat} {σ : St} (h : InvS B σ) (hB : B ≤ B') : InvS B' σ := ⟨h.1.up hB, fun j hj => (h.2.1 j hj).up hB, fun k hk e => (h.2.2.1 k hk e).up hB, h.2.2.2⟩
/-- a call: from state σ it answers v and leaves σ' -/
def Op (w : XH → (Int32 → XH → Prop) → Prop) (σ : St) (v : Int32) (σ' : St) : Prop := ∀ X Zz K, Wd X σ Zz → (∀ X1, Wd X1 σ' Zz → K v X1) → w X K
theorem inC_of {g : Row} {n c : Nat} (hn : Cn g n) (hc : c < n) : inC (g 366) (Int32.ofNat c) = true := by
  have h9 := hn.2
  unfold inC
  have e1 : (Int32.ofNat c < Int32.ofNat n) = (c < n) := of_lt (by omega) (by omega)
  rw [hn.1]
  simp [of_nn (show c < 4096 by omega), e1, hc]
theorem inT_of {t : Nat} (ht : t < 3) : inT (Int32.ofNat t) = true := by
  unfold inT
  have e1 : (Int32.ofNat t < 3) = (t < 3) := of_lt (j := 3) (by omega) (by decide)
  simp [of_nn (show t < 4096 by omega), e1, ht]
theorem inR_of {t : Nat} (ht : t < 4) : inR (Int32.ofNat t) = true := by
  unfold inR
  have e1 : (Int32.ofNat t < 4) = (t < 4) := of_lt (j := 4) (by omega) (by decide)
  simp [of_nn (show t < 4096 by omega), e1, ht]
theorem inS_of {t : Nat} (ht : t < 5) : inS (Int32.ofNat t) = true := by
  unfold inS
  have e1 : (Int32.ofNat t < 5) = (t < 5) := of_lt (j := 5) (by omega) (by decide)
  simp [of_nn (show t < 4096 by omega), e1, ht]
theorem inG_of {lo hi l : Nat} (h1 : lo ≤ l) (h2 : l ≤ hi) (h3 : hi < 4096) : inG (Int32.ofNat l) (Int32.ofNat lo) (Int32.ofNat hi) = true := by
  unfold inG
  have e1 : (Int32.ofNat l < Int32.ofNat lo) = (l < lo) := of_lt (by omega) (by omega)
  have e2 : (Int32.ofNat l ≤ Int32.ofNat hi) = (l ≤ hi) := of_le (by omega) (by omega)
  have : ¬ l < lo := by omega
  simp [e1, e2, this, h2]
end PK
