/-! what hangs asks, told of the row -/
section HP
variable {g : Row} {n B c t r s : Nat}
def vIts (g : Row) (c t : Nat) : Int32 := if pHas g c t = true then gF g c t else -4
def vRm (g : Row) (c t : Nat) : Int32 := if pHas g c t = true then gRm g c t else -904
def vSe (g : Row) (c t : Nat) : Int32 := if pTk g c t = true then gT g c t - 1 else -4
def vLe (g : Row) (c t : Nat) : Int32 := if pHas g c t = true then (if gLA g c t = -1 then -4 else gLA g c t) else -4
/-- the natural numbers of a clause in a tongue -/
theorem nat_c (i : Inc g c) (ht : t < 3) : ∃ l y f a k, 4 ≤ l ∧ l ≤ 60 ∧ y ≤ 20 ∧ y ≤ l ∧ f + a ≤ 60 ∧ k ≤ 1000 ∧ gL g c = Int32.ofNat l ∧ gH g c = Int32.ofNat y ∧ gF g c t = Int32.ofNat f ∧ gAn g c t = Int32.ofNat a ∧ gT g c t = Int32.ofNat k ∧ (pHas g c t = true ↔ 1 ≤ f) ∧ (pTk g c t = true ↔ 1 ≤ k) ∧ (pFit g c t = true ↔ 1 ≤ f ∧ f + y ≤ l) ∧ (gRm g c t).toInt = (l : Int) - f - y ∧ gB g c t = Int32.ofNat (f + y) := by
  obtain ⟨-, -, ⟨l, y, h1, h2, h3, h4, e1, e2⟩, hF⟩ := i
  obtain ⟨⟨f, a, hf, e3, e4⟩, k, hk, e5⟩ := hF t ht
  have f0 : (Int32.ofNat f ≤ 0) = (f ≤ 0) := of_le (j := 0) (by omega) (by decide)
  have k0 : (Int32.ofNat k ≤ 0) = (k ≤ 0) := of_le (j := 0) (by omega) (by decide)
  have eB : gB g c t = Int32.ofNat (f + y) := by
    unfold gB
    rw [e3, e2, la]
  have hl : (Int32.ofNat l < Int32.ofNat (f + y)) = (l < f + y) := of_lt (by omega) (by omega)
  refine ⟨l, y, f, a, k, h1, h2, h3, h4, hf, hk, e1, e2, e3, e4, e5, ?_, ?_, ?_, ?_, eB⟩
  · unfold pHas
    rw [e3, Bool.not_eq_true', decide_eq_false_iff_not, f0]
    omega
  · unfold pTk
    rw [e5, Bool.not_eq_true', decide_eq_false_iff_not, k0]
    omega
  · unfold pFit
    rw [e1, e2, e3, la, Bool.and_eq_true, Bool.not_eq_true', Bool.not_eq_true', decide_eq_false_iff_not, decide_eq_false_iff_not, f0, hl]
    omega
  · unfold gRm
    rw [eB, e1, sub_toInt (by rw [of_toInt (by omega), of_toInt (by omega)]; omega) (by rw [of_toInt (by omega), of_toInt (by omega)]; omega), of_toInt (by omega), of_toInt (by omega)]
    omega
theorem its_0 (i : Inc g c) (ht : t < 3) : (vIts g c t ≤ 0) = (pHas g c t = false) := by
  obtain ⟨l, y, f, a, k, h1, h2, h3, h4, hf, hk, e1, e2, e3, e4, e5, p1, p2, p3, p4, p5⟩ := nat_c i ht
  unfold vIts
  cases hp : pHas g c t
  · rw [if_neg (by decide)]
    exact propext ⟨fun _ => rfl, fun _ => by decide⟩
  · rw [if_pos rfl, e3]
    have := p1.mp hp
    rw [show (Int32.ofNat f ≤ 0) = (f ≤ 0) from of_le (j := 0) (by omega) (by decide)]
    exact propext ⟨fun h => by omega, fun h => nomatch h⟩
theorem its_1 (i : Inc g c) (ht : t < 3) : (0 < vIts g c t) = (pHas g c t = true) := by
  have h := its_0 i ht
  rw [← Int32.not_le, h]
  cases pHas g c t <;> simp
theorem se_lt (i : Inc g c) (ht : t < 3) : (vSe g c t < 0) = (pTk g c t = false) := ses_lt i ht
theorem rm_lt (i : Inc g c) (ht : t < 3) : (vRm g c t < 0) = (pFit g c t = false) := by
  obtain ⟨l, y, f, a, k, h1, h2, h3, h4, hf, hk, e1, e2, e3, e4, e5, p1, p2, p3, p4, p5⟩ := nat_c i ht
  unfold vRm
  cases hp : pHas g c t
  · rw [if_neg (by decide)]
    have q : pFit g c t = false := by
      cases hq : pFit g c t
      · rfl
      · exact nap hp (p1.mpr (p3.mp hq).1)
    rw [q]
    exact propext ⟨fun _ => rfl, fun _ => by decide⟩
  · rw [if_pos rfl, Int32.lt_iff_toInt_lt, t0, p4]
    have := p1.mp hp
    cases hq : pFit g c t
    · exact propext ⟨fun _ => rfl, fun _ => by
        refine Decidable.byContradiction fun hx => nap hq (p3.mpr ⟨this, by omega⟩)⟩
    · have := p3.mp hq
      exact propext ⟨fun h => by omega, fun h => nomatch h⟩
theorem rm_le (i : Inc g c) (ht : t < 3) : (0 ≤ vRm g c t) = (pFit g c t = true) := by
  have h := rm_lt i ht
  rw [← Int32.not_lt, h]
  cases pFit g c t <;> simp
theorem rs_in : ¬ (gRs g c t < 0) ∧ ¬ ((5 : Int32) ≤ gRs g c t) := by
  unfold gRs
  split
  · decide
  · split
    · decide
    · split
      · decide
      · split <;> decide
theorem fit_has (h : pFit g c t = true) : pHas g c t = true := by
  unfold pFit at h
  unfold pHas
  rw [Bool.and_eq_true] at h
  exact h.1
/-- ready: reasons 0 and 4 -/
theorem rs_rd : (gRs g c t = 0 ∨ gRs g c t = 4) ↔ pRd g c t = true := by
  unfold gRs pRd
  cases h1 : pHas g c t
  · have : pFit g c t = false := by
      cases hq : pFit g c t
      · rfl
      · exact nap h1 (fit_has hq)
    rw [this]
    simp
  · cases h2 : pTk g c t
    · cases h3 : pFit g c t
      · simp
      · by_cases h4 : gB g c t ≤ gSn g (gS g c).toNatClampNeg t <;> simp [h4]
    · cases h3 : pFit g c t <;> simp
theorem rs_1 (h : pHas g c t = false) : gRs g c t = 1 := by
  unfold gRs
  rw [h, if_pos rfl]
theorem rs_2 (h1 : pHas g c t = true) : (gRs g c t = 2) = (pTk g c t = true) := by
  unfold gRs
  cases h2 : pTk g c t
  · refine propext ⟨fun h => ?_, fun h => nomatch h⟩
    rw [h1, if_neg (by decide), if_neg (by decide)] at h
    split at h
    · exact absurd h (by decide)
    · split at h
      · exact absurd h (by decide)
      · exact absurd h (by decide)
  · rw [h1, if_neg (by decide), if_pos rfl]
    exact propext ⟨fun _ => rfl, fun _ => rfl⟩
/-- the least annex is 0 where it fits -/
theorem le_0 (i : Inc g c) (ht : t < 3) (hp : pHas g c t = true) : (vLe g c t = 0) = (pFit g c t = true) := by
  obtain ⟨l, y, f, a, k, h1, h2, h3, h4, hf, hk, e1, e2, e3, e4, e5, p1, p2, p3, p4, p5⟩ := nat_c i ht
  have hf1 := p1.mp hp
  have en : (-(gRm g c t)).toInt = -((l : Int) - f - y) := by rw [neg_toInt (by rw [p4]; omega), p4]
  unfold vLe
  rw [hp, if_pos rfl]
  unfold gLA
  cases hq : pFit g c t
  · have hx : l < f + y := by
      refine Decidable.byContradiction fun hx => nap hq (p3.mpr ⟨hf1, by omega⟩)
    have h0 : 0 < -(gRm g c t) := by
      rw [Int32.lt_iff_toInt_lt, t0, en]
      omega
    rw [if_pos h0]
    refine propext ⟨fun h => ?_, fun h => nomatch h⟩
    split at h
    · exact absurd h (by decide)
    · split at h
      · exact absurd h (by decide)
      · rw [h] at h0
        exact absurd h0 (by decide)
  · have hx := p3.mp hq
    have h0 : ¬ (0 < -(gRm g c t)) := by
      rw [Int32.lt_iff_toInt_lt, t0, en]
      omega
    rw [if_neg h0, e3, Int32.sub_zero]
    have h5 : ¬ (Int32.ofNat f < 1) := by
      rw [show (1 : Int32) = Int32.ofNat 1 from rfl, of_lt (by omega) (by decide)]
      omega
    rw [if_neg h5, if_neg (by decide)]
    exact propext ⟨fun _ => rfl, fun _ => rfl⟩
def sFr (g : Row) (n t : Nat) : Int32 := sumTo (fun c => bi (pTk g c t) (gB g c t)) n
def sVo (g : Row) (n t w : Nat) : Int32 := sumTo (fun s => sVoiced g n (Int32.ofNat s) t) w
theorem voAll_eq : ∀ {n : Nat}, (∀ c, c < n → ∃ s, s < 5 ∧ gS g c = Int32.ofNat s) → sVo g n t 5 = sFr g n t
  | 0, _ => rfl
  | n + 1, hS => by
    have ih := voAll_eq (n := n) (fun c hc => hS c (by omega))
    obtain ⟨s, hs, e⟩ := hS n (by omega)
    have e1 : sVo g (n + 1) t 5 = sVo g n t 5 + (bi (decide (gS g n = Int32.ofNat 0) && pTk g n t) (gB g n t) + bi (decide (gS g n = Int32.ofNat 1) && pTk g n t) (gB g n t) + bi (decide (gS g n = Int32.ofNat 2) && pTk g n t) (gB g n t) + bi (decide (gS g n = Int32.ofNat 3) && pTk g n t) (gB g n t) + bi (decide (gS g n = Int32.ofNat 4) && pTk g n t) (gB g n t)) := ad5 _ _ _ _ _ _ _ _ _ _ _
    rw [e1, ih, e, bi_5 s hs]
    rfl
theorem nx_rs : ∀ {i j : Nat}, nxTo g t i = some j → gRs g j t = 0
  | 0, _, h => by simp [nxTo] at h
  | i + 1, j, h => by
    unfold nxTo at h
    cases e : nxTo g t i with
    | none =>
      rw [e] at h
      simp only at h
      split at h
      · cases h
        assumption
      · cases h
    | some k =>
      have hk := nx_rs e
      rw [e] at h
      simp only at h
      split at h
      · split at h
        · cases h
          exact hk
        · cases h
          assumption
      · cases h
        exact hk
/-- sessions: fewer than 26 -/
theorem go_26 (i : Inv g n) : ∃ m, m < 26 ∧ gGo g n s t = Int32.ofNat m := by
  have hn2 := i.1.2
  have h1 := rdM_le g (Int32.ofNat s) t n
  have h2 := Gr_le (b := rdB g (Int32.ofNat s) t n) (st := gST g s t) (sm := gSA g s t) (rdM g (Int32.ofNat s) t n)
  unfold gGo
  split
  · exact ⟨0, by decide, rfl⟩
  · exact ⟨_, by omega, rfl⟩
theorem sMany_n (a : Int32) : ∃ m, m ≤ n ∧ sMany g n a = Int32.ofNat m ∧ (m = 0 ↔ ∀ c, c < n → decide (gR g c = a) = false) := ⟨_, cnt_le _ n, cnt_sum _ n, cnt_0⟩
theorem sLong_n (i : Inv g n) (a : Int32) : ∀ k, k ≤ n → ∃ m, m ≤ 60 * k ∧ sLong g k a = Int32.ofNat m
  | 0, _ => ⟨0, by decide, rfl⟩
  | k + 1, hk => by
    obtain ⟨m, hm, e⟩ := sLong_n i a k (by omega)
    obtain ⟨l, y, h1, h2, -, -, e1, -⟩ := (i.2.1 k (by omega)).2.2.1
    have e2 : sLong g (k + 1) a = sLong g k a + bi (decide (gR g k = a)) (gL g k) := rfl
    rw [e2, e, e1]
    cases decide (gR g k = a)
    · exact ⟨m, by omega, Int32.add_zero _⟩
    · exact ⟨m + l, by omega, la _ _⟩
theorem sLong_0 {a : Int32} : ∀ {n : Nat}, (∀ c, c < n → decide (gR g c = a) = false) → sLong g n a = 0
  | 0, _ => rfl
  | n + 1, h => by
    have e2 : sLong g (n + 1) a = sLong g n a + bi (decide (gR g n = a)) (gL g n) := rfl
    rw [e2, sLong_0 (fun c hc => h c (by omega)), h n (by omega)]
    rfl
/-- a reel's clauses and lips -/
theorem reel_n (i : Inv g n) (a : Int32) : ∃ m q, m ≤ 24 ∧ q ≤ 1440 ∧ sMany g n a = Int32.ofNat m ∧ sMany g n a + 100 * sLong g n a = Int32.ofNat (m + 100 * q) ∧ (m = 0 → q = 0) := by
  have hn2 := i.1.2
  obtain ⟨m, hm, e1, h0⟩ := sMany_n (g := g) (n := n) a
  obtain ⟨q, hq, e2⟩ := sLong_n i a n (Nat.le_refl n)
  by_cases hz : m = 0
  · have e3 := sLong_0 (h0.mp hz)
    refine ⟨m, 0, by omega, by omega, e1, ?_, fun _ => rfl⟩
    rw [e1, e3, Int32.mul_zero, Int32.add_zero, Nat.mul_zero, Nat.add_zero]
  · refine ⟨m, q, by omega, by omega, e1, ?_, fun h => absurd h hz⟩
    rw [e1, e2, show (100 : Int32) = Int32.ofNat 100 from rfl, lm, la]
end HP
