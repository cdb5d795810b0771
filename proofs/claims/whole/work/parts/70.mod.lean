/-! the parser: bounds; the reference reads as it does -/
section PV
theorem nx_lt {n : Nat} {u : Nat → Nat} {i : Nat} (h : 1 ≤ nx n u i) : i < n := by
  refine Decidable.byContradiction fun hx => ?_
  rw [nx_out (by omega)] at h
  omega
theorem num_b {n : Nat} {u : Nat → Nat} {a b i : Nat} (ha : a ≤ 10) (hb : 9 ≤ b) (hi : i ≤ n) : i ≤ (numR n u a b i).1 ∧ (numR n u a b i).1 ≤ n ∧ ∀ v, (numR n u a b i).2 = some v → i + 1 ≤ (numR n u a b i).1 ∧ 1 ≤ v ∧ a ≤ v ∧ v ≤ b := by
  unfold numR
  by_cases g : 49 ≤ nx n u i ∧ nx n u i ≤ 57
  · have h1 := nx_lt (n := n) (u := u) (i := i) (by omega)
    rw [if_pos g]
    by_cases g2 : (48 ≤ nx n u (i + 1) ∧ nx n u (i + 1) ≤ 57) ∧ 10 * (nx n u i - 48) + (nx n u (i + 1) - 48) ≤ b
    · have h2 := nx_lt (n := n) (u := u) (i := i + 1) (by omega)
      rw [if_pos g2]
      refine ⟨by show i ≤ i + 2; omega, by show i + 2 ≤ n; omega, fun v hv => ?_⟩
      have e : 10 * (nx n u i - 48) + (nx n u (i + 1) - 48) = v := Option.some.inj hv
      exact ⟨by show i + 1 ≤ i + 2; omega, by omega, by omega, by omega⟩
    · rw [if_neg g2]
      by_cases g3 : nx n u i - 48 < a
      · rw [if_pos g3]
        exact ⟨by show i ≤ i + 1; omega, h1, fun v hv => nomatch hv⟩
      · rw [if_neg g3]
        refine ⟨by show i ≤ i + 1; omega, h1, fun v hv => ?_⟩
        have e : nx n u i - 48 = v := Option.some.inj hv
        exact ⟨Nat.le_refl _, by omega, by omega, by omega⟩
  · rw [if_neg g]
    exact ⟨Nat.le_refl _, hi, fun v hv => nomatch hv⟩
def okR (x : R4) : Prop := x.1 < 4 ∧ x.2.1 < 5 ∧ 4 ≤ x.2.2.1 ∧ x.2.2.1 ≤ 60 ∧ x.2.2.2 ≤ 20
theorem prt3_b {n : Nat} {u : Nat → Nat} {r s l j : Nat} (hj : j ≤ n) (h1 : r < 4) (h2 : s < 5) (h3 : 4 ≤ l) (h4 : l ≤ 60) : j ≤ (prt3 n u r s l j).1 ∧ (prt3 n u r s l j).1 ≤ n ∧ ∀ x, (prt3 n u r s l j).2 = some x → okR x := by
  obtain ⟨a1, a2, a3⟩ := num_b (u := u) (a := 1) (b := 20) (by decide) (by decide) hj
  refine ⟨a1, a2, fun x hx => ?_⟩
  unfold prt3 at hx
  cases e : (numR n u 1 20 j).2 with
  | none =>
    rw [e] at hx
    exact nomatch hx
  | some y =>
    rw [e] at hx
    have := a3 y e
    have e2 : (r, s, l, y) = x := Option.some.inj hx
    rw [← e2]
    exact ⟨h1, h2, h3, h4, this.2.2.2⟩
theorem prt2b_b {n : Nat} {u : Nat → Nat} {r s l j : Nat} (hj : j ≤ n) (h1 : r < 4) (h2 : s < 5) (h3 : 4 ≤ l) (h4 : l ≤ 60) : j ≤ (prt2b n u r s l j).1 ∧ (prt2b n u r s l j).1 ≤ n ∧ ∀ x, (prt2b n u r s l j).2 = some x → okR x := by
  unfold prt2b
  by_cases g : nx n u j = 126
  · have h5 := nx_lt (n := n) (u := u) (i := j) (by omega)
    rw [if_pos g]
    obtain ⟨a1, a2, a3⟩ := prt3_b (u := u) (show j + 1 ≤ n from h5) h1 h2 h3 h4
    exact ⟨by omega, a2, a3⟩
  · rw [if_neg g]
    refine ⟨Nat.le_refl _, hj, fun x hx => ?_⟩
    have e2 : (r, s, l, 0) = x := Option.some.inj hx
    rw [← e2]
    exact ⟨h1, h2, h3, h4, Nat.zero_le _⟩
theorem prt2_b {n : Nat} {u : Nat → Nat} {r s j : Nat} (hj : j ≤ n) (h1 : r < 4) (h2 : s < 5) : j ≤ (prt2 n u r s j).1 ∧ (prt2 n u r s j).1 ≤ n ∧ ∀ x, (prt2 n u r s j).2 = some x → j + 1 ≤ (prt2 n u r s j).1 ∧ okR x := by
  obtain ⟨a1, a2, a3⟩ := num_b (u := u) (a := 4) (b := 60) (by decide) (by decide) hj
  unfold prt2
  rcases e : numR n u 4 60 j with ⟨j', _ | l⟩
  · rw [e] at a1 a2
    exact ⟨a1, a2, fun x hx => nomatch hx⟩
  · rw [e] at a1 a2 a3
    obtain ⟨b1, b2, b3, b4⟩ := a3 l rfl
    obtain ⟨c1, c2, c3⟩ := prt2b_b (n := n) (u := u) (j := j') a2 h1 h2 b3 b4
    refine ⟨Nat.le_trans a1 c1, c2, fun x hx => ⟨Nat.le_trans b1 c1, c3 x hx⟩⟩
theorem prt_b {n : Nat} {u : Nat → Nat} {i : Nat} (hi : i ≤ n) : i ≤ (prtR n u i).1 ∧ (prtR n u i).1 ≤ n ∧ ∀ x, (prtR n u i).2 = some x → i + 3 ≤ (prtR n u i).1 ∧ okR x := by
  unfold prtR
  by_cases g : 48 ≤ nx n u i ∧ nx n u i ≤ 51
  · have h1 := nx_lt (n := n) (u := u) (i := i) (by omega)
    rw [if_pos g]
    unfold prt1
    by_cases g2 : 65 ≤ nx n u (i + 1) ∧ nx n u (i + 1) ≤ 69
    · have h2 := nx_lt (n := n) (u := u) (i := i + 1) (by omega)
      rw [if_pos g2]
      obtain ⟨c1, c2, c3⟩ := prt2_b (u := u) (show i + 1 + 1 ≤ n from h2) (show nx n u i - 48 < 4 by omega) (show nx n u (i + 1) - 65 < 5 by omega)
      exact ⟨by omega, c2, fun x hx => ⟨by have := (c3 x hx).1; omega, (c3 x hx).2⟩⟩
    · rw [if_neg g2]
      exact ⟨by show i ≤ i + 1; omega, h1, fun x hx => nomatch hx⟩
  · rw [if_neg g]
    exact ⟨Nat.le_refl _, hi, fun x hx => nomatch hx⟩
/-- the whole text: where it is wrong; or its parts -/
def whR (n : Nat) (u : Nat → Nat) : Nat → Nat → Nat × Option (List R4)
  | 0, i => (i, none)
  | f + 1, i => match prtR n u i with
    | (j, none) => (j, none)
    | (j, some x) => if j < n then (if u j = 59 then ((whR n u f (j + 1)).1, (whR n u f (j + 1)).2.map fun l => x :: l) else (j, none)) else (j, some [x])
-- the reference
def AgM (X0 X : XH) : Prop := Ag (fun a => decide (a = 123)) X0 X ∧ ∀ k, (k < 8 ∨ 14 ≤ k) → hI X 123 k = hI X0 123 k
theorem AgM.rf {X : XH} : AgM X X := ⟨Ag.rf, fun _ _ => rfl⟩
theorem AgM.f {X0 X : XH} {k : Nat} {v : Int32} (h : AgM X0 X) (h1 : 8 ≤ k) (h2 : k < 14) : AgM X0 (sI X 123 k v) := ⟨h.1.sI (by decide), fun j hj => by
  rw [sI_nk (by omega)]
  exact h.2 j hj⟩
def MX (X0 X : XH) (i : Nat) (w : Int32) : Prop := AgM X0 X ∧ hI X 123 8 = Int32.ofNat i ∧ hI X 123 9 = w
def TxM (X0 : XH) (n : Nat) (u : Nat → Nat) : Prop := Shp X0 ∧ hI X0 123 6 = Int32.ofNat n ∧ n ≤ 60 ∧ ∀ k, k < n → hI X0 128 k = Int32.ofNat (u k) ∧ 33 ≤ u k ∧ u k ≤ 126
variable {X0 X : XH} {n i j : Nat} {u : Nat → Nat} {w : Int32}
theorem MX.f {k : Nat} {v : Int32} (m : MX X0 X i w) (h1 : 10 ≤ k) (h2 : k < 14) : MX X0 (sI X 123 k v) i w := ⟨m.1.f (by omega) h2, by rw [sI_nk (by omega)]; exact m.2.1, by rw [sI_nk (by omega)]; exact m.2.2⟩
theorem MX.sp (m : MX X0 X i w) : MX X0 (sI X 123 8 (Int32.ofNat j)) j w := ⟨m.1.f (by decide) (by decide), sI_at, by rw [sI_nk (by decide)]; exact m.2.2⟩
theorem MX.wr {v : Int32} (m : MX X0 X i w) : MX X0 (sI X 123 9 v) i v := ⟨m.1.f (by decide) (by decide), by rw [sI_nk (by decide)]; exact m.2.1, sI_at⟩
theorem MX.q (m : MX X0 X i w) (tm : TxM X0 n u) : Shp X := m.1.1.shp tm.1
theorem nx_b (tm : TxM X0 n u) : nx n u i ≤ 126 := by
  unfold nx
  split
  · rename_i h
    exact (tm.2.2.2 i h).2.2
  · omega
theorem x_next {K : Int32 → XH → Prop} (tm : TxM X0 n u) (m : MX X0 X i w) (hi : i < 100) : w_X5_next 123 X K = K (Int32.ofNat (nx n u i)) X := by
  have q := m.q tm
  have hn := tm.2.2.1
  have e6 : hI X 123 6 = Int32.ofNat n := (m.1.2 6 (by decide)).trans tm.2.1
  unfold w_X5_next
  simp only [q.t123, q.r123_5, q.t128, q.n128, e6, m.2.1, of_le (show n < 4096 by omega) (show i < 4096 by omega), nc (show i < 4096 by omega), hty_sI, hln_sI, hR_sI, cnd1, cnd2, b2i_0, b2i_1, b2i_z, if_true, if_false, true_and, and_true, true_implies, false_implies, ne_eq, not_false_eq_true, not_true_eq_false, eq_self, true_or, or_true, false_or, or_false, Nat.reduceEqDiff, i10, i20, i30]
  by_cases h : n ≤ i
  · rw [nx_out h]
    simp [h]
  · have e8 : hI X 128 i = Int32.ofNat (u i) := (congrFun (m.1.1.2.2.2.2.2.2 128 (by decide)) i).trans (tm.2.2.2 i (by omega)).1
    rw [nx_of (by omega), e8]
    simp [h, vp_of (show i < 60 by omega) (show 60 < 4096 by decide)]
theorem inQ_n {c lo hi : Nat} (h1 : c < 4096) (h2 : lo < 4096) (h3 : hi < 4096) : inQ (Int32.ofNat c) (Int32.ofNat lo) (Int32.ofNat hi) = decide (lo ≤ c ∧ c ≤ hi) := by
  unfold inQ
  simp only [show (Int32.ofNat c < Int32.ofNat lo) = (c < lo) from of_lt h1 h2, show (Int32.ofNat hi < Int32.ofNat c) = (hi < c) from of_lt h3 h1]
  by_cases g1 : c < lo <;> by_cases g2 : hi < c <;> simp [g1, g2] <;> omega
def Fs (X X1 : XH) : Prop := ∀ k, 10 ≤ k → hI X1 123 k = hI X 123 k
theorem W1 {lo hi : Nat} {K : Int32 → XH → Prop} (tm : TxM X0 n u) (m : MX X0 X i 0) (hi1 : i < 100) (hl : lo < 200) (hh : hi < 200) (hc : lo ≤ nx n u i ∧ nx n u i ≤ hi) (k : ∀ X1, MX X0 X1 (i + 1) 0 → Fs X X1 → K (Int32.ofNat (nx n u i - lo)) X1) : w_X5_within 123 (Int32.ofNat lo) (Int32.ofNat hi) X K := by
  have q := m.q tm
  have hb := nx_b (i := i) tm
  have e9 : hI (sI X 123 9 0) 123 9 = 0 := sI_at
  have e8 : hI (sI X 123 9 0) 123 8 = Int32.ofNat i := m.wr.2.1
  have ed : decide (lo ≤ nx n u i ∧ nx n u i ≤ hi) = true := decide_eq_true hc
  unfold w_X5_within
  rw [x_next tm m hi1]
  simp only [q.t123, m.2.2, x_in, inQ_n (show nx n u i < 4096 by omega) (show lo < 4096 by omega) (show hi < 4096 by omega), ed, w_X5_within_27, e9, e8, of_s, show Int32.ofNat (nx n u i) - Int32.ofNat lo = Int32.ofNat (nx n u i - lo) from sub_of hc.1, hty_sI, hln_sI, hR_sI, cnd1, cnd2, b2i_0, b2i_1, b2i_z, if_true, if_false, true_and, and_true, true_implies, false_implies, ne_eq, not_false_eq_true, not_true_eq_false, eq_self, true_or, or_true, false_or, or_false, Nat.reduceEqDiff, i10, i20, i30]
  refine k _ m.wr.sp (fun j hj => ?_)
  rw [sI_nk (by omega), sI_nk (by omega)]
theorem W2 {lo hi : Nat} {K : Int32 → XH → Prop} (tm : TxM X0 n u) (m : MX X0 X i 0) (hi1 : i < 100) (hl : lo < 200) (hh : hi < 200) (hc : ¬ (lo ≤ nx n u i ∧ nx n u i ≤ hi)) (k : ∀ v X1, MX X0 X1 i 1 → K v X1) : w_X5_within 123 (Int32.ofNat lo) (Int32.ofNat hi) X K := by
  have q := m.q tm
  have hb := nx_b (i := i) tm
  have e9 : hI (sI X 123 9 1) 123 9 = 1 := sI_at
  have e8 : hI (sI X 123 9 1) 123 8 = Int32.ofNat i := m.wr.2.1
  have ed : decide (lo ≤ nx n u i ∧ nx n u i ≤ hi) = false := decide_eq_false hc
  unfold w_X5_within
  rw [x_next tm m hi1]
  simp only [q.t123, m.2.2, x_in, inQ_n (show nx n u i < 4096 by omega) (show lo < 4096 by omega) (show hi < 4096 by omega), ed, w_X5_within_27, e9, e8, Int32.add_zero, hty_sI, hln_sI, hR_sI, cnd1, cnd2, b2i_0, b2i_1, b2i_z, if_true, if_false, true_and, and_true, true_implies, false_implies, ne_eq, not_false_eq_true, not_true_eq_false, eq_self, true_or, or_true, false_or, or_false, Nat.reduceEqDiff, i10, i20, i30]
  exact k _ _ m.wr.sp
theorem W3 {a b : Int32} {K : Int32 → XH → Prop} (tm : TxM X0 n u) (m : MX X0 X i 1) (hi1 : i < 100) (k : ∀ v X1, MX X0 X1 i 1 → K v X1) : w_X5_within 123 a b X K := by
  have q := m.q tm
  have e9 : hI (sI X 123 9 1) 123 9 = 1 := sI_at
  have e8 : hI (sI X 123 9 1) 123 8 = Int32.ofNat i := m.wr.2.1
  unfold w_X5_within
  rw [x_next tm m hi1]
  simp only [q.t123, m.2.2, w_X5_within_27, e9, e8, Int32.add_zero, hty_sI, hln_sI, hR_sI, cnd1, cnd2, b2i_0, b2i_1, b2i_z, if_true, if_false, true_and, and_true, true_implies, false_implies, ne_eq, not_false_eq_true, not_true_eq_false, eq_self, true_or, or_true, false_or, or_false, Nat.reduceEqDiff, i10, i20, i30]
  exact k _ _ m.wr.sp
theorem n57w {a l3 l4 : Int32} {K : Int32 → XH → Prop} (tm : TxM X0 n u) (m : MX X0 X i 1) (k : ∀ v X1, MX X0 X1 i 1 → K v X1) : w_X5_number_57 123 a l3 l4 0 X K := by
  have q := m.q tm
  have e9 : hI (sI X 123 8 (Int32.ofNat i)) 123 9 = 1 := m.sp.2.2
  unfold w_X5_number_57 w_X5_number_74 w_X5_number_96 w_X5_number_100
  simp only [q.t123, m.2.1, Int32.add_zero, e9, hty_sI, hln_sI, hR_sI, cnd1, cnd2, b2i_0, b2i_1, b2i_z, if_true, if_false, true_and, and_true, true_implies, false_implies, ne_eq, not_false_eq_true, not_true_eq_false, eq_self, true_or, or_true, false_or, or_false, Nat.reduceEqDiff, i10, i20, i30]
  exact k _ _ m.sp.wr
theorem n57z {a d : Nat} {l4 : Int32} {K : Int32 → XH → Prop} (tm : TxM X0 n u) (m : MX X0 X i 0) (ha : a < 100) (hd : d < 100) (k1 : d < a → ∀ v X1, MX X0 X1 i 1 → K v X1) (k2 : ¬ d < a → ∀ X1, MX X0 X1 i 0 → Fs X X1 → K (Int32.ofNat d) X1) : w_X5_number_57 123 (Int32.ofNat a) (Int32.ofNat d) l4 0 X K := by
  have q := m.q tm
  have e9 : hI (sI X 123 8 (Int32.ofNat i)) 123 9 = 0 := m.sp.2.2
  unfold w_X5_number_57 w_X5_number_74 w_X5_number_96 w_X5_number_100
  simp only [q.t123, m.2.1, Int32.add_zero, e9, of_le (show a < 4096 by omega) (show d < 4096 by omega), hty_sI, hln_sI, hR_sI, cnd1, cnd2, b2i_0, b2i_1, b2i_z, if_true, if_false, true_and, and_true, true_implies, false_implies, ne_eq, not_false_eq_true, not_true_eq_false, eq_self, true_or, or_true, false_or, or_false, Nat.reduceEqDiff, i10, i20, i30]
  by_cases h : a ≤ d
  · rw [if_pos h]
    refine k2 (by omega) _ m.sp.wr (fun j hj => ?_)
    rw [sI_nk (by omega), sI_nk (by omega)]
  · rw [if_neg h]
    exact k1 (by omega) _ _ m.sp.wr
theorem n57o {a l3 l4 : Int32} {K : Int32 → XH → Prop} (tm : TxM X0 n u) (m : MX X0 X i 0) (k2 : ∀ X1, MX X0 X1 (i + 1) 0 → Fs X X1 → K l4 X1) : w_X5_number_57 123 a l3 l4 1 X K := by
  have q := m.q tm
  have e9 : hI (sI X 123 8 (Int32.ofNat (i + 1))) 123 9 = 0 := m.sp.2.2
  unfold w_X5_number_57 w_X5_number_74 w_X5_number_96 w_X5_number_100
  simp only [q.t123, m.2.1, of_s, e9, hty_sI, hln_sI, hR_sI, cnd1, cnd2, b2i_0, b2i_1, b2i_z, if_true, if_false, true_and, and_true, true_implies, false_implies, ne_eq, not_false_eq_true, not_true_eq_false, eq_self, true_or, or_true, false_or, or_false, Nat.reduceEqDiff, i10, i20, i30]
  refine k2 _ m.sp.wr (fun j hj => ?_)
  rw [sI_nk (by omega), sI_nk (by omega)]
theorem Nw {a b : Int32} {K : Int32 → XH → Prop} (tm : TxM X0 n u) (m : MX X0 X i 1) (hi1 : i < 100) (k : ∀ v X1, MX X0 X1 i 1 → K v X1) : w_X5_number 123 a b X K := by
  unfold w_X5_number
  have q := m.q tm
  simp only [q.t123, hty_sI, hln_sI, hR_sI, cnd1, cnd2, b2i_0, b2i_1, b2i_z, if_true, if_false, true_and, and_true, true_implies, false_implies, ne_eq, not_false_eq_true, not_true_eq_false, eq_self, true_or, or_true, false_or, or_false, Nat.reduceEqDiff, i10, i20, i30]
  refine W3 tm m hi1 (fun v X1 m1 => ?_)
  have q1 := m1.q tm
  simp only [q1.t123, x_next tm m1 hi1, m1.2.2, hty_sI, hln_sI, hR_sI, cnd1, cnd2, b2i_0, b2i_1, b2i_z, if_true, if_false, true_and, and_true, true_implies, false_implies, ne_eq, not_false_eq_true, not_true_eq_false, eq_self, true_or, or_true, false_or, or_false, Nat.reduceEqDiff, i10, i20, i30]
  exact n57w tm m1 k
theorem Nm {a b : Nat} {K : Int32 → XH → Prop} (tm : TxM X0 n u) (m : MX X0 X i 0) (hi1 : i < 90) (ha : a < 100) (hb : b < 100) (kn : ∀ v X1, (numR n u a b i).2 = none → MX X0 X1 (numR n u a b i).1 1 → K v X1) (ks : ∀ v X1, (numR n u a b i).2 = some v → MX X0 X1 (numR n u a b i).1 0 → Fs X X1 → K (Int32.ofNat v) X1) : w_X5_number 123 (Int32.ofNat a) (Int32.ofNat b) X K := by
  have b0 := nx_b (i := i) tm
  have b1 := nx_b (i := i + 1) tm
  unfold w_X5_number
  have q := m.q tm
  simp only [q.t123, hty_sI, hln_sI, hR_sI, cnd1, cnd2, b2i_0, b2i_1, b2i_z, if_true, if_false, true_and, and_true, true_implies, false_implies, ne_eq, not_false_eq_true, not_true_eq_false, eq_self, true_or, or_true, false_or, or_false, Nat.reduceEqDiff, i10, i20, i30]
  unfold numR at kn ks
  by_cases g : 49 ≤ nx n u i ∧ nx n u i ≤ 57
  · rw [if_pos g] at kn ks
    refine W1 (lo := 49) (hi := 57) tm m (by omega) (by decide) (by decide) g (fun X1 m1 f1 => ?_)
    have q1 := m1.q tm
    have ed : (1 : Int32) + Int32.ofNat (nx n u i - 49) = Int32.ofNat (nx n u i - 48) := by
      rw [show (1 : Int32) = Int32.ofNat 1 from rfl, ← Int32.ofNat_add]
      exact congrArg Int32.ofNat (by omega)
    have eI : inQ (Int32.ofNat (nx n u (i + 1))) 48 57 = decide (48 ≤ nx n u (i + 1) ∧ nx n u (i + 1) ≤ 57) := inQ_n (lo := 48) (hi := 57) (by omega) (by decide) (by decide)
    simp only [q1.t123, x_next tm m1 (show i + 1 < 100 by omega), m1.2.2, ed, x_in, eI, hty_sI, hln_sI, hR_sI, cnd1, cnd2, b2i_0, b2i_1, b2i_z, if_true, if_false, true_and, and_true, true_implies, false_implies, ne_eq, not_false_eq_true, not_true_eq_false, eq_self, true_or, or_true, false_or, or_false, Nat.reduceEqDiff, i10, i20, i30]
    by_cases g2 : 48 ≤ nx n u (i + 1) ∧ nx n u (i + 1) ≤ 57
    · have ev : 10 * Int32.ofNat (nx n u i - 48) + Int32.ofNat (nx n u (i + 1)) - 48 = Int32.ofNat (10 * (nx n u i - 48) + (nx n u (i + 1) - 48)) := by
        rw [show (48 : Int32) = Int32.ofNat 48 from rfl, show (10 : Int32) = Int32.ofNat 10 from rfl, ← Int32.ofNat_mul, ← Int32.ofNat_add, sub_of (by omega)]
        exact congrArg Int32.ofNat (by omega)
      simp only [decide_eq_true g2, ev, ltk (show b < 4096 by omega) (show 10 * (nx n u i - 48) + (nx n u (i + 1) - 48) < 4096 by omega), hty_sI, hln_sI, hR_sI, cnd1, cnd2, b2i_0, b2i_1, b2i_z, if_true, if_false, true_and, and_true, true_implies, false_implies, ne_eq, not_false_eq_true, not_true_eq_false, eq_self, true_or, or_true, false_or, or_false, Nat.reduceEqDiff, i10, i20, i30]
      by_cases g3 : b < 10 * (nx n u i - 48) + (nx n u (i + 1) - 48)
      · rw [if_neg (by omega)] at kn ks
        rw [if_pos g3]
        refine n57z tm m1 ha (by omega) (fun h v X2 m2 => ?_) (fun h X2 m2 f2 => ?_)
        · rw [if_pos h] at kn
          exact kn v X2 rfl m2
        · rw [if_neg h] at ks
          exact ks _ X2 rfl m2 (fun k hk => (f2 k hk).trans (f1 k hk))
      · rw [if_pos ⟨g2, by omega⟩] at ks
        rw [if_neg g3]
        exact n57o tm m1 (fun X2 m2 f2 => ks _ X2 rfl m2 (fun k hk => (f2 k hk).trans (f1 k hk)))
    · rw [if_neg (fun h => g2 h.1)] at kn ks
      simp only [decide_eq_false g2, hty_sI, hln_sI, hR_sI, cnd1, cnd2, b2i_0, b2i_1, b2i_z, if_true, if_false, true_and, and_true, true_implies, false_implies, ne_eq, not_false_eq_true, not_true_eq_false, eq_self, true_or, or_true, false_or, or_false, Nat.reduceEqDiff, i10, i20, i30]
      refine n57z tm m1 ha (by omega) (fun h v X2 m2 => ?_) (fun h X2 m2 f2 => ?_)
      · rw [if_pos h] at kn
        exact kn v X2 rfl m2
      · rw [if_neg h] at ks
        exact ks _ X2 rfl m2 (fun k hk => (f2 k hk).trans (f1 k hk))
  · rw [if_neg g] at kn ks
    refine W2 (lo := 49) (hi := 57) tm m (by omega) (by decide) (by decide) g (fun v X1 m1 => ?_)
    have q1 := m1.q tm
    simp only [q1.t123, x_next tm m1 (show i < 100 by omega), m1.2.2, hty_sI, hln_sI, hR_sI, cnd1, cnd2, b2i_0, b2i_1, b2i_z, if_true, if_false, true_and, and_true, true_implies, false_implies, ne_eq, not_false_eq_true, not_true_eq_false, eq_self, true_or, or_true, false_or, or_false, Nat.reduceEqDiff, i10, i20, i30]
    exact n57w tm m1 (fun v X2 m2 => kn v X2 rfl m2)
def fldAt (X : XH) (x : R4) : Prop := hI X 123 10 = Int32.ofNat x.1 ∧ hI X 123 11 = Int32.ofNat x.2.1 ∧ hI X 123 12 = Int32.ofNat x.2.2.1 ∧ hI X 123 13 = Int32.ofNat x.2.2.2
theorem Pt {K : XH → Prop} (tm : TxM X0 n u) (m : MX X0 X i 0) (hi1 : i < 70) (kn : ∀ X1, (prtR n u i).2 = none → MX X0 X1 (prtR n u i).1 1 → K X1) (ks : ∀ x X1, (prtR n u i).2 = some x → MX X0 X1 (prtR n u i).1 0 → fldAt X1 x → K X1) : w_X5_part 123 X K := by
  have q := m.q tm
  have hn := tm.2.2.1
  unfold w_X5_part
  simp only [q.t123, hty_sI, hln_sI, hR_sI, cnd1, cnd2, b2i_0, b2i_1, b2i_z, if_true, if_false, true_and, and_true, true_implies, false_implies, ne_eq, not_false_eq_true, not_true_eq_false, eq_self, true_or, or_true, false_or, or_false, Nat.reduceEqDiff, i10, i20, i30]
  unfold prtR at kn ks
  by_cases g : 48 ≤ nx n u i ∧ nx n u i ≤ 51
  rotate_left
  · rw [if_neg g] at kn
    refine W2 (lo := 48) (hi := 51) tm m (by omega) (by decide) (by decide) g (fun v X1 m1 => ?_)
    have q1 := m1.q tm
    simp only [q1.t123, hty_sI, hln_sI, hR_sI, cnd1, cnd2, b2i_0, b2i_1, b2i_z, if_true, if_false, true_and, and_true, true_implies, false_implies, ne_eq, not_false_eq_true, not_true_eq_false, eq_self, true_or, or_true, false_or, or_false, Nat.reduceEqDiff, i10, i20, i30]
    refine W3 tm (m1.f (by decide) (by decide)) (by omega) (fun v2 X2 m2 => ?_)
    have q2 := m2.q tm
    simp only [q2.t123, hty_sI, hln_sI, hR_sI, cnd1, cnd2, b2i_0, b2i_1, b2i_z, if_true, if_false, true_and, and_true, true_implies, false_implies, ne_eq, not_false_eq_true, not_true_eq_false, eq_self, true_or, or_true, false_or, or_false, Nat.reduceEqDiff, i10, i20, i30]
    refine Nw tm (m2.f (by decide) (by decide)) (by omega) (fun v3 X3 m3 => ?_)
    have q3 := m3.q tm
    have m4 := (m3.f (k := 12) (v := v3) (by decide) (by decide)).f (k := 13) (v := 0) (by decide) (by decide)
    simp only [q3.t123, m4.2.2, hty_sI, hln_sI, hR_sI, cnd1, cnd2, b2i_0, b2i_1, b2i_z, if_true, if_false, true_and, and_true, true_implies, false_implies, ne_eq, not_false_eq_true, not_true_eq_false, eq_self, true_or, or_true, false_or, or_false, Nat.reduceEqDiff, i10, i20, i30]
    exact kn _ rfl m4
  rw [if_pos g] at kn ks
  have g0 := nx_lt (n := n) (u := u) (i := i) (by omega)
  refine W1 (lo := 48) (hi := 51) tm m (by omega) (by decide) (by decide) g (fun X1 m1 f1 => ?_)
  have q1 := m1.q tm
  simp only [q1.t123, hty_sI, hln_sI, hR_sI, cnd1, cnd2, b2i_0, b2i_1, b2i_z, if_true, if_false, true_and, and_true, true_implies, false_implies, ne_eq, not_false_eq_true, not_true_eq_false, eq_self, true_or, or_true, false_or, or_false, Nat.reduceEqDiff, i10, i20, i30]
  have m1' := m1.f (k := 10) (v := Int32.ofNat (nx n u i - 48)) (by decide) (by decide)
  have a10 : hI (sI X1 123 10 (Int32.ofNat (nx n u i - 48))) 123 10 = Int32.ofNat (nx n u i - 48) := sI_at
  generalize sI X1 123 10 (Int32.ofNat (nx n u i - 48)) = X1' at m1' a10 ⊢
  unfold prt1 at kn ks
  by_cases g2 : 65 ≤ nx n u (i + 1) ∧ nx n u (i + 1) ≤ 69
  rotate_left
  · rw [if_neg g2] at kn
    refine W2 (lo := 65) (hi := 69) tm m1' (by omega) (by decide) (by decide) g2 (fun v2 X2 m2 => ?_)
    have q2 := m2.q tm
    simp only [q2.t123, hty_sI, hln_sI, hR_sI, cnd1, cnd2, b2i_0, b2i_1, b2i_z, if_true, if_false, true_and, and_true, true_implies, false_implies, ne_eq, not_false_eq_true, not_true_eq_false, eq_self, true_or, or_true, false_or, or_false, Nat.reduceEqDiff, i10, i20, i30]
    refine Nw tm (m2.f (by decide) (by decide)) (by omega) (fun v3 X3 m3 => ?_)
    have q3 := m3.q tm
    have m4 := (m3.f (k := 12) (v := v3) (by decide) (by decide)).f (k := 13) (v := 0) (by decide) (by decide)
    simp only [q3.t123, m4.2.2, hty_sI, hln_sI, hR_sI, cnd1, cnd2, b2i_0, b2i_1, b2i_z, if_true, if_false, true_and, and_true, true_implies, false_implies, ne_eq, not_false_eq_true, not_true_eq_false, eq_self, true_or, or_true, false_or, or_false, Nat.reduceEqDiff, i10, i20, i30]
    exact kn _ rfl m4
  rw [if_pos g2] at kn ks
  have g3 := nx_lt (n := n) (u := u) (i := i + 1) (by omega)
  refine W1 (lo := 65) (hi := 69) tm m1' (by omega) (by decide) (by decide) g2 (fun X2 m2 f2 => ?_)
  have q2 := m2.q tm
  simp only [q2.t123, hty_sI, hln_sI, hR_sI, cnd1, cnd2, b2i_0, b2i_1, b2i_z, if_true, if_false, true_and, and_true, true_implies, false_implies, ne_eq, not_false_eq_true, not_true_eq_false, eq_self, true_or, or_true, false_or, or_false, Nat.reduceEqDiff, i10, i20, i30]
  have m2' := m2.f (k := 11) (v := Int32.ofNat (nx n u (i + 1) - 65)) (by decide) (by decide)
  have b10 : hI (sI X2 123 11 (Int32.ofNat (nx n u (i + 1) - 65))) 123 10 = Int32.ofNat (nx n u i - 48) := by
    rw [sI_nk (by decide)]
    exact (f2 10 (by decide)).trans a10
  have b11 : hI (sI X2 123 11 (Int32.ofNat (nx n u (i + 1) - 65))) 123 11 = Int32.ofNat (nx n u (i + 1) - 65) := sI_at
  generalize sI X2 123 11 (Int32.ofNat (nx n u (i + 1) - 65)) = X2' at m2' b10 b11 ⊢
  unfold prt2 at kn ks
  have nb := num_b (u := u) (a := 4) (b := 60) (by decide) (by decide) (show i + 1 + 1 ≤ n from g3)
  refine Nm (a := 4) (b := 60) tm m2' (by omega) (by decide) (by decide) (fun v3 X3 e3 m3 => ?_) (fun v3 X3 e3 m3 f3 => ?_)
  · have q3 := m3.q tm
    have m4 := (m3.f (k := 12) (v := v3) (by decide) (by decide)).f (k := 13) (v := 0) (by decide) (by decide)
    simp only [q3.t123, m4.2.2, hty_sI, hln_sI, hR_sI, cnd1, cnd2, b2i_0, b2i_1, b2i_z, if_true, if_false, true_and, and_true, true_implies, false_implies, ne_eq, not_false_eq_true, not_true_eq_false, eq_self, true_or, or_true, false_or, or_false, Nat.reduceEqDiff, i10, i20, i30]
    rcases e : numR n u 4 60 (i + 1 + 1) with ⟨j', o'⟩
    rw [e] at kn e3 m4
    simp only at e3
    subst e3
    exact kn _ rfl m4
  have q3 := m3.q tm
  have m4 := (m3.f (k := 12) (v := Int32.ofNat v3) (by decide) (by decide)).f (k := 13) (v := 0) (by decide) (by decide)
  have c10 : hI (sI (sI X3 123 12 (Int32.ofNat v3)) 123 13 0) 123 10 = Int32.ofNat (nx n u i - 48) := by
    rw [sI_nk (by decide), sI_nk (by decide)]
    exact (f3 10 (by decide)).trans b10
  have c11 : hI (sI (sI X3 123 12 (Int32.ofNat v3)) 123 13 0) 123 11 = Int32.ofNat (nx n u (i + 1) - 65) := by
    rw [sI_nk (by decide), sI_nk (by decide)]
    exact (f3 11 (by decide)).trans b11
  have c12 : hI (sI (sI X3 123 12 (Int32.ofNat v3)) 123 13 0) 123 12 = Int32.ofNat v3 := by
    rw [sI_nk (by decide)]
    exact sI_at
  have c13 : hI (sI (sI X3 123 12 (Int32.ofNat v3)) 123 13 0) 123 13 = 0 := sI_at
  simp only [q3.t123, m4.2.2, hty_sI, hln_sI, hR_sI, cnd1, cnd2, b2i_0, b2i_1, b2i_z, if_true, if_false, true_and, and_true, true_implies, false_implies, ne_eq, not_false_eq_true, not_true_eq_false, eq_self, true_or, or_true, false_or, or_false, Nat.reduceEqDiff, i10, i20, i30]
  generalize sI (sI X3 123 12 (Int32.ofNat v3)) 123 13 0 = X4 at m4 c10 c11 c12 c13 ⊢
  rcases e : numR n u 4 60 (i + 1 + 1) with ⟨j', o'⟩
  rw [e] at kn ks e3 m4 nb
  simp only at e3 m4 nb
  subst e3
  obtain ⟨nb1, nb2, nb3⟩ := nb
  have q4 := m4.q tm
  have bj := nx_b (i := j') tm
  simp only [x_next tm m4 (show j' < 100 by omega), show (Int32.ofNat (nx n u j') = 126) = (nx n u j' = 126) from of_inj (j := 126) (by omega) (by decide), hty_sI, hln_sI, hR_sI, cnd1, cnd2, b2i_0, b2i_1, b2i_z, if_true, if_false, true_and, and_true, true_implies, false_implies, ne_eq, not_false_eq_true, not_true_eq_false, eq_self, true_or, or_true, false_or, or_false, Nat.reduceEqDiff, i10, i20, i30]
  simp only [prt2b] at kn ks
  by_cases g4 : nx n u j' = 126
  · rw [if_pos g4] at kn ks
    have g5 := nx_lt (n := n) (u := u) (i := j') (by omega)
    simp only [g4, q4.t123, m4.2.1, of_s, hty_sI, hln_sI, hR_sI, cnd1, cnd2, b2i_0, b2i_1, b2i_z, if_true, if_false, true_and, and_true, true_implies, false_implies, ne_eq, not_false_eq_true, not_true_eq_false, eq_self, true_or, or_true, false_or, or_false, Nat.reduceEqDiff, i10, i20, i30]
    have m5 : MX X0 (sI X4 123 8 (Int32.ofNat (j' + 1))) (j' + 1) 0 := m4.sp
    refine Nm (a := 1) (b := 20) tm m5 (by omega) (by decide) (by decide) (fun v6 X6 e6 m6 => ?_) (fun v6 X6 e6 m6 f6 => ?_)
    · have q6 := m6.q tm
      simp only [q6.t123, hty_sI, hln_sI, hR_sI, cnd1, cnd2, b2i_0, b2i_1, b2i_z, if_true, if_false, true_and, and_true, true_implies, false_implies, ne_eq, not_false_eq_true, not_true_eq_false, eq_self, true_or, or_true, false_or, or_false, Nat.reduceEqDiff, i10, i20, i30]
      refine kn _ ?_ (m6.f (by decide) (by decide))
      unfold prt3
      rw [e6]
      rfl
    · have q6 := m6.q tm
      simp only [q6.t123, hty_sI, hln_sI, hR_sI, cnd1, cnd2, b2i_0, b2i_1, b2i_z, if_true, if_false, true_and, and_true, true_implies, false_implies, ne_eq, not_false_eq_true, not_true_eq_false, eq_self, true_or, or_true, false_or, or_false, Nat.reduceEqDiff, i10, i20, i30]
      refine ks (nx n u i - 48, nx n u (i + 1) - 65, v3, v6) _ ?_ (m6.f (by decide) (by decide)) ⟨?_, ?_, ?_, sI_at⟩
      · unfold prt3
        rw [e6]
        rfl
      · rw [sI_nk (by decide)]
        exact (f6 10 (by decide)).trans ((sI_nk (by decide)).trans c10)
      · rw [sI_nk (by decide)]
        exact (f6 11 (by decide)).trans ((sI_nk (by decide)).trans c11)
      · rw [sI_nk (by decide)]
        exact (f6 12 (by decide)).trans ((sI_nk (by decide)).trans c12)
  · rw [if_neg g4] at ks
    simp only [g4, hty_sI, hln_sI, hR_sI, cnd1, cnd2, b2i_0, b2i_1, b2i_z, if_true, if_false, true_and, and_true, true_implies, false_implies, ne_eq, not_false_eq_true, not_true_eq_false, eq_self, true_or, or_true, false_or, or_false, Nat.reduceEqDiff, i10, i20, i30]
    exact ks (nx n u i - 48, nx n u (i + 1) - 65, v3, 0) X4 rfl m4 ⟨c10, c11, c12, c13⟩
end PV
