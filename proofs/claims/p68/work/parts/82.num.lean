/-! the law's numbers told by natural ones -/
section NM
theorem lm (a b : Nat) : Int32.ofNat a * Int32.ofNat b = Int32.ofNat (a * b) := (Int32.ofNat_mul a b).symm
theorem la (a b : Nat) : Int32.ofNat a + Int32.ofNat b = Int32.ofNat (a + b) := (Int32.ofNat_add a b).symm
variable {g : Row} {n c t r s : Nat}
theorem vCl_n (i : Inc g c) : ∃ r s l y, r < 4 ∧ s < 5 ∧ 4 ≤ l ∧ l ≤ 60 ∧ y ≤ 20 ∧ y ≤ l ∧ gR g c = Int32.ofNat r ∧ gS g c = Int32.ofNat s ∧ gL g c = Int32.ofNat l ∧ gH g c = Int32.ofNat y ∧ vCl g c = Int32.ofNat (r + 4 * s + 32 * l + 2048 * y) := by
  obtain ⟨⟨r, hr, e1⟩, ⟨s, hs, e2⟩, ⟨l, y, h1, h2, h3, h4, e3, e4⟩, -⟩ := i
  refine ⟨r, s, l, y, hr, hs, h1, h2, h3, h4, e1, e2, e3, e4, ?_⟩
  unfold vCl
  rw [e1, e2, e3, e4, show (4 : Int32) = Int32.ofNat 4 from rfl, show (32 : Int32) = Int32.ofNat 32 from rfl, show (2048 : Int32) = Int32.ofNat 2048 from rfl, lm, lm, lm, la, la, la]
theorem vCl_r (i : Inc g c) : ∃ r, r < 4 ∧ gR g c = Int32.ofNat r ∧ vCl g c - vCl g c / (4 : Int32) * (4 : Int32) = Int32.ofNat r := by
  obtain ⟨r, s, l, y, hr, hs, h1, h2, h3, h4, e1, e2, e3, e4, e⟩ := vCl_n i
  refine ⟨r, hr, e1, ?_⟩
  rw [e]
  refine (nr (b := 4) (by omega) (by decide)).trans ?_
  congr 1
  omega
theorem vCl_l (i : Inc g c) : (vCl g c / (32 : Int32)) - (vCl g c / (32 : Int32)) / (64 : Int32) * (64 : Int32) = gL g c ∧ vCl g c / (2048 : Int32) = gH g c := by
  obtain ⟨r, s, l, y, hr, hs, h1, h2, h3, h4, e1, e2, e3, e4, e⟩ := vCl_n i
  have e5 : vCl g c / (32 : Int32) = Int32.ofNat ((r + 4 * s + 32 * l + 2048 * y) / 32) := by
    rw [e]
    exact nd (b := 32) (by omega) (by decide)
  have e6 : vCl g c / (2048 : Int32) = Int32.ofNat ((r + 4 * s + 32 * l + 2048 * y) / 2048) := by
    rw [e]
    exact nd (b := 2048) (by omega) (by decide)
  rw [e5, e6, e3, e4]
  refine ⟨(nr (b := 64) (by omega) (by decide)).trans ?_, ?_⟩
  · congr 1
    omega
  · congr 1
    omega
theorem b2n (p : Bool) : b2i p = Int32.ofNat (if p = true then 1 else 0) := by cases p <;> rfl
theorem bi2 (p : Bool) : bi p 2 = Int32.ofNat (if p = true then 2 else 0) := by cases p <;> rfl
theorem mx_n : ∃ S Q, S ≤ 5 ∧ Q ≤ 5 ∧ sSigs g r t = Int32.ofNat S ∧ sMiss g n r t = Int32.ofNat Q ∧ vMx g n r t = Int32.ofNat ((if pWh g n (Int32.ofNat r) t = true then 1 else 0) + (if pMx g r t = true then 2 else 0) + 10 * S + 100 * Q) := by
  have e1 : sSigs g r t = Int32.ofNat (cntTo (fun s => pSg g s r t) 5) := cnt_sum _ 5
  have e2 : sMiss g n r t = Int32.ofNat (cntTo (fun s => pHd g n (Int32.ofNat s) (Int32.ofNat r) && !(pSg g s r t)) 5) := cnt_sum _ 5
  refine ⟨_, _, cnt_le _ 5, cnt_le _ 5, e1, e2, ?_⟩
  unfold vMx
  rw [e1, e2, b2n, bi2, show (10 : Int32) = Int32.ofNat 10 from rfl, show (100 : Int32) = Int32.ofNat 100 from rfl, lm, lm, la, la, la]
/-- complete, and mixed or not: the last digit -/
theorem mx_d : vMx g n r t - vMx g n r t / (10 : Int32) * (10 : Int32) = Int32.ofNat ((if pWh g n (Int32.ofNat r) t = true then 1 else 0) + (if pMx g r t = true then 2 else 0)) := by
  obtain ⟨S, Q, h1, h2, -, -, e⟩ := mx_n (g := g) (n := n) (r := r) (t := t)
  rw [e]
  have hx : (if pWh g n (Int32.ofNat r) t = true then 1 else 0) + (if pMx g r t = true then 2 else 0) ≤ 3 := by
    split <;> split <;> omega
  refine (nr (b := 10) (by omega) (by decide)).trans ?_
  congr 1
  omega
theorem mw {B : Nat} (i : Inv g n) (h : Hg B g n) (hr : r < 4) (ht : t < 3) (hp : pMx g r t = true) : pWh g n (Int32.ofNat r) t = true := (pWh_iff i.1.2).mpr ((h.2.2.1 r hr t ht).1 (of_decide_eq_true hp))
theorem neg_y {Y : Nat} (hY : Y < 100000) : ((-1 : Int32) - Int32.ofNat Y) < 0 := by
  rw [Int32.lt_iff_toInt_lt, t0, sub_toInt, Int32.toInt_ofNat_of_lt (by omega)]
  · show (-1 : Int) - _ < 0
    omega
  · rw [Int32.toInt_ofNat_of_lt (by omega)]
    show -(2 ^ 31) ≤ (-1 : Int) - _
    omega
  · rw [Int32.toInt_ofNat_of_lt (by omega)]
    show (-1 : Int) - _ < 2 ^ 31
    omega
theorem not_lt0 {x : Nat} (hx : x < 2147483648) : ¬ (Int32.ofNat x < 0) := by
  rw [Int32.lt_iff_toInt_lt, t0, Int32.toInt_ofNat_of_lt (by omega)]
  omega
theorem in_neg {a : Int32} (h : a < 0) : inT a = false ∧ inR a = false ∧ inS a = false ∧ ∀ m, inC m a = false := by
  unfold inT inR inS inC
  simp [h]
theorem big_lt {x k : Nat} (hx : x < 2147483648) (hk : k ≤ x) (hk2 : k < 4096) : ¬ (Int32.ofNat x < Int32.ofNat k) := by
  rw [Int32.lt_iff_toInt_lt, Int32.toInt_ofNat_of_lt (by omega), Int32.toInt_ofNat_of_lt (by omega)]
  omega
theorem big_le {x k : Nat} (hx : x < 2147483648) (hk : k < x) (hk2 : k < 4096) : ¬ (Int32.ofNat x ≤ Int32.ofNat k) := by
  rw [Int32.le_iff_toInt_le, Int32.toInt_ofNat_of_lt (by omega), Int32.toInt_ofNat_of_lt (by omega)]
  omega
theorem inT_big {x : Nat} (hx : x < 2147483648) (h : 3 ≤ x) : inT (Int32.ofNat x) = false := by
  unfold inT
  have : ¬ (Int32.ofNat x < 3) := big_lt (k := 3) hx h (by decide)
  rw [decide_eq_false this, Bool.and_false]
theorem inR_big {x : Nat} (hx : x < 2147483648) (h : 4 ≤ x) : inR (Int32.ofNat x) = false := by
  unfold inR
  have : ¬ (Int32.ofNat x < 4) := big_lt (k := 4) hx h (by decide)
  rw [decide_eq_false this, Bool.and_false]
theorem inS_big {x : Nat} (hx : x < 2147483648) (h : 5 ≤ x) : inS (Int32.ofNat x) = false := by
  unfold inS
  have : ¬ (Int32.ofNat x < 5) := big_lt (k := 5) hx h (by decide)
  rw [decide_eq_false this, Bool.and_false]
theorem inC_big {x : Nat} (hx : x < 2147483648) (hn : Cn g n) (h : n ≤ x) : inC (g 366) (Int32.ofNat x) = false := by
  have h9 := hn.2
  unfold inC
  rw [hn.1]
  have := big_lt hx h (by omega)
  simp [this]
theorem inG_big {x lo hi : Nat} (hx : x < 2147483648) (h : hi < x) (hh : hi < 4096) : inG (Int32.ofNat x) (Int32.ofNat lo) (Int32.ofNat hi) = false := by
  unfold inG
  have := big_le hx h hh
  simp [this]
theorem inG_lo {a : Int32} {lo hi : Nat} (h : a < Int32.ofNat lo) : inG a (Int32.ofNat lo) (Int32.ofNat hi) = false := by
  unfold inG
  simp [h]
theorem sub_lo {k Y m : Nat} (hY : Y < 100000) (hk : k < m) (hm : m < 4096) : Int32.ofNat k - Int32.ofNat Y < Int32.ofNat m := by
  rw [Int32.lt_iff_toInt_lt, sub_toInt, Int32.toInt_ofNat_of_lt (by omega), Int32.toInt_ofNat_of_lt (by omega), Int32.toInt_ofNat_of_lt (by omega)]
  · omega
  · rw [Int32.toInt_ofNat_of_lt (by omega), Int32.toInt_ofNat_of_lt (by omega)]
    omega
  · rw [Int32.toInt_ofNat_of_lt (by omega), Int32.toInt_ofNat_of_lt (by omega)]
    omega
end NM
