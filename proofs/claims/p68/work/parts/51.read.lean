/-! reading: one element, the class's getters,  getters -/
section PC
theorem cnd1 {p A B : Prop} [Decidable p] : ((p → A) ∧ (¬ p → B)) = (if p then A else B) := by by_cases h : p <;> simp [h]
theorem cnd2 {p A B : Prop} [Decidable p] : ((¬ p → A) ∧ (p → B)) = (if p then B else A) := by by_cases h : p <;> simp [h]
def b01 (p : Prop) [Decidable p] : Int32 := if p then 1 else 0
theorem b01_0 {p : Prop} [Decidable p] : (b01 p = 0) = (¬ p) := by unfold b01; by_cases h : p <;> simp [h]
theorem b01_1 {p : Prop} [Decidable p] : (b01 p = 1) = p := by unfold b01; by_cases h : p <;> simp [h]
theorem b01_z {p : Prop} [Decidable p] : (b01 p = 0 ∨ b01 p = 1) = True := by unfold b01; by_cases h : p <;> simp [h]
theorem kit {α : Type} {K : α → XH → Prop} {X : XH} {p : Prop} [Decidable p] {a b : α} : (if p then K a X else K b X) = K (if p then a else b) X := by by_cases h : p <;> simp [h]
theorem kb1 {K : Int32 → XH → Prop} {X : XH} {p : Prop} [Decidable p] : (if p then K 1 X else K 0 X) = K (b01 p) X := by unfold b01; by_cases h : p <;> simp [h]
theorem kb0 {K : Int32 → XH → Prop} {X : XH} {p : Prop} [Decidable p] : (if p then K 0 X else K 1 X) = K (b01 (¬ p)) X := by unfold b01; by_cases h : p <;> simp [h]
theorem nc {i : Nat} (h : i < 4096) : (Int32.ofNat i).toNatClampNeg = i := Int32.toNatClampNeg_ofNat_of_lt (by omega)
theorem of_nn {i : Nat} (h : i < 4096) : (Int32.ofNat i < 0) = False := by
  simp only [Int32.lt_iff_toInt_lt, Int32.toInt_ofNat_of_lt (show i < 2 ^ 31 by omega), Int32.toInt_zero, eq_iff_iff, iff_false]
  omega
theorem of_le {i j : Nat} (hi : i < 4096) (hj : j < 4096) : (Int32.ofNat i ≤ Int32.ofNat j) = (i ≤ j) := by
  rw [Int32.ofNat_le_iff_le (by omega) (by omega)]
theorem of_lt {i j : Nat} (hi : i < 4096) (hj : j < 4096) : (Int32.ofNat i < Int32.ofNat j) = (i < j) := by
  rw [Int32.ofNat_lt_iff_lt (by omega) (by omega)]
theorem of_s (i : Nat) : Int32.ofNat i + 1 = Int32.ofNat (i + 1) := (Int32.ofNat_add i 1).symm
theorem of_inj {i j : Nat} (hi : i < 4096) (hj : j < 4096) : (Int32.ofNat i = Int32.ofNat j) = (i = j) := by
  apply propext
  constructor
  · intro h
    have := congrArg Int32.toNatClampNeg h
    rwa [nc hi, nc hj] at this
  · intro h
    rw [h]
theorem vp_of {i n : Nat} (hi : i < n) (hn : n < 4096) : vp_in (Int32.ofNat i) n = True := by
  unfold vp_in
  rw [of_nn (by omega), nc (by omega)]
  simp
  omega
theorem at_eq {X : XH} {a n k : Nat} {K : Int32 → XH → Prop} (ht : hty X a = 100) (hl : hln X a = n) (hk : k < n) (hn : n < 4096) : w_X4_at a (Int32.ofNat k) X K = K (hI X a k) X := by
  unfold w_X4_at
  rw [ht, hl, of_nn (by omega), of_le hn (by omega), vp_of hk hn, nc (by omega)]
  simp only [false_implies, not_false_eq_true, true_implies, true_and, show ¬ n ≤ k by omega]
  simp
theorem put_eq {X : XH} {a n k : Nat} {v : Int32} {K : XH → Prop} (ht : hty X a = 100) (hl : hln X a = n) (hk : k < n) (hn : n < 4096) : w_X4_put a (Int32.ofNat k) v X K = K (sI X a k v) := by
  unfold w_X4_put
  rw [ht, hl, of_nn (by omega), of_le hn (by omega), vp_of hk hn, nc (by omega)]
  simp only [false_implies, not_false_eq_true, true_implies, true_and, show ¬ n ≤ k by omega]
  simp
theorem pl_eq (c t : Nat) : Int32.ofNat c * 3 + Int32.ofNat t = Int32.ofNat (3 * c + t) := by
  rw [Int32.ofNat_add, Int32.ofNat_mul, Int32.mul_comm]
  rfl
theorem ix_eq (c k : Nat) : 13 * Int32.ofNat c + Int32.ofNat k = Int32.ofNat (13 * c + k) := by
  rw [Int32.ofNat_add, Int32.ofNat_mul]
  rfl
theorem ixF_eq (c t : Nat) : 13 * Int32.ofNat c + (4 + Int32.ofNat t) = Int32.ofNat (13 * c + 4 + t) := by
  rw [Int32.ofNat_add, Int32.ofNat_add, Int32.ofNat_mul, ← Int32.add_assoc]
  rfl
theorem ixA_eq (c t : Nat) : 13 * Int32.ofNat c + (7 + Int32.ofNat t) = Int32.ofNat (13 * c + 7 + t) := by
  rw [Int32.ofNat_add, Int32.ofNat_add, Int32.ofNat_mul, ← Int32.add_assoc]
  rfl
theorem ixT_eq (c t : Nat) : 13 * Int32.ofNat c + (10 + Int32.ofNat t) = Int32.ofNat (13 * c + 10 + t) := by
  rw [Int32.ofNat_add, Int32.ofNat_add, Int32.ofNat_mul, ← Int32.add_assoc]
  rfl
theorem ix0_eq (c : Nat) : 13 * Int32.ofNat c + 0 = Int32.ofNat (13 * c) := by
  rw [Int32.ofNat_mul, Int32.add_zero]
  rfl
theorem ix1_eq (c : Nat) : 13 * Int32.ofNat c + 1 = Int32.ofNat (13 * c + 1) := ix_eq c 1
theorem ix2_eq (c : Nat) : 13 * Int32.ofNat c + 2 = Int32.ofNat (13 * c + 2) := ix_eq c 2
theorem ix3_eq (c : Nat) : 13 * Int32.ofNat c + 3 = Int32.ofNat (13 * c + 3) := ix_eq c 3
theorem ixSt_eq (s t : Nat) : 312 + 3 * Int32.ofNat s + Int32.ofNat t = Int32.ofNat (312 + (3 * s + t)) := by
  rw [Int32.ofNat_add, Int32.ofNat_add, Int32.ofNat_mul, ← Int32.add_assoc]
  rfl
theorem ixU_eq (s t : Nat) : 327 + 3 * Int32.ofNat s + Int32.ofNat t = Int32.ofNat (327 + (3 * s + t)) := by
  rw [Int32.ofNat_add, Int32.ofNat_add, Int32.ofNat_mul, ← Int32.add_assoc]
  rfl
theorem ixM_eq (s t : Nat) : 342 + 3 * Int32.ofNat s + Int32.ofNat t = Int32.ofNat (342 + (3 * s + t)) := by
  rw [Int32.ofNat_add, Int32.ofNat_add, Int32.ofNat_mul, ← Int32.add_assoc]
  rfl
theorem ixZ_eq (s t : Nat) : 354 + 3 * Int32.ofNat s + Int32.ofNat t = Int32.ofNat (354 + (3 * s + t)) := by
  rw [Int32.ofNat_add, Int32.ofNat_add, Int32.ofNat_mul, ← Int32.add_assoc]
  rfl
def gR (g : Row) (c : Nat) : Int32 := g (13 * c)
def gS (g : Row) (c : Nat) : Int32 := g (13 * c + 1)
def gL (g : Row) (c : Nat) : Int32 := g (13 * c + 2)
def gH (g : Row) (c : Nat) : Int32 := g (13 * c + 3)
def gF (g : Row) (c t : Nat) : Int32 := g (13 * c + 4 + t)
def gAn (g : Row) (c t : Nat) : Int32 := g (13 * c + 7 + t)
def gT (g : Row) (c t : Nat) : Int32 := g (13 * c + 10 + t)
def gSt (g : Row) (s t : Nat) : Int32 := g (312 + (3 * s + t))
def gU (g : Row) (s t : Nat) : Int32 := g (327 + (3 * s + t))
def gM (g : Row) (s t : Nat) : Int32 := g (342 + (3 * s + t))
def gZ (g : Row) (s t : Nat) : Int32 := g (354 + (3 * s + t))
def gB (g : Row) (c t : Nat) : Int32 := gF g c t + gH g c
end PC
section PCC
variable {X : XH} {g : Row} {c t s : Nat} {K : Int32 → XH → Prop}
theorem ok1 {j k : Nat} (h1 : k < lenT j) (h2 : (j == 0) = false) : okT j k = true := by
  unfold okT
  rw [h2]
  simp [h1]
theorem TR.n (h : TR X 2 g) : hI X 2 0 = g 366 := h 0 0 rfl
theorem TR.R (h : TR X 2 g) (hc : c < 24) : hI X 3 c = gR g c := h 1 c (ok1 hc rfl)
theorem TR.S (h : TR X 2 g) (hc : c < 24) : hI X 4 c = gS g c := h 2 c (ok1 hc rfl)
theorem TR.L (h : TR X 2 g) (hc : c < 24) : hI X 5 c = gL g c := h 3 c (ok1 hc rfl)
theorem TR.H (h : TR X 2 g) (hc : c < 24) : hI X 6 c = gH g c := h 4 c (ok1 hc rfl)
theorem TR.F (h : TR X 2 g) (hc : c < 24) (ht : t < 3) : hI X 7 (3 * c + t) = gF g c t := by
  have h1 := h 5 (3 * c + t) (ok1 (show 3 * c + t < 72 by omega) rfl)
  rw [show posT 5 (3 * c + t) = 13 * c + 4 + t by show 13 * ((3 * c + t) / 3) + 4 + (3 * c + t) % 3 = _; omega] at h1
  exact h1
theorem TR.A (h : TR X 2 g) (hc : c < 24) (ht : t < 3) : hI X 8 (3 * c + t) = gAn g c t := by
  have h1 := h 6 (3 * c + t) (ok1 (show 3 * c + t < 72 by omega) rfl)
  rw [show posT 6 (3 * c + t) = 13 * c + 7 + t by show 13 * ((3 * c + t) / 3) + 7 + (3 * c + t) % 3 = _; omega] at h1
  exact h1
theorem TR.T (h : TR X 2 g) (hc : c < 24) (ht : t < 3) : hI X 9 (3 * c + t) = gT g c t := by
  have h1 := h 7 (3 * c + t) (ok1 (show 3 * c + t < 72 by omega) rfl)
  rw [show posT 7 (3 * c + t) = 13 * c + 10 + t by show 13 * ((3 * c + t) / 3) + 10 + (3 * c + t) % 3 = _; omega] at h1
  exact h1
theorem TR.Sm (h : TR X 2 g) (hs : s < 5) (ht : t < 3) : hI X 10 (3 * s + t) = gSt g s t := h 8 (3 * s + t) (ok1 (show 3 * s + t < 15 by omega) rfl)
theorem TR.U (h : TR X 2 g) (hs : s < 5) (ht : t < 3) : hI X 11 (3 * s + t) = gU g s t := h 9 (3 * s + t) (ok1 (show 3 * s + t < 15 by omega) rfl)
theorem TR.M (h : TR X 2 g) (hs : s < 4) (ht : t < 3) : hI X 12 (3 * s + t) = gM g s t := h 10 (3 * s + t) (ok1 (show 3 * s + t < 12 by omega) rfl)
theorem TR.Z (h : TR X 2 g) (hs : s < 4) (ht : t < 3) : hI X 13 (3 * s + t) = gZ g s t := h 11 (3 * s + t) (ok1 (show 3 * s + t < 12 by omega) rfl)
section CG
variable (q : Shp X) (h : TR X 2 g)
theorem a_3 (q : Shp X) (h : TR X 2 g) (hc : c < 24) : w_X4_at 3 (Int32.ofNat c) X K = K (gR g c) X := by rw [at_eq q.t3 q.n3 hc (by decide), h.R hc]
theorem a_4 (q : Shp X) (h : TR X 2 g) (hc : c < 24) : w_X4_at 4 (Int32.ofNat c) X K = K (gS g c) X := by rw [at_eq q.t4 q.n4 hc (by decide), h.S hc]
theorem a_5 (q : Shp X) (h : TR X 2 g) (hc : c < 24) : w_X4_at 5 (Int32.ofNat c) X K = K (gL g c) X := by rw [at_eq q.t5 q.n5 hc (by decide), h.L hc]
theorem a_6 (q : Shp X) (h : TR X 2 g) (hc : c < 24) : w_X4_at 6 (Int32.ofNat c) X K = K (gH g c) X := by rw [at_eq q.t6 q.n6 hc (by decide), h.H hc]
theorem a_7 (q : Shp X) (h : TR X 2 g) (hc : c < 24) (ht : t < 3) : w_X4_at 7 (Int32.ofNat c * 3 + Int32.ofNat t) X K = K (gF g c t) X := by rw [pl_eq, at_eq q.t7 q.n7 (by omega) (by decide), h.F hc ht]
theorem a_8 (q : Shp X) (h : TR X 2 g) (hc : c < 24) (ht : t < 3) : w_X4_at 8 (Int32.ofNat c * 3 + Int32.ofNat t) X K = K (gAn g c t) X := by rw [pl_eq, at_eq q.t8 q.n8 (by omega) (by decide), h.A hc ht]
theorem a_9 (q : Shp X) (h : TR X 2 g) (hc : c < 24) (ht : t < 3) : w_X4_at 9 (Int32.ofNat c * 3 + Int32.ofNat t) X K = K (gT g c t) X := by rw [pl_eq, at_eq q.t9 q.n9 (by omega) (by decide), h.T hc ht]
theorem a_10 (q : Shp X) (h : TR X 2 g) (hc : c < 5) (ht : t < 3) : w_X4_at 10 (Int32.ofNat c * 3 + Int32.ofNat t) X K = K (gSt g c t) X := by rw [pl_eq, at_eq q.t10 q.n10 (by omega) (by decide), h.Sm hc ht]
theorem a_11 (q : Shp X) (h : TR X 2 g) (hc : c < 5) (ht : t < 3) : w_X4_at 11 (Int32.ofNat c * 3 + Int32.ofNat t) X K = K (gU g c t) X := by rw [pl_eq, at_eq q.t11 q.n11 (by omega) (by decide), h.U hc ht]
theorem a_12 (q : Shp X) (h : TR X 2 g) (hc : c < 4) (ht : t < 3) : w_X4_at 12 (Int32.ofNat c * 3 + Int32.ofNat t) X K = K (gM g c t) X := by rw [pl_eq, at_eq q.t12 q.n12 (by omega) (by decide), h.M hc ht]
theorem a_13 (q : Shp X) (h : TR X 2 g) (hc : c < 4) (ht : t < 3) : w_X4_at 13 (Int32.ofNat c * 3 + Int32.ofNat t) X K = K (gZ g c t) X := by rw [pl_eq, at_eq q.t13 q.n13 (by omega) (by decide), h.Z hc ht]
end CG
end PCC
