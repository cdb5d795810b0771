/-! the heap of the law: its things by number, the rows, what stands for what -/
section PB
abbrev Row : Type := Nat → Int32
/-- the row, how many are saved, the saved ones, what is kept, the slots, how many signs, the signs -/
abbrev St : Type := Row × Nat × (Nat → Row) × Row × (Nat → Row) × Nat × Row
def zG (c : St) : Row := c.1
def zH (c : St) : Nat := c.2.1
def zP (c : St) : Nat → Row := c.2.2.1
def zK (c : St) : Row := c.2.2.2.1
def zS (c : St) : Nat → Row := c.2.2.2.2.1
def zN (c : St) : Nat := c.2.2.2.2.2.1
def zT (c : St) : Row := c.2.2.2.2.2.2
def upr (g : Row) (i : Nat) (v : Int32) : Row := fun n => if n = i then v else g n
def tyL : List Nat := [99, 4, 3, 100, 100, 100, 100, 100, 100, 100, 100, 100, 100, 100, 1, 107, 3, 100, 100, 100, 100, 100, 100, 100, 100, 100, 100, 100, 3, 100, 100, 100, 100, 100, 100, 100, 100, 100, 100, 100, 3, 100, 100, 100, 100, 100, 100, 100, 100, 100, 100, 100, 3, 100, 100, 100, 100, 100, 100, 100, 100, 100, 100, 100, 3, 100, 100, 100, 100, 100, 100, 100, 100, 100, 100, 100, 3, 100, 100, 100, 100, 100, 100, 100, 100, 100, 100, 100, 107, 3, 100, 100, 100, 100, 100, 100, 100, 100, 100, 100, 100, 3, 100, 100, 100, 100, 100, 100, 100, 100, 100, 100, 100, 101, 0, 100, 100, 100, 100, 100, 2, 100, 100]
def lnL : List Nat := [0, 0, 0, 24, 24, 24, 24, 72, 72, 72, 15, 15, 12, 12, 0, 6, 0, 24, 24, 24, 24, 72, 72, 72, 15, 15, 12, 12, 0, 24, 24, 24, 24, 72, 72, 72, 15, 15, 12, 12, 0, 24, 24, 24, 24, 72, 72, 72, 15, 15, 12, 12, 0, 24, 24, 24, 24, 72, 72, 72, 15, 15, 12, 12, 0, 24, 24, 24, 24, 72, 72, 72, 15, 15, 12, 12, 0, 24, 24, 24, 24, 72, 72, 72, 15, 15, 12, 12, 2, 0, 24, 24, 24, 24, 72, 72, 72, 15, 15, 12, 12, 0, 24, 24, 24, 24, 72, 72, 72, 15, 15, 12, 12, 2, 0, 60, 60, 60, 60, 60, 0, 24, 25]
def rfL : List (List Nat) := [[], [2, 14, 88, 113, 114, 120], [0, 3, 4, 5, 6, 7, 8, 9, 10, 11, 12, 13], [], [], [], [], [], [], [], [], [], [], [], [15], [], [0, 17, 18, 19, 20, 21, 22, 23, 24, 25, 26, 27], [], [], [], [], [], [], [], [], [], [], [], [0, 29, 30, 31, 32, 33, 34, 35, 36, 37, 38, 39], [], [], [], [], [], [], [], [], [], [], [], [0, 41, 42, 43, 44, 45, 46, 47, 48, 49, 50, 51], [], [], [], [], [], [], [], [], [], [], [], [0, 53, 54, 55, 56, 57, 58, 59, 60, 61, 62, 63], [], [], [], [], [], [], [], [], [], [], [], [0, 65, 66, 67, 68, 69, 70, 71, 72, 73, 74, 75], [], [], [], [], [], [], [], [], [], [], [], [0, 77, 78, 79, 80, 81, 82, 83, 84, 85, 86, 87], [], [], [], [], [], [], [], [], [], [], [], [89, 101], [0, 90, 91, 92, 93, 94, 95, 96, 97, 98, 99, 100], [], [], [], [], [], [], [], [], [], [], [], [0, 102, 103, 104, 105, 106, 107, 108, 109, 110, 111, 112], [], [], [], [], [], [], [], [], [], [], [], [], [115, 0, 116, 117, 118, 119], [], [], [], [], [], [121, 122], [], []]
/-- the fields and elements that hold one thing for ever -/
def rfO (a k : Nat) : Bool := decide ((rfL.getD a []).getD k 0 ≠ 0)
def Shp (X : XH) : Prop := 122 ≤ hz X ∧ (∀ a, a ≤ 122 → hty X a = tyL.getD a 0) ∧ (∀ a, a ≤ 122 → hln X a = lnL.getD a 0) ∧ ∀ a k, rfO a k = true → hR X a k = (rfL.getD a []).getD k 0
/-- the places of a treaty: thing j of it, index k -/
def posT (j k : Nat) : Nat := match j with
  | 0 => if k = 0 then 366 else 355 + k
  | 1 => 13 * k
  | 2 => 13 * k + 1
  | 3 => 13 * k + 2
  | 4 => 13 * k + 3
  | 5 => 13 * (k / 3) + 4 + k % 3
  | 6 => 13 * (k / 3) + 7 + k % 3
  | 7 => 13 * (k / 3) + 10 + k % 3
  | 8 => 312 + k
  | 9 => 327 + k
  | 10 => 342 + k
  | _ => 354 + k
def lenT (j : Nat) : Nat := [16, 24, 24, 24, 24, 72, 72, 72, 15, 15, 12, 12].getD j 0
def okT (j k : Nat) : Bool := decide (k < lenT j) && !(j == 0 && (decide (0 < k) && decide (k < 12)))
def invT (n : Nat) : Nat × Nat := if n < 312 then (if n % 13 < 4 then (n % 13 + 1, n / 13) else if n % 13 < 7 then (5, 3 * (n / 13) + (n % 13 - 4)) else if n % 13 < 10 then (6, 3 * (n / 13) + (n % 13 - 7)) else (7, 3 * (n / 13) + (n % 13 - 10)))
  else if n < 327 then (8, n - 312) else if n < 342 then (9, n - 327) else if n < 354 then (10, n - 342) else if n < 366 then (11, n - 354) else if n = 366 then (0, 0) else (0, n - 355)
theorem okT_j {j k : Nat} (h : okT j k = true) : j < 12 ∧ k < 72 := by
  unfold okT at h
  have h1 : k < lenT j := by
    by_cases h1 : k < lenT j
    · exact h1
    · simp [h1] at h
  by_cases hj : j < 12
  · have : ∀ j, j < 12 → lenT j ≤ 72 := by decide
    exact ⟨hj, Nat.lt_of_lt_of_le h1 (this j hj)⟩
  · unfold lenT at h1
    rw [List.getD_eq_getElem?_getD, List.getElem?_eq_none (by simp; omega)] at h1
    simp at h1
theorem invT_pos : ∀ j, j < 12 → ∀ k, k < 72 → okT j k = true → invT (posT j k) = (j, k) := by decide +kernel
theorem posT_lt : ∀ j, j < 12 → ∀ k, k < 72 → okT j k = true → posT j k < 371 := by decide +kernel
theorem posT_inv : ∀ n, n < 371 → okT (invT n).1 (invT n).2 = true ∧ posT (invT n).1 (invT n).2 = n := by decide +kernel
theorem posT_inj {j k j' k' : Nat} (h : okT j k = true) (h' : okT j' k' = true) (e : posT j k = posT j' k') : j = j' ∧ k = k' := by
  have h1 := invT_pos j (okT_j h).1 k (okT_j h).2 h
  have h2 := invT_pos j' (okT_j h').1 k' (okT_j h').2 h'
  rw [e, h2] at h1
  exact ⟨(congrArg Prod.fst h1).symm, (congrArg Prod.snd h1).symm⟩
/-- treaty b tells the row g -/
def TR (X : XH) (b : Nat) (g : Row) : Prop := ∀ j k, okT j k = true → hI X (b + j) k = g (posT j k)
/-- the saved ones -/
def HS (X : XH) (h : Nat) (p : Nat → Row) : Prop := hI X 14 1 = Int32.ofNat h ∧ h ≤ 6 ∧ ∃ ρ : Nat → Nat, (∀ k, k < 6 → hR X 15 k = 16 + 12 * ρ k ∧ ρ k < 6) ∧ (∀ i, i < 6 → ∀ j, j < 6 → ρ i = ρ j → i = j) ∧ ∀ k, k < h → TR X (16 + 12 * ρ k) (p k)
/-- the slots -/
def SS (X : XH) (kp : Row) (sl : Nat → Row) : Prop := ∀ k, k < 2 → hI X 113 k = kp k ∧ (kp k = 0 ∨ kp k = 1) ∧ (kp k = 1 → TR X (89 + 12 * k) (sl k))
/-- the buffer -/
def TS (X : XH) (n : Nat) (tx : Row) : Prop := hI X 114 1 = Int32.ofNat n ∧ n ≤ 60 ∧ ∀ k, k < n → hI X 115 k = tx k
/-- the class's -/
def CS (X : XH) (c : St) : Prop := TR X 2 (zG c) ∧ HS X (zH c) (zP c) ∧ SS X (zK c) (zS c) ∧ TS X (zN c) (zT c)
/-- outside 1..122 X is as Y -/
def Rst (X Y : XH) : Prop := (hz X, hty X, hln X) = (hz Y, hty Y, hln Y) ∧ (hL X, hDd X) = (hL Y, hDd Y) ∧ ∀ a, (a = 0 ∨ 122 < a) → hI X a = hI Y a ∧ hR X a = hR Y a
def Wd (X : XH) (c : St) (Y : XH) : Prop := Shp X ∧ CS X c ∧ Rst X Y
theorem Rst.rf {X : XH} : Rst X X := ⟨rfl, rfl, fun _ _ => ⟨rfl, rfl⟩⟩
theorem Rst.tr {X Y Z : XH} (h : Rst X Y) (k : Rst Y Z) : Rst X Z := ⟨h.1.trans k.1, h.2.1.trans k.2.1, fun a ha => ⟨(h.2.2 a ha).1.trans (k.2.2 a ha).1, (h.2.2 a ha).2.trans (k.2.2 a ha).2⟩⟩
theorem Rst.sy {X Y : XH} (h : Rst X Y) : Rst Y X := ⟨h.1.symm, h.2.1.symm, fun a ha => ⟨(h.2.2 a ha).1.symm, (h.2.2 a ha).2.symm⟩⟩
section QS
theorem Shp.t1 {X : XH} (q : Shp X) : hty X 1 = 4 := q.2.1 1 (leb rfl)
theorem Shp.t2 {X : XH} (q : Shp X) : hty X 2 = 3 := q.2.1 2 (leb rfl)
theorem Shp.t3 {X : XH} (q : Shp X) : hty X 3 = 100 := q.2.1 3 (leb rfl)
theorem Shp.t4 {X : XH} (q : Shp X) : hty X 4 = 100 := q.2.1 4 (leb rfl)
theorem Shp.t5 {X : XH} (q : Shp X) : hty X 5 = 100 := q.2.1 5 (leb rfl)
theorem Shp.t6 {X : XH} (q : Shp X) : hty X 6 = 100 := q.2.1 6 (leb rfl)
theorem Shp.t7 {X : XH} (q : Shp X) : hty X 7 = 100 := q.2.1 7 (leb rfl)
theorem Shp.t8 {X : XH} (q : Shp X) : hty X 8 = 100 := q.2.1 8 (leb rfl)
theorem Shp.t9 {X : XH} (q : Shp X) : hty X 9 = 100 := q.2.1 9 (leb rfl)
theorem Shp.t10 {X : XH} (q : Shp X) : hty X 10 = 100 := q.2.1 10 (leb rfl)
theorem Shp.t11 {X : XH} (q : Shp X) : hty X 11 = 100 := q.2.1 11 (leb rfl)
theorem Shp.t12 {X : XH} (q : Shp X) : hty X 12 = 100 := q.2.1 12 (leb rfl)
theorem Shp.t13 {X : XH} (q : Shp X) : hty X 13 = 100 := q.2.1 13 (leb rfl)
theorem Shp.t14 {X : XH} (q : Shp X) : hty X 14 = 1 := q.2.1 14 (leb rfl)
theorem Shp.t15 {X : XH} (q : Shp X) : hty X 15 = 107 := q.2.1 15 (leb rfl)
theorem Shp.t16 {X : XH} (q : Shp X) : hty X 16 = 3 := q.2.1 16 (leb rfl)
theorem Shp.t17 {X : XH} (q : Shp X) : hty X 17 = 100 := q.2.1 17 (leb rfl)
theorem Shp.t18 {X : XH} (q : Shp X) : hty X 18 = 100 := q.2.1 18 (leb rfl)
theorem Shp.t19 {X : XH} (q : Shp X) : hty X 19 = 100 := q.2.1 19 (leb rfl)
theorem Shp.t20 {X : XH} (q : Shp X) : hty X 20 = 100 := q.2.1 20 (leb rfl)
theorem Shp.t21 {X : XH} (q : Shp X) : hty X 21 = 100 := q.2.1 21 (leb rfl)
theorem Shp.t22 {X : XH} (q : Shp X) : hty X 22 = 100 := q.2.1 22 (leb rfl)
theorem Shp.t23 {X : XH} (q : Shp X) : hty X 23 = 100 := q.2.1 23 (leb rfl)
theorem Shp.t24 {X : XH} (q : Shp X) : hty X 24 = 100 := q.2.1 24 (leb rfl)
theorem Shp.t25 {X : XH} (q : Shp X) : hty X 25 = 100 := q.2.1 25 (leb rfl)
theorem Shp.t26 {X : XH} (q : Shp X) : hty X 26 = 100 := q.2.1 26 (leb rfl)
theorem Shp.t27 {X : XH} (q : Shp X) : hty X 27 = 100 := q.2.1 27 (leb rfl)
theorem Shp.t28 {X : XH} (q : Shp X) : hty X 28 = 3 := q.2.1 28 (leb rfl)
theorem Shp.t29 {X : XH} (q : Shp X) : hty X 29 = 100 := q.2.1 29 (leb rfl)
theorem Shp.t30 {X : XH} (q : Shp X) : hty X 30 = 100 := q.2.1 30 (leb rfl)
theorem Shp.t31 {X : XH} (q : Shp X) : hty X 31 = 100 := q.2.1 31 (leb rfl)
theorem Shp.t32 {X : XH} (q : Shp X) : hty X 32 = 100 := q.2.1 32 (leb rfl)
theorem Shp.t33 {X : XH} (q : Shp X) : hty X 33 = 100 := q.2.1 33 (leb rfl)
theorem Shp.t34 {X : XH} (q : Shp X) : hty X 34 = 100 := q.2.1 34 (leb rfl)
theorem Shp.t35 {X : XH} (q : Shp X) : hty X 35 = 100 := q.2.1 35 (leb rfl)
theorem Shp.t36 {X : XH} (q : Shp X) : hty X 36 = 100 := q.2.1 36 (leb rfl)
theorem Shp.t37 {X : XH} (q : Shp X) : hty X 37 = 100 := q.2.1 37 (leb rfl)
theorem Shp.t38 {X : XH} (q : Shp X) : hty X 38 = 100 := q.2.1 38 (leb rfl)
theorem Shp.t39 {X : XH} (q : Shp X) : hty X 39 = 100 := q.2.1 39 (leb rfl)
theorem Shp.t40 {X : XH} (q : Shp X) : hty X 40 = 3 := q.2.1 40 (leb rfl)
theorem Shp.t41 {X : XH} (q : Shp X) : hty X 41 = 100 := q.2.1 41 (leb rfl)
theorem Shp.t42 {X : XH} (q : Shp X) : hty X 42 = 100 := q.2.1 42 (leb rfl)
theorem Shp.t43 {X : XH} (q : Shp X) : hty X 43 = 100 := q.2.1 43 (leb rfl)
theorem Shp.t44 {X : XH} (q : Shp X) : hty X 44 = 100 := q.2.1 44 (leb rfl)
theorem Shp.t45 {X : XH} (q : Shp X) : hty X 45 = 100 := q.2.1 45 (leb rfl)
theorem Shp.t46 {X : XH} (q : Shp X) : hty X 46 = 100 := q.2.1 46 (leb rfl)
theorem Shp.t47 {X : XH} (q : Shp X) : hty X 47 = 100 := q.2.1 47 (leb rfl)
theorem Shp.t48 {X : XH} (q : Shp X) : hty X 48 = 100 := q.2.1 48 (leb rfl)
theorem Shp.t49 {X : XH} (q : Shp X) : hty X 49 = 100 := q.2.1 49 (leb rfl)
theorem Shp.t50 {X : XH} (q : Shp X) : hty X 50 = 100 := q.2.1 50 (leb rfl)
theorem Shp.t51 {X : XH} (q : Shp X) : hty X 51 = 100 := q.2.1 51 (leb rfl)
theorem Shp.t52 {X : XH} (q : Shp X) : hty X 52 = 3 := q.2.1 52 (leb rfl)
theorem Shp.t53 {X : XH} (q : Shp X) : hty X 53 = 100 := q.2.1 53 (leb rfl)
theorem Shp.t54 {X : XH} (q : Shp X) : hty X 54 = 100 := q.2.1 54 (leb rfl)
theorem Shp.t55 {X : XH} (q : Shp X) : hty X 55 = 100 := q.2.1 55 (leb rfl)
theorem Shp.t56 {X : XH} (q : Shp X) : hty X 56 = 100 := q.2.1 56 (leb rfl)
theorem Shp.t57 {X : XH} (q : Shp X) : hty X 57 = 100 := q.2.1 57 (leb rfl)
theorem Shp.t58 {X : XH} (q : Shp X) : hty X 58 = 100 := q.2.1 58 (leb rfl)
theorem Shp.t59 {X : XH} (q : Shp X) : hty X 59 = 100 := q.2.1 59 (leb rfl)
theorem Shp.t60 {X : XH} (q : Shp X) : hty X 60 = 100 := q.2.1 60 (leb rfl)
theorem Shp.t61 {X : XH} (q : Shp X) : hty X 61 = 100 := q.2.1 61 (leb rfl)
theorem Shp.t62 {X : XH} (q : Shp X) : hty X 62 = 100 := q.2.1 62 (leb rfl)
theorem Shp.t63 {X : XH} (q : Shp X) : hty X 63 = 100 := q.2.1 63 (leb rfl)
theorem Shp.t64 {X : XH} (q : Shp X) : hty X 64 = 3 := q.2.1 64 (leb rfl)
theorem Shp.t65 {X : XH} (q : Shp X) : hty X 65 = 100 := q.2.1 65 (leb rfl)
theorem Shp.t66 {X : XH} (q : Shp X) : hty X 66 = 100 := q.2.1 66 (leb rfl)
theorem Shp.t67 {X : XH} (q : Shp X) : hty X 67 = 100 := q.2.1 67 (leb rfl)
theorem Shp.t68 {X : XH} (q : Shp X) : hty X 68 = 100 := q.2.1 68 (leb rfl)
theorem Shp.t69 {X : XH} (q : Shp X) : hty X 69 = 100 := q.2.1 69 (leb rfl)
theorem Shp.t70 {X : XH} (q : Shp X) : hty X 70 = 100 := q.2.1 70 (leb rfl)
theorem Shp.t71 {X : XH} (q : Shp X) : hty X 71 = 100 := q.2.1 71 (leb rfl)
theorem Shp.t72 {X : XH} (q : Shp X) : hty X 72 = 100 := q.2.1 72 (leb rfl)
theorem Shp.t73 {X : XH} (q : Shp X) : hty X 73 = 100 := q.2.1 73 (leb rfl)
theorem Shp.t74 {X : XH} (q : Shp X) : hty X 74 = 100 := q.2.1 74 (leb rfl)
theorem Shp.t75 {X : XH} (q : Shp X) : hty X 75 = 100 := q.2.1 75 (leb rfl)
theorem Shp.t76 {X : XH} (q : Shp X) : hty X 76 = 3 := q.2.1 76 (leb rfl)
theorem Shp.t77 {X : XH} (q : Shp X) : hty X 77 = 100 := q.2.1 77 (leb rfl)
theorem Shp.t78 {X : XH} (q : Shp X) : hty X 78 = 100 := q.2.1 78 (leb rfl)
theorem Shp.t79 {X : XH} (q : Shp X) : hty X 79 = 100 := q.2.1 79 (leb rfl)
theorem Shp.t80 {X : XH} (q : Shp X) : hty X 80 = 100 := q.2.1 80 (leb rfl)
theorem Shp.t81 {X : XH} (q : Shp X) : hty X 81 = 100 := q.2.1 81 (leb rfl)
theorem Shp.t82 {X : XH} (q : Shp X) : hty X 82 = 100 := q.2.1 82 (leb rfl)
theorem Shp.t83 {X : XH} (q : Shp X) : hty X 83 = 100 := q.2.1 83 (leb rfl)
theorem Shp.t84 {X : XH} (q : Shp X) : hty X 84 = 100 := q.2.1 84 (leb rfl)
theorem Shp.t85 {X : XH} (q : Shp X) : hty X 85 = 100 := q.2.1 85 (leb rfl)
theorem Shp.t86 {X : XH} (q : Shp X) : hty X 86 = 100 := q.2.1 86 (leb rfl)
theorem Shp.t87 {X : XH} (q : Shp X) : hty X 87 = 100 := q.2.1 87 (leb rfl)
theorem Shp.t88 {X : XH} (q : Shp X) : hty X 88 = 107 := q.2.1 88 (leb rfl)
theorem Shp.t89 {X : XH} (q : Shp X) : hty X 89 = 3 := q.2.1 89 (leb rfl)
theorem Shp.t90 {X : XH} (q : Shp X) : hty X 90 = 100 := q.2.1 90 (leb rfl)
theorem Shp.t91 {X : XH} (q : Shp X) : hty X 91 = 100 := q.2.1 91 (leb rfl)
theorem Shp.t92 {X : XH} (q : Shp X) : hty X 92 = 100 := q.2.1 92 (leb rfl)
theorem Shp.t93 {X : XH} (q : Shp X) : hty X 93 = 100 := q.2.1 93 (leb rfl)
theorem Shp.t94 {X : XH} (q : Shp X) : hty X 94 = 100 := q.2.1 94 (leb rfl)
theorem Shp.t95 {X : XH} (q : Shp X) : hty X 95 = 100 := q.2.1 95 (leb rfl)
theorem Shp.t96 {X : XH} (q : Shp X) : hty X 96 = 100 := q.2.1 96 (leb rfl)
theorem Shp.t97 {X : XH} (q : Shp X) : hty X 97 = 100 := q.2.1 97 (leb rfl)
theorem Shp.t98 {X : XH} (q : Shp X) : hty X 98 = 100 := q.2.1 98 (leb rfl)
theorem Shp.t99 {X : XH} (q : Shp X) : hty X 99 = 100 := q.2.1 99 (leb rfl)
theorem Shp.t100 {X : XH} (q : Shp X) : hty X 100 = 100 := q.2.1 100 (leb rfl)
theorem Shp.t101 {X : XH} (q : Shp X) : hty X 101 = 3 := q.2.1 101 (leb rfl)
theorem Shp.t102 {X : XH} (q : Shp X) : hty X 102 = 100 := q.2.1 102 (leb rfl)
theorem Shp.t103 {X : XH} (q : Shp X) : hty X 103 = 100 := q.2.1 103 (leb rfl)
theorem Shp.t104 {X : XH} (q : Shp X) : hty X 104 = 100 := q.2.1 104 (leb rfl)
theorem Shp.t105 {X : XH} (q : Shp X) : hty X 105 = 100 := q.2.1 105 (leb rfl)
theorem Shp.t106 {X : XH} (q : Shp X) : hty X 106 = 100 := q.2.1 106 (leb rfl)
theorem Shp.t107 {X : XH} (q : Shp X) : hty X 107 = 100 := q.2.1 107 (leb rfl)
theorem Shp.t108 {X : XH} (q : Shp X) : hty X 108 = 100 := q.2.1 108 (leb rfl)
theorem Shp.t109 {X : XH} (q : Shp X) : hty X 109 = 100 := q.2.1 109 (leb rfl)
theorem Shp.t110 {X : XH} (q : Shp X) : hty X 110 = 100 := q.2.1 110 (leb rfl)
theorem Shp.t111 {X : XH} (q : Shp X) : hty X 111 = 100 := q.2.1 111 (leb rfl)
theorem Shp.t112 {X : XH} (q : Shp X) : hty X 112 = 100 := q.2.1 112 (leb rfl)
theorem Shp.t113 {X : XH} (q : Shp X) : hty X 113 = 101 := q.2.1 113 (leb rfl)
theorem Shp.t114 {X : XH} (q : Shp X) : hty X 114 = 0 := q.2.1 114 (leb rfl)
theorem Shp.t115 {X : XH} (q : Shp X) : hty X 115 = 100 := q.2.1 115 (leb rfl)
theorem Shp.t116 {X : XH} (q : Shp X) : hty X 116 = 100 := q.2.1 116 (leb rfl)
theorem Shp.t117 {X : XH} (q : Shp X) : hty X 117 = 100 := q.2.1 117 (leb rfl)
theorem Shp.t118 {X : XH} (q : Shp X) : hty X 118 = 100 := q.2.1 118 (leb rfl)
theorem Shp.t119 {X : XH} (q : Shp X) : hty X 119 = 100 := q.2.1 119 (leb rfl)
theorem Shp.t120 {X : XH} (q : Shp X) : hty X 120 = 2 := q.2.1 120 (leb rfl)
theorem Shp.t121 {X : XH} (q : Shp X) : hty X 121 = 100 := q.2.1 121 (leb rfl)
theorem Shp.t122 {X : XH} (q : Shp X) : hty X 122 = 100 := q.2.1 122 (leb rfl)
theorem Shp.n3 {X : XH} (q : Shp X) : hln X 3 = 24 := q.2.2.1 3 (leb rfl)
theorem Shp.n4 {X : XH} (q : Shp X) : hln X 4 = 24 := q.2.2.1 4 (leb rfl)
theorem Shp.n5 {X : XH} (q : Shp X) : hln X 5 = 24 := q.2.2.1 5 (leb rfl)
theorem Shp.n6 {X : XH} (q : Shp X) : hln X 6 = 24 := q.2.2.1 6 (leb rfl)
theorem Shp.n7 {X : XH} (q : Shp X) : hln X 7 = 72 := q.2.2.1 7 (leb rfl)
theorem Shp.n8 {X : XH} (q : Shp X) : hln X 8 = 72 := q.2.2.1 8 (leb rfl)
theorem Shp.n9 {X : XH} (q : Shp X) : hln X 9 = 72 := q.2.2.1 9 (leb rfl)
theorem Shp.n10 {X : XH} (q : Shp X) : hln X 10 = 15 := q.2.2.1 10 (leb rfl)
theorem Shp.n11 {X : XH} (q : Shp X) : hln X 11 = 15 := q.2.2.1 11 (leb rfl)
theorem Shp.n12 {X : XH} (q : Shp X) : hln X 12 = 12 := q.2.2.1 12 (leb rfl)
theorem Shp.n13 {X : XH} (q : Shp X) : hln X 13 = 12 := q.2.2.1 13 (leb rfl)
theorem Shp.n15 {X : XH} (q : Shp X) : hln X 15 = 6 := q.2.2.1 15 (leb rfl)
theorem Shp.n17 {X : XH} (q : Shp X) : hln X 17 = 24 := q.2.2.1 17 (leb rfl)
theorem Shp.n18 {X : XH} (q : Shp X) : hln X 18 = 24 := q.2.2.1 18 (leb rfl)
theorem Shp.n19 {X : XH} (q : Shp X) : hln X 19 = 24 := q.2.2.1 19 (leb rfl)
theorem Shp.n20 {X : XH} (q : Shp X) : hln X 20 = 24 := q.2.2.1 20 (leb rfl)
theorem Shp.n21 {X : XH} (q : Shp X) : hln X 21 = 72 := q.2.2.1 21 (leb rfl)
theorem Shp.n22 {X : XH} (q : Shp X) : hln X 22 = 72 := q.2.2.1 22 (leb rfl)
theorem Shp.n23 {X : XH} (q : Shp X) : hln X 23 = 72 := q.2.2.1 23 (leb rfl)
theorem Shp.n24 {X : XH} (q : Shp X) : hln X 24 = 15 := q.2.2.1 24 (leb rfl)
theorem Shp.n25 {X : XH} (q : Shp X) : hln X 25 = 15 := q.2.2.1 25 (leb rfl)
theorem Shp.n26 {X : XH} (q : Shp X) : hln X 26 = 12 := q.2.2.1 26 (leb rfl)
theorem Shp.n27 {X : XH} (q : Shp X) : hln X 27 = 12 := q.2.2.1 27 (leb rfl)
theorem Shp.n29 {X : XH} (q : Shp X) : hln X 29 = 24 := q.2.2.1 29 (leb rfl)
theorem Shp.n30 {X : XH} (q : Shp X) : hln X 30 = 24 := q.2.2.1 30 (leb rfl)
theorem Shp.n31 {X : XH} (q : Shp X) : hln X 31 = 24 := q.2.2.1 31 (leb rfl)
theorem Shp.n32 {X : XH} (q : Shp X) : hln X 32 = 24 := q.2.2.1 32 (leb rfl)
theorem Shp.n33 {X : XH} (q : Shp X) : hln X 33 = 72 := q.2.2.1 33 (leb rfl)
theorem Shp.n34 {X : XH} (q : Shp X) : hln X 34 = 72 := q.2.2.1 34 (leb rfl)
theorem Shp.n35 {X : XH} (q : Shp X) : hln X 35 = 72 := q.2.2.1 35 (leb rfl)
theorem Shp.n36 {X : XH} (q : Shp X) : hln X 36 = 15 := q.2.2.1 36 (leb rfl)
theorem Shp.n37 {X : XH} (q : Shp X) : hln X 37 = 15 := q.2.2.1 37 (leb rfl)
theorem Shp.n38 {X : XH} (q : Shp X) : hln X 38 = 12 := q.2.2.1 38 (leb rfl)
theorem Shp.n39 {X : XH} (q : Shp X) : hln X 39 = 12 := q.2.2.1 39 (leb rfl)
theorem Shp.n41 {X : XH} (q : Shp X) : hln X 41 = 24 := q.2.2.1 41 (leb rfl)
theorem Shp.n42 {X : XH} (q : Shp X) : hln X 42 = 24 := q.2.2.1 42 (leb rfl)
theorem Shp.n43 {X : XH} (q : Shp X) : hln X 43 = 24 := q.2.2.1 43 (leb rfl)
theorem Shp.n44 {X : XH} (q : Shp X) : hln X 44 = 24 := q.2.2.1 44 (leb rfl)
theorem Shp.n45 {X : XH} (q : Shp X) : hln X 45 = 72 := q.2.2.1 45 (leb rfl)
theorem Shp.n46 {X : XH} (q : Shp X) : hln X 46 = 72 := q.2.2.1 46 (leb rfl)
theorem Shp.n47 {X : XH} (q : Shp X) : hln X 47 = 72 := q.2.2.1 47 (leb rfl)
theorem Shp.n48 {X : XH} (q : Shp X) : hln X 48 = 15 := q.2.2.1 48 (leb rfl)
theorem Shp.n49 {X : XH} (q : Shp X) : hln X 49 = 15 := q.2.2.1 49 (leb rfl)
theorem Shp.n50 {X : XH} (q : Shp X) : hln X 50 = 12 := q.2.2.1 50 (leb rfl)
theorem Shp.n51 {X : XH} (q : Shp X) : hln X 51 = 12 := q.2.2.1 51 (leb rfl)
theorem Shp.n53 {X : XH} (q : Shp X) : hln X 53 = 24 := q.2.2.1 53 (leb rfl)
theorem Shp.n54 {X : XH} (q : Shp X) : hln X 54 = 24 := q.2.2.1 54 (leb rfl)
theorem Shp.n55 {X : XH} (q : Shp X) : hln X 55 = 24 := q.2.2.1 55 (leb rfl)
theorem Shp.n56 {X : XH} (q : Shp X) : hln X 56 = 24 := q.2.2.1 56 (leb rfl)
theorem Shp.n57 {X : XH} (q : Shp X) : hln X 57 = 72 := q.2.2.1 57 (leb rfl)
theorem Shp.n58 {X : XH} (q : Shp X) : hln X 58 = 72 := q.2.2.1 58 (leb rfl)
theorem Shp.n59 {X : XH} (q : Shp X) : hln X 59 = 72 := q.2.2.1 59 (leb rfl)
theorem Shp.n60 {X : XH} (q : Shp X) : hln X 60 = 15 := q.2.2.1 60 (leb rfl)
theorem Shp.n61 {X : XH} (q : Shp X) : hln X 61 = 15 := q.2.2.1 61 (leb rfl)
theorem Shp.n62 {X : XH} (q : Shp X) : hln X 62 = 12 := q.2.2.1 62 (leb rfl)
theorem Shp.n63 {X : XH} (q : Shp X) : hln X 63 = 12 := q.2.2.1 63 (leb rfl)
theorem Shp.n65 {X : XH} (q : Shp X) : hln X 65 = 24 := q.2.2.1 65 (leb rfl)
theorem Shp.n66 {X : XH} (q : Shp X) : hln X 66 = 24 := q.2.2.1 66 (leb rfl)
theorem Shp.n67 {X : XH} (q : Shp X) : hln X 67 = 24 := q.2.2.1 67 (leb rfl)
theorem Shp.n68 {X : XH} (q : Shp X) : hln X 68 = 24 := q.2.2.1 68 (leb rfl)
theorem Shp.n69 {X : XH} (q : Shp X) : hln X 69 = 72 := q.2.2.1 69 (leb rfl)
theorem Shp.n70 {X : XH} (q : Shp X) : hln X 70 = 72 := q.2.2.1 70 (leb rfl)
theorem Shp.n71 {X : XH} (q : Shp X) : hln X 71 = 72 := q.2.2.1 71 (leb rfl)
theorem Shp.n72 {X : XH} (q : Shp X) : hln X 72 = 15 := q.2.2.1 72 (leb rfl)
theorem Shp.n73 {X : XH} (q : Shp X) : hln X 73 = 15 := q.2.2.1 73 (leb rfl)
theorem Shp.n74 {X : XH} (q : Shp X) : hln X 74 = 12 := q.2.2.1 74 (leb rfl)
theorem Shp.n75 {X : XH} (q : Shp X) : hln X 75 = 12 := q.2.2.1 75 (leb rfl)
theorem Shp.n77 {X : XH} (q : Shp X) : hln X 77 = 24 := q.2.2.1 77 (leb rfl)
theorem Shp.n78 {X : XH} (q : Shp X) : hln X 78 = 24 := q.2.2.1 78 (leb rfl)
theorem Shp.n79 {X : XH} (q : Shp X) : hln X 79 = 24 := q.2.2.1 79 (leb rfl)
theorem Shp.n80 {X : XH} (q : Shp X) : hln X 80 = 24 := q.2.2.1 80 (leb rfl)
theorem Shp.n81 {X : XH} (q : Shp X) : hln X 81 = 72 := q.2.2.1 81 (leb rfl)
theorem Shp.n82 {X : XH} (q : Shp X) : hln X 82 = 72 := q.2.2.1 82 (leb rfl)
theorem Shp.n83 {X : XH} (q : Shp X) : hln X 83 = 72 := q.2.2.1 83 (leb rfl)
theorem Shp.n84 {X : XH} (q : Shp X) : hln X 84 = 15 := q.2.2.1 84 (leb rfl)
theorem Shp.n85 {X : XH} (q : Shp X) : hln X 85 = 15 := q.2.2.1 85 (leb rfl)
theorem Shp.n86 {X : XH} (q : Shp X) : hln X 86 = 12 := q.2.2.1 86 (leb rfl)
theorem Shp.n87 {X : XH} (q : Shp X) : hln X 87 = 12 := q.2.2.1 87 (leb rfl)
theorem Shp.n88 {X : XH} (q : Shp X) : hln X 88 = 2 := q.2.2.1 88 (leb rfl)
theorem Shp.n90 {X : XH} (q : Shp X) : hln X 90 = 24 := q.2.2.1 90 (leb rfl)
theorem Shp.n91 {X : XH} (q : Shp X) : hln X 91 = 24 := q.2.2.1 91 (leb rfl)
theorem Shp.n92 {X : XH} (q : Shp X) : hln X 92 = 24 := q.2.2.1 92 (leb rfl)
theorem Shp.n93 {X : XH} (q : Shp X) : hln X 93 = 24 := q.2.2.1 93 (leb rfl)
theorem Shp.n94 {X : XH} (q : Shp X) : hln X 94 = 72 := q.2.2.1 94 (leb rfl)
theorem Shp.n95 {X : XH} (q : Shp X) : hln X 95 = 72 := q.2.2.1 95 (leb rfl)
theorem Shp.n96 {X : XH} (q : Shp X) : hln X 96 = 72 := q.2.2.1 96 (leb rfl)
theorem Shp.n97 {X : XH} (q : Shp X) : hln X 97 = 15 := q.2.2.1 97 (leb rfl)
theorem Shp.n98 {X : XH} (q : Shp X) : hln X 98 = 15 := q.2.2.1 98 (leb rfl)
theorem Shp.n99 {X : XH} (q : Shp X) : hln X 99 = 12 := q.2.2.1 99 (leb rfl)
theorem Shp.n100 {X : XH} (q : Shp X) : hln X 100 = 12 := q.2.2.1 100 (leb rfl)
theorem Shp.n102 {X : XH} (q : Shp X) : hln X 102 = 24 := q.2.2.1 102 (leb rfl)
theorem Shp.n103 {X : XH} (q : Shp X) : hln X 103 = 24 := q.2.2.1 103 (leb rfl)
theorem Shp.n104 {X : XH} (q : Shp X) : hln X 104 = 24 := q.2.2.1 104 (leb rfl)
theorem Shp.n105 {X : XH} (q : Shp X) : hln X 105 = 24 := q.2.2.1 105 (leb rfl)
theorem Shp.n106 {X : XH} (q : Shp X) : hln X 106 = 72 := q.2.2.1 106 (leb rfl)
theorem Shp.n107 {X : XH} (q : Shp X) : hln X 107 = 72 := q.2.2.1 107 (leb rfl)
theorem Shp.n108 {X : XH} (q : Shp X) : hln X 108 = 72 := q.2.2.1 108 (leb rfl)
theorem Shp.n109 {X : XH} (q : Shp X) : hln X 109 = 15 := q.2.2.1 109 (leb rfl)
theorem Shp.n110 {X : XH} (q : Shp X) : hln X 110 = 15 := q.2.2.1 110 (leb rfl)
theorem Shp.n111 {X : XH} (q : Shp X) : hln X 111 = 12 := q.2.2.1 111 (leb rfl)
theorem Shp.n112 {X : XH} (q : Shp X) : hln X 112 = 12 := q.2.2.1 112 (leb rfl)
theorem Shp.n113 {X : XH} (q : Shp X) : hln X 113 = 2 := q.2.2.1 113 (leb rfl)
theorem Shp.n115 {X : XH} (q : Shp X) : hln X 115 = 60 := q.2.2.1 115 (leb rfl)
theorem Shp.n116 {X : XH} (q : Shp X) : hln X 116 = 60 := q.2.2.1 116 (leb rfl)
theorem Shp.n117 {X : XH} (q : Shp X) : hln X 117 = 60 := q.2.2.1 117 (leb rfl)
theorem Shp.n118 {X : XH} (q : Shp X) : hln X 118 = 60 := q.2.2.1 118 (leb rfl)
theorem Shp.n119 {X : XH} (q : Shp X) : hln X 119 = 60 := q.2.2.1 119 (leb rfl)
theorem Shp.n121 {X : XH} (q : Shp X) : hln X 121 = 24 := q.2.2.1 121 (leb rfl)
theorem Shp.n122 {X : XH} (q : Shp X) : hln X 122 = 25 := q.2.2.1 122 (leb rfl)
theorem Shp.r1_0 {X : XH} (q : Shp X) : hR X 1 0 = 2 := q.2.2.2 1 0 rfl
theorem Shp.r1_1 {X : XH} (q : Shp X) : hR X 1 1 = 14 := q.2.2.2 1 1 rfl
theorem Shp.r1_2 {X : XH} (q : Shp X) : hR X 1 2 = 88 := q.2.2.2 1 2 rfl
theorem Shp.r1_3 {X : XH} (q : Shp X) : hR X 1 3 = 113 := q.2.2.2 1 3 rfl
theorem Shp.r1_4 {X : XH} (q : Shp X) : hR X 1 4 = 114 := q.2.2.2 1 4 rfl
theorem Shp.r1_5 {X : XH} (q : Shp X) : hR X 1 5 = 120 := q.2.2.2 1 5 rfl
theorem Shp.r2_1 {X : XH} (q : Shp X) : hR X 2 1 = 3 := q.2.2.2 2 1 rfl
theorem Shp.r2_2 {X : XH} (q : Shp X) : hR X 2 2 = 4 := q.2.2.2 2 2 rfl
theorem Shp.r2_3 {X : XH} (q : Shp X) : hR X 2 3 = 5 := q.2.2.2 2 3 rfl
theorem Shp.r2_4 {X : XH} (q : Shp X) : hR X 2 4 = 6 := q.2.2.2 2 4 rfl
theorem Shp.r2_5 {X : XH} (q : Shp X) : hR X 2 5 = 7 := q.2.2.2 2 5 rfl
theorem Shp.r2_6 {X : XH} (q : Shp X) : hR X 2 6 = 8 := q.2.2.2 2 6 rfl
theorem Shp.r2_7 {X : XH} (q : Shp X) : hR X 2 7 = 9 := q.2.2.2 2 7 rfl
theorem Shp.r2_8 {X : XH} (q : Shp X) : hR X 2 8 = 10 := q.2.2.2 2 8 rfl
theorem Shp.r2_9 {X : XH} (q : Shp X) : hR X 2 9 = 11 := q.2.2.2 2 9 rfl
theorem Shp.r2_10 {X : XH} (q : Shp X) : hR X 2 10 = 12 := q.2.2.2 2 10 rfl
theorem Shp.r2_11 {X : XH} (q : Shp X) : hR X 2 11 = 13 := q.2.2.2 2 11 rfl
theorem Shp.r14_0 {X : XH} (q : Shp X) : hR X 14 0 = 15 := q.2.2.2 14 0 rfl
theorem Shp.r88_0 {X : XH} (q : Shp X) : hR X 88 0 = 89 := q.2.2.2 88 0 rfl
theorem Shp.r88_1 {X : XH} (q : Shp X) : hR X 88 1 = 101 := q.2.2.2 88 1 rfl
theorem Shp.r114_0 {X : XH} (q : Shp X) : hR X 114 0 = 115 := q.2.2.2 114 0 rfl
theorem Shp.r114_2 {X : XH} (q : Shp X) : hR X 114 2 = 116 := q.2.2.2 114 2 rfl
theorem Shp.r114_3 {X : XH} (q : Shp X) : hR X 114 3 = 117 := q.2.2.2 114 3 rfl
theorem Shp.r114_4 {X : XH} (q : Shp X) : hR X 114 4 = 118 := q.2.2.2 114 4 rfl
theorem Shp.r114_5 {X : XH} (q : Shp X) : hR X 114 5 = 119 := q.2.2.2 114 5 rfl
theorem Shp.r120_0 {X : XH} (q : Shp X) : hR X 120 0 = 121 := q.2.2.2 120 0 rfl
theorem Shp.r120_1 {X : XH} (q : Shp X) : hR X 120 1 = 122 := q.2.2.2 120 1 rfl
end QS
end PB
