/-! the buffer's text: the class's machine and  parser read the same -/
section PT
theorem of_inj' {i j : Nat} (hi : i < 4096) (hj : j < 4096) : (Int32.ofNat i = Int32.ofNat j) = (i = j) := of_inj hi hj
theorem ltk {i k : Nat} (hi : i < 4096) (hk : k < 4096) : (Int32.ofNat i < Int32.ofNat k) = (i < k) := of_lt hi hk
theorem sub_of {i k : Nat} (h : k ≤ i) : Int32.ofNat i - Int32.ofNat k = Int32.ofNat (i - k) := (Int32.ofNat_sub _ _ h).symm
def dTx (a : Nat) : Bool := decide (114 ≤ a) && decide (a ≤ 119)
/-- scratch of the buffer alone has changed -/
def AgT (X X1 : XH) : Prop := Ag dTx X X1 ∧ hI X1 114 1 = hI X 114 1 ∧ hI X1 115 = hI X 115
theorem AgT.rf {X : XH} : AgT X X := ⟨Ag.rf, rfl, rfl⟩
theorem AgT.row {X X1 : XH} {a k : Nat} {v : Int32} (h : AgT X X1) (h1 : 116 ≤ a) (h2 : a ≤ 119) : AgT X (sI X1 a k v) := by
  refine ⟨h.1.sI ?_, by rw [sI_ne (by omega)]; exact h.2.1, by rw [sI_ne (by omega)]; exact h.2.2⟩
  unfold dTx
  simp
  omega
theorem AgT.fld {X X1 : XH} {k : Nat} {v : Int32} (h : AgT X X1) (h1 : k ≠ 1) : AgT X (sI X1 114 k v) := ⟨h.1.sI (by decide), by rw [sI_nk (by omega)]; exact h.2.1, by rw [sI_ne (by decide)]; exact h.2.2⟩
variable {X : XH} {p s l y : Nat} {K : Int32 → XH → Prop}
theorem acc0 (q : Shp X) (he : hI X 114 7 = 0) (hp : hI X 114 6 = Int32.ofNat p) (hp6 : p < 60) (hs : s < 200) : w_X0_accepts 114 (Int32.ofNat s) X K = (if 48 ≤ s ∧ s < 52 then K 1 (sI (sI X 116 p (Int32.ofNat (s - 48))) 114 7 1) else K 0 X) := by
  have e1 : (Int32.ofNat s < 48) = (s < 48) := ltk (k := 48) (by omega) (by decide)
  have e2 : (Int32.ofNat s < 52) = (s < 52) := ltk (k := 52) (by omega) (by decide)
  have z0 : (0 : Int32).toInt = 0 := rfl
  unfold w_X0_accepts w_X0_acceptsReel
  simp only [q.t114, he, z0, hp, q.r114_2, e1, e2, show ((0 : Int) < 0 ∨ 2 < (0 : Int)) = False from by decide, show ((0 : Int) = 1) = False from by decide, show ((0 : Int) = 2) = False from by decide, put_eq q.t116 q.n116 hp6 (by decide), show ((0 : Int32) = 0 ∨ (0 : Int32) = 1) = True from by decide, show ((1 : Int32) = 0 ∨ (1 : Int32) = 1) = True from by decide, hty_sI, hln_sI, hR_sI, cnd1, cnd2, b2i_0, b2i_1, b2i_z, if_true, if_false, true_and, and_true, true_implies, false_implies, ne_eq, not_false_eq_true, not_true_eq_false, eq_self, true_or, or_true, false_or, or_false, Nat.reduceEqDiff, i10]
  by_cases h1 : s < 48
  · rw [if_pos h1, if_neg (by omega)]
  · rw [if_neg h1]
    by_cases h2 : s < 52
    · rw [if_pos h2, if_pos (by omega), show (48 : Int32) = Int32.ofNat 48 from rfl, sub_of (by omega)]
    · rw [if_neg h2, if_neg (by omega)]
theorem acc1 (q : Shp X) (he : hI X 114 7 = 1) (hp : hI X 114 6 = Int32.ofNat p) (hp6 : p < 60) (hs : s < 200) : w_X0_accepts 114 (Int32.ofNat s) X K = (if 65 ≤ s ∧ s < 70 then K 1 (sI (sI (sI (sI X 117 p (Int32.ofNat (s - 65))) 118 p 0) 119 p 0) 114 7 2) else K 0 X) := by
  have e1 : (Int32.ofNat s < 65) = (s < 65) := ltk (k := 65) (by omega) (by decide)
  have e2 : (Int32.ofNat s < 70) = (s < 70) := ltk (k := 70) (by omega) (by decide)
  have z0 : (1 : Int32).toInt = 1 := rfl
  have qa : ∀ v, Shp (sI X 117 p v) := fun v => q
  have qb : ∀ v, Shp (sI (sI X 117 p v) 118 p 0) := fun v => q
  have ha : ∀ v, hI (sI X 117 p v) 114 6 = Int32.ofNat p := fun v => by rw [sI_ne (by decide)]; exact hp
  have hb : ∀ v, hI (sI (sI X 117 p v) 118 p 0) 114 6 = Int32.ofNat p := fun v => by rw [sI_ne (by decide), sI_ne (by decide)]; exact hp
  unfold w_X0_accepts w_X0_acceptsSpeaker
  simp only [q.t114, he, z0, hp, q.r114_3, q.r114_4, q.r114_5, e1, e2, show ((1 : Int) < 0 ∨ 2 < (1 : Int)) = False from by decide, show ((1 : Int) = 0) = False from by decide, show ((1 : Int) = 2) = False from by decide, put_eq q.t117 q.n117 hp6 (show 60 < 4096 by decide), ha, put_eq (qa _).t118 (qa _).n118 hp6 (show 60 < 4096 by decide), hb, put_eq (qb _).t119 (qb _).n119 hp6 (show 60 < 4096 by decide), show ((0 : Int32) = 0 ∨ (0 : Int32) = 1) = True from by decide, show ((1 : Int32) = 0 ∨ (1 : Int32) = 1) = True from by decide, hty_sI, hln_sI, hR_sI, cnd1, cnd2, b2i_0, b2i_1, b2i_z, if_true, if_false, true_and, and_true, true_implies, false_implies, ne_eq, not_false_eq_true, not_true_eq_false, eq_self, true_or, or_true, false_or, or_false, Nat.reduceEqDiff, i10]
  by_cases h1 : s < 65
  · rw [if_pos h1, if_neg (by omega)]
  · rw [if_neg h1]
    by_cases h2 : s < 70
    · rw [if_pos h2, if_pos (by omega), show (65 : Int32) = Int32.ofNat 65 from rfl, sub_of (by omega)]
    · rw [if_neg h2, if_neg (by omega)]
theorem accD {a v most : Nat} (q : Shp X) (ta : hty X a = 100) (na : hln X a = 60) (hp : hI X 114 6 = Int32.ofNat p) (hp6 : p < 60) (hv : hI X a p = Int32.ofNat v) (hv6 : v < 100) (h1 : 48 ≤ s) (h2 : s ≤ 57) (hm : most < 100) : w_X0_acceptsDigit 114 a (Int32.ofNat s) (Int32.ofNat most) X K = (if 1 ≤ 10 * v + (s - 48) ∧ 10 * v + (s - 48) ≤ most then K 1 (sI X a p (Int32.ofNat (10 * v + (s - 48)))) else K 0 X) := by
  have e : Int32.ofNat v * 10 + Int32.ofNat s - 48 = Int32.ofNat (10 * v + (s - 48)) := by
    rw [show (48 : Int32) = Int32.ofNat 48 from rfl, show (10 : Int32) = Int32.ofNat 10 from rfl, ← Int32.ofNat_mul, ← Int32.ofNat_add, sub_of (by omega)]
    congr 1
    omega
  have e1 : (Int32.ofNat (10 * v + (s - 48)) < 1) = (10 * v + (s - 48) < 1) := ltk (k := 1) (by omega) (by decide)
  unfold w_X0_acceptsDigit
  simp only [q.t114, hp, at_eq ta na hp6 (show 60 < 4096 by decide), hv, e, e1, of_le (show 10 * v + (s - 48) < 4096 by omega) (show most < 4096 by omega), put_eq ta na hp6 (show 60 < 4096 by decide), hty_sI, hln_sI, hR_sI, cnd1, cnd2, b2i_0, b2i_1, b2i_z, if_true, if_false, true_and, and_true, true_implies, false_implies, ne_eq, not_false_eq_true, not_true_eq_false, eq_self, true_or, or_true, false_or, or_false, Nat.reduceEqDiff, i10]
  by_cases g1 : 10 * v + (s - 48) < 1
  · rw [if_pos g1, if_neg (by omega)]
  · rw [if_neg g1]
    by_cases g2 : 10 * v + (s - 48) ≤ most
    · rw [if_pos g2, if_pos (by omega)]
    · rw [if_neg g2, if_neg (by omega)]
theorem acc2 (q : Shp X) (he : hI X 114 7 = 2) (hp : hI X 114 6 = Int32.ofNat p) (hp6 : p < 60) (hL : hI X 118 p = Int32.ofNat l) (hl : l < 100) (hs : s < 200) : w_X0_accepts 114 (Int32.ofNat s) X K = (if 48 ≤ s ∧ s ≤ 57 then (if 1 ≤ 10 * l + (s - 48) ∧ 10 * l + (s - 48) ≤ 60 then K 1 (sI X 118 p (Int32.ofNat (10 * l + (s - 48)))) else K 0 X)
    else if l < 4 then K 0 X else if s = 126 then K 1 (sI X 114 7 3) else if s = 59 then K 1 (sI (sI X 114 6 (Int32.ofNat (p + 1))) 114 7 0) else K 0 X) := by
  have e1 : (Int32.ofNat s < 48) = (s < 48) := ltk (k := 48) (by omega) (by decide)
  have e2 : (57 < Int32.ofNat s) = (57 < s) := ltk (i := 57) (by decide) (by omega)
  have e3 : (4 ≤ Int32.ofNat l) = (4 ≤ l) := of_le (i := 4) (by decide) (by omega)
  have e4 : (Int32.ofNat s = 126) = (s = 126) := of_inj (j := 126) (by omega) (by decide)
  have e5 : (Int32.ofNat s = 59) = (s = 59) := of_inj (j := 59) (by omega) (by decide)
  have z0 : (2 : Int32).toInt = 2 := rfl
  unfold w_X0_accepts w_X0_acceptsLips w_X0_acceptsLips_24 w_X0_acceptsEnd
  simp only [q.t114, he, z0, hp, q.r114_4, e1, e2, e3, e4, e5, show ((2 : Int) < 0 ∨ 2 < (2 : Int)) = False from by decide, show ((2 : Int) = 0) = False from by decide, show ((2 : Int) = 1) = False from by decide, at_eq q.t118 q.n118 hp6 (show 60 < 4096 by decide), hL, of_s, show ((0 : Int32) = 0 ∨ (0 : Int32) = 1) = True from by decide, show ((1 : Int32) = 0 ∨ (1 : Int32) = 1) = True from by decide, hty_sI, hln_sI, hR_sI, cnd1, cnd2, b2i_0, b2i_1, b2i_z, if_true, if_false, true_and, and_true, true_implies, false_implies, ne_eq, not_false_eq_true, not_true_eq_false, eq_self, true_or, or_true, false_or, or_false, Nat.reduceEqDiff, i10]
  by_cases g : 48 ≤ s ∧ s ≤ 57
  · rw [if_pos g, if_neg (by omega), if_neg (by omega), show (60 : Int32) = Int32.ofNat 60 from rfl, accD q q.t118 q.n118 hp hp6 hL hl g.1 g.2 (by decide)]
    simp only [or_true, true_or, true_and]
  · rw [if_neg g]
    have h9 : s < 48 ∨ 57 < s := by omega
    have red : ∀ A B : Prop, (if s < 48 then A else if 57 < s then A else B) = A := by
      intro A B
      rcases h9 with h | h
      · rw [if_pos h]
      · rw [if_neg (by omega), if_pos h]
    rw [red]
    by_cases g1 : l < 4
    · rw [if_pos g1, if_neg (by omega)]
    · rw [if_neg g1, if_pos (by omega)]
theorem acc3 (q : Shp X) (he : hI X 114 7 = 3) (hp : hI X 114 6 = Int32.ofNat p) (hp6 : p < 60) (hY : hI X 119 p = Int32.ofNat y) (hy : y < 100) (hs : s < 200) : w_X0_accepts 114 (Int32.ofNat s) X K = (if 48 ≤ s ∧ s ≤ 57 then (if 1 ≤ 10 * y + (s - 48) ∧ 10 * y + (s - 48) ≤ 20 then K 1 (sI X 119 p (Int32.ofNat (10 * y + (s - 48)))) else K 0 X)
    else if y < 1 then K 0 X else if s = 59 then K 1 (sI (sI X 114 6 (Int32.ofNat (p + 1))) 114 7 0) else K 0 X) := by
  have e1 : (Int32.ofNat s < 48) = (s < 48) := ltk (k := 48) (by omega) (by decide)
  have e2 : (57 < Int32.ofNat s) = (57 < s) := ltk (i := 57) (by decide) (by omega)
  have e3 : (Int32.ofNat y < 1) = (y < 1) := ltk (k := 1) (by omega) (by decide)
  have e5 : (Int32.ofNat s = 59) = (s = 59) := of_inj (j := 59) (by omega) (by decide)
  have z0 : (3 : Int32).toInt = 3 := rfl
  unfold w_X0_accepts w_X0_acceptsSigh w_X0_acceptsSigh_24 w_X0_acceptsEnd
  simp only [q.t114, he, z0, hp, q.r114_5, e1, e2, e3, e5, show ((3 : Int) < 0 ∨ 2 < (3 : Int)) = True from by decide, show ((3 : Int) = 0) = False from by decide, show ((3 : Int) = 1) = False from by decide, show ((3 : Int) = 2) = False from by decide, at_eq q.t119 q.n119 hp6 (show 60 < 4096 by decide), hY, of_s, show ((0 : Int32) = 0 ∨ (0 : Int32) = 1) = True from by decide, show ((1 : Int32) = 0 ∨ (1 : Int32) = 1) = True from by decide, hty_sI, hln_sI, hR_sI, cnd1, cnd2, b2i_0, b2i_1, b2i_z, if_true, if_false, true_and, and_true, true_implies, false_implies, ne_eq, not_false_eq_true, not_true_eq_false, eq_self, true_or, or_true, false_or, or_false, Nat.reduceEqDiff, i10]
  by_cases g : 48 ≤ s ∧ s ≤ 57
  · rw [if_pos g, if_neg (by omega), if_neg (by omega), show (20 : Int32) = Int32.ofNat 20 from rfl, accD q q.t119 q.n119 hp hp6 hY hy g.1 g.2 (by decide)]
    simp only [or_true, true_or, true_and]
  · rw [if_neg g]
    have h9 : s < 48 ∨ 57 < s := by omega
    have red : ∀ A B : Prop, (if s < 48 then A else if 57 < s then A else B) = A := by
      intro A B
      rcases h9 with h | h
      · rw [if_pos h]
      · rw [if_neg (by omega), if_pos h]
    rw [red]
end PT
