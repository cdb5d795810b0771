/-! the last lines of the law: numbers, the text of one clause, its row -/
section TA
variable {C n r s l1 l2 Y : Nat} {u : Nat → Nat}
theorem n_c1 (hC : C < 2147483648) : ∃ r, r < 4 ∧ Int32.ofNat C - Int32.ofNat C / (4 : Int32) * (4 : Int32) = Int32.ofNat r := ⟨C % 4, Nat.mod_lt _ (by decide), nr (b := 4) hC (by decide)⟩
theorem n_c2 (hC : C < 2147483648) : ∃ s, s < 5 ∧ Int32.ofNat C / (4 : Int32) - Int32.ofNat C / (4 : Int32) / (5 : Int32) * (5 : Int32) = Int32.ofNat s := by
  have e : Int32.ofNat C / (4 : Int32) = Int32.ofNat (C / 4) := nd (b := 4) hC (by decide)
  rw [e]
  exact ⟨C / 4 % 5, Nat.mod_lt _ (by decide), nr (b := 5) (by omega) (by decide)⟩
theorem n_c3 (hC : C < 2147483648) : ∃ l1 l2, 1 ≤ l1 ∧ l2 ≤ 9 ∧ 10 * l1 + l2 ≤ 60 ∧ (10 : Int32) + (Int32.ofNat C / (32 : Int32) - Int32.ofNat C / (32 : Int32) / (51 : Int32) * (51 : Int32)) = Int32.ofNat (10 * l1 + l2) := by
  have e : Int32.ofNat C / (32 : Int32) = Int32.ofNat (C / 32) := nd (b := 32) hC (by decide)
  have e2 : Int32.ofNat (C / 32) - Int32.ofNat (C / 32) / (51 : Int32) * (51 : Int32) = Int32.ofNat (C / 32 % 51) := nr (b := 51) (by omega) (by decide)
  have h := Nat.mod_lt (C / 32) (show 51 > 0 by decide)
  rw [e, e2]
  refine ⟨(10 + C / 32 % 51) / 10, (10 + C / 32 % 51) % 10, by omega, by omega, by omega, ?_⟩
  rw [show 10 * ((10 + C / 32 % 51) / 10) + (10 + C / 32 % 51) % 10 = 10 + C / 32 % 51 by omega]
  exact la 10 _
theorem n_c4 (hC : C < 2147483648) : ∃ Y, 1 ≤ Y ∧ Y ≤ 9 ∧ (1 : Int32) + (Int32.ofNat C / (4096 : Int32) - Int32.ofNat C / (4096 : Int32) / (9 : Int32) * (9 : Int32)) = Int32.ofNat Y := by
  have e : Int32.ofNat C / (4096 : Int32) = Int32.ofNat (C / 4096) := nd (b := 4096) hC (by decide)
  have e2 : Int32.ofNat (C / 4096) - Int32.ofNat (C / 4096) / (9 : Int32) * (9 : Int32) = Int32.ofNat (C / 4096 % 9) := nr (b := 9) (by omega) (by decide)
  have h := Nat.mod_lt (C / 4096) (show 9 > 0 by decide)
  rw [e, e2]
  exact ⟨1 + C / 4096 % 9, by omega, by omega, la 1 _⟩
theorem n_dg (h1 : 1 ≤ l1) (h2 : l2 ≤ 9) (h3 : 10 * l1 + l2 ≤ 60) : (48 : Int32) + Int32.ofNat (10 * l1 + l2) / (10 : Int32) = Int32.ofNat (48 + l1) ∧ (48 : Int32) + (Int32.ofNat (10 * l1 + l2) - Int32.ofNat (10 * l1 + l2) / (10 : Int32) * (10 : Int32)) = Int32.ofNat (48 + l2) := by
  have e1 : Int32.ofNat (10 * l1 + l2) / (10 : Int32) = Int32.ofNat l1 := by
    refine (nd (b := 10) (by omega) (by decide)).trans ?_
    congr 1
    omega
  have e2 : Int32.ofNat (10 * l1 + l2) - Int32.ofNat (10 * l1 + l2) / (10 : Int32) * (10 : Int32) = Int32.ofNat l2 := by
    refine (nr (b := 10) (by omega) (by decide)).trans ?_
    congr 1
    omega
  rw [e2, e1]
  exact ⟨la 48 _, la 48 _⟩
theorem wh6 (hr : r < 4) (hs : s < 5) (h1 : 1 ≤ l1) (h2 : l2 ≤ 9) (h3 : 10 * l1 + l2 ≤ 60) (hY : 1 ≤ Y) (hY2 : Y ≤ 9) (u0 : u 0 = 48 + r) (u1 : u 1 = 65 + s) (u2 : u 2 = 48 + l1) (u3 : u 3 = 48 + l2) (u4 : u 4 = 126) (u5 : u 5 = 48 + Y) : (whR 6 u 61 0).2 = some [(r, s, 10 * l1 + l2, Y)] := by
  have x0 : nx 6 u 0 = 48 + r := (nx_of (by decide)).trans u0
  have x1 : nx 6 u 1 = 65 + s := (nx_of (by decide)).trans u1
  have x2 : nx 6 u 2 = 48 + l1 := (nx_of (by decide)).trans u2
  have x3 : nx 6 u 3 = 48 + l2 := (nx_of (by decide)).trans u3
  have x4 : nx 6 u 4 = 126 := (nx_of (by decide)).trans u4
  have x5 : nx 6 u 5 = 48 + Y := (nx_of (by decide)).trans u5
  have x6 : nx 6 u 6 = 0 := nx_out (by decide)
  have n2 : numR 6 u 1 20 5 = (6, some Y) := by
    unfold numR
    rw [x5, show 5 + 1 = 6 from rfl, x6, if_pos (by omega), if_neg (by omega), if_neg (by omega)]
    rw [show 48 + Y - 48 = Y by omega]
  have n1 : numR 6 u 4 60 2 = (4, some (10 * l1 + l2)) := by
    unfold numR
    rw [x2, show 2 + 1 = 3 from rfl, x3, if_pos (by omega), if_pos (by omega)]
    rw [show 48 + l1 - 48 = l1 by omega, show 48 + l2 - 48 = l2 by omega]
  have p3 : prt3 6 u r s (10 * l1 + l2) 5 = (6, some (r, s, 10 * l1 + l2, Y)) := by
    unfold prt3
    rw [n2]
    rfl
  have pb : prt2b 6 u r s (10 * l1 + l2) 4 = (6, some (r, s, 10 * l1 + l2, Y)) := by
    unfold prt2b
    rw [x4, if_pos rfl]
    exact p3
  have p2 : prt2 6 u r s 2 = (6, some (r, s, 10 * l1 + l2, Y)) := by
    unfold prt2
    rw [n1]
    exact pb
  have p1 : prt1 6 u r 1 = (6, some (r, s, 10 * l1 + l2, Y)) := by
    unfold prt1
    rw [x1, if_pos (by omega), show 65 + s - 65 = s by omega]
    exact p2
  have pR : prtR 6 u 0 = (6, some (r, s, 10 * l1 + l2, Y)) := by
    unfold prtR
    rw [x0, if_pos (by omega), show 48 + r - 48 = r by omega]
    exact p1
  unfold whR
  rw [pR]
  rfl
theorem add_y {g : Row} {S L Z Y : Int32} (hn : n < 24) (hr : r < 4) : upr (addG g n r S L Z) (13 * n + 3) Y = addG g n r S L Y := by
  funext k
  by_cases h : k = 13 * n + 3
  · subst h
    rw [upr_eq]
    unfold addG unmA unm
    rw [upr_ne (by omega), upr_ne (by omega), upr_ne (by omega), upr_ne (by omega), upr_ne (by omega), upr_ne (by omega), upr_ne (by omega), upr_eq]
  · rw [upr_ne h]
    unfold addG unmA unm upr
    simp only [h, if_false]
/-- the row of a clause that is new -/
theorem add_r {g : Row} {S L Z : Int32} (hn : n < 24) : gL (addG g n r S L Z) n = L ∧ gH (addG g n r S L Z) n = Z := by
  unfold gL gH addG unmA unm
  constructor
  · rw [upr_ne (by omega), upr_ne (by omega), upr_ne (by omega), upr_ne (by omega), upr_ne (by omega), upr_ne (by omega), upr_ne (by omega), upr_ne (by omega), upr_eq]
  · rw [upr_ne (by omega), upr_ne (by omega), upr_ne (by omega), upr_ne (by omega), upr_ne (by omega), upr_ne (by omega), upr_ne (by omega), upr_eq]
theorem add_t {g : Row} {S L Z : Int32} (i : Inv g n) (hn : n < 24) : pTA (addG g n r S L Z) n = false := by
  have e : ∀ t, t < 3 → pTk (addG g n r S L Z) n t = false := fun t ht => by
    have e1 : gT (addG g n r S L Z) n t = 0 := by
      unfold gT addG unmA unm
      rw [upr_ne (by omega), upr_ne (by omega), upr_ne (by omega), upr_ne (by omega), upr_ne (by omega), upr_ne (by omega), upr_ne (by omega), upr_ne (by omega), upr_ne (by omega), upr_ne (by omega), upr_ne (by omega)]
      exact i.2.2.1 _ (by omega) (by omega)
    unfold pTk
    rw [e1]
    rfl
  unfold pTA
  rw [e 0 (by decide), e 1 (by decide), e 2 (by decide)]
  rfl
end TA
