/-! the class reads the buffer's text as the parser does -/
section PU
abbrev R4 : Type := Nat × Nat × Nat × Nat
/-- sign i, 0 behind the last -/
def nx (n : Nat) (u : Nat → Nat) (i : Nat) : Nat := if i < n then u i else 0
/-- a number: where it ends, or where it is wrong -/
def numR (n : Nat) (u : Nat → Nat) (least most i : Nat) : Nat × Option Nat :=
  if 49 ≤ nx n u i ∧ nx n u i ≤ 57 then
    if (48 ≤ nx n u (i + 1) ∧ nx n u (i + 1) ≤ 57) ∧ 10 * (nx n u i - 48) + (nx n u (i + 1) - 48) ≤ most then (i + 2, some (10 * (nx n u i - 48) + (nx n u (i + 1) - 48)))
    else if nx n u i - 48 < least then (i + 1, none) else (i + 1, some (nx n u i - 48))
  else (i, none)
def prt3 (n : Nat) (u : Nat → Nat) (r s l j : Nat) : Nat × Option R4 := ((numR n u 1 20 j).1, (numR n u 1 20 j).2.map fun y => (r, s, l, y))
def prt2b (n : Nat) (u : Nat → Nat) (r s l j : Nat) : Nat × Option R4 := if nx n u j = 126 then prt3 n u r s l (j + 1) else (j, some (r, s, l, 0))
def prt2 (n : Nat) (u : Nat → Nat) (r s j : Nat) : Nat × Option R4 := match numR n u 4 60 j with
  | (j, none) => (j, none)
  | (j, some l) => prt2b n u r s l j
def prt1 (n : Nat) (u : Nat → Nat) (r i : Nat) : Nat × Option R4 := if 65 ≤ nx n u i ∧ nx n u i ≤ 69 then prt2 n u r (nx n u i - 65) (i + 1) else (i, none)
def prtR (n : Nat) (u : Nat → Nat) (i : Nat) : Nat × Option R4 := if 48 ≤ nx n u i ∧ nx n u i ≤ 51 then prt1 n u (nx n u i - 48) (i + 1) else (i, none)
theorem nx_of {n : Nat} {u : Nat → Nat} {i : Nat} (h : i < n) : nx n u i = u i := if_pos h
theorem nx_out {n : Nat} {u : Nat → Nat} {i : Nat} (h : n ≤ i) : nx n u i = 0 := if_neg (by omega)
theorem sI_o {X : XH} {a b k p : Nat} {v : Int32} (h : k ≠ p) : hI (sI X a p v) b k = hI X b k := by
  by_cases e : b = a
  · rw [e]
    exact sI_nk h
  · rw [sI_ne e]
def rowAt (X : XH) (k : Nat) (x : R4) : Prop := hI X 116 k = Int32.ofNat x.1 ∧ hI X 117 k = Int32.ofNat x.2.1 ∧ hI X 118 k = Int32.ofNat x.2.2.1 ∧ hI X 119 k = Int32.ofNat x.2.2.2
def CPs (X0 X : XH) (p : Nat) (rows : Nat → R4) : Prop := AgT X0 X ∧ hI X 114 6 = Int32.ofNat p ∧ ∀ k, k < p → rowAt X k (rows k)
variable {X0 X : XH} {p n i j r s l y : Nat} {rows : Nat → R4} {u : Nat → Nat} {x : R4}
theorem CPs.row {a : Nat} {v : Int32} (c : CPs X0 X p rows) (h1 : 116 ≤ a) (h2 : a ≤ 119) : CPs X0 (sI X a p v) p rows := by
  refine ⟨c.1.row h1 h2, ?_, fun k hk => ?_⟩
  · rw [sI_ne (by omega)]
    exact c.2.1
  · have e := c.2.2 k hk
    unfold rowAt
    rw [sI_o (by omega), sI_o (by omega), sI_o (by omega), sI_o (by omega)]
    exact e
theorem rowAt.fld {k m : Nat} {v : Int32} (e : rowAt X k x) : rowAt (sI X 114 m v) k x := by
  unfold rowAt
  rw [sI_ne (by decide), sI_ne (by decide), sI_ne (by decide), sI_ne (by decide)]
  exact e
theorem CPs.st {v : Int32} (c : CPs X0 X p rows) : CPs X0 (sI X 114 7 v) p rows := by
  refine ⟨c.1.fld (by decide), ?_, fun k hk => (c.2.2 k hk).fld⟩
  rw [sI_nk (by decide)]
  exact c.2.1
def addR (rows : Nat → R4) (p : Nat) (x : R4) : Nat → R4 := fun k => if k = p then x else rows k
theorem CPs.nxt (c : CPs X0 X p rows) (e : rowAt X p x) : CPs X0 (sI (sI X 114 6 (Int32.ofNat (p + 1))) 114 7 0) (p + 1) (addR rows p x) := by
  refine ⟨(c.1.fld (by decide)).fld (by decide), ?_, fun k hk => ?_⟩
  · rw [sI_nk (by decide)]
    exact sI_at
  · refine (rowAt.fld (rowAt.fld ?_))
    unfold addR
    by_cases h : k = p
    · rw [if_pos h, h]
      exact e
    · rw [if_neg h]
      exact c.2.2 k (by omega)
/-- the state tells that no part ends here -/
def ND (X : XH) : Prop := ∃ p, p < 60 ∧ hI X 114 6 = Int32.ofNat p ∧ (hI X 114 7 = 0 ∨ hI X 114 7 = 1 ∨ (hI X 114 7 = 2 ∧ ∃ l, l < 4 ∧ hI X 118 p = Int32.ofNat l) ∨ (hI X 114 7 = 3 ∧ hI X 119 p = 0))
def Done (X0 X : XH) (p : Nat) (rows : Nat → R4) (x : R4) : Prop := CPs X0 X p rows ∧ rowAt X p x ∧ ((hI X 114 7 = 2 ∧ 4 ≤ x.2.2.1 ∧ x.2.2.1 < 100) ∨ (hI X 114 7 = 3 ∧ 1 ≤ x.2.2.2 ∧ x.2.2.2 < 100))
def Out (P : Nat → Int32 → XH → Prop) (K : Int32 → XH → Prop) (X0 : XH) (n : Nat) (u : Nat → Nat) (p : Nat) (rows : Nat → R4) (res : Nat × Option R4) : Prop :=
  (∀ X1, res.2 = none → AgT X0 X1 → (res.1 < n ∨ ND X1) → K (Int32.ofNat res.1) X1) ∧
  (∀ x X1, res.2 = some x → res.1 = n → Done X0 X1 p rows x → K (Int32.ofNat n) X1) ∧
  (∀ x X1, res.2 = some x → res.1 < n → u res.1 ≠ 59 → AgT X0 X1 → K (Int32.ofNat res.1) X1) ∧
  ∀ x X1, res.2 = some x → res.1 < n → u res.1 = 59 → CPs X0 X1 (p + 1) (addR rows p x) → hI X1 114 7 = 0 → P 114 (Int32.ofNat (res.1 + 1)) X1
variable {P : Nat → Int32 → XH → Prop} {K : Int32 → XH → Prop}
def TxP (P : Nat → Int32 → XH → Prop) (K : Int32 → XH → Prop) (X0 : XH) (n : Nat) (u : Nat → Nat) : Prop := (∀ k, k < n → 33 ≤ u k ∧ u k ≤ 126) ∧ (∀ i X, i < n → AgT X0 X → w_X0_accepts 114 (Int32.ofNat (u i)) X (fun v X' => (¬ v = 0 → P 114 (Int32.ofNat (i + 1)) X') ∧ (v = 0 → K (Int32.ofNat i) X')) → P 114 (Int32.ofNat i) X) ∧ ∀ X, AgT X0 X → K (Int32.ofNat n) X → P 114 (Int32.ofNat n) X
theorem y1 {A B : Prop} (h : A) : (¬ (1 : Int32) = 0 → A) ∧ ((1 : Int32) = 0 → B) := ⟨fun _ => h, fun e => absurd e (by decide)⟩
theorem y0 {A B : Prop} (h : B) : (¬ (0 : Int32) = 0 → A) ∧ ((0 : Int32) = 0 → B) := ⟨fun e => absurd rfl e, fun _ => h⟩
/-- behind the sigh -/
theorem T3 (q0 : Shp X0) (t : TxP P K X0 n u) (c : CPs X0 X p rows) (hp6 : p < 60) (he : hI X 114 7 = 3) (hx : rowAt X p (r, s, l, y)) (h1 : 1 ≤ y) (h2 : y ≤ 20) (hj : j ≤ n) (ov : j < n → 48 ≤ u j → u j ≤ 57 → 20 < 10 * y + (u j - 48)) (o : Out P K X0 n u p rows (j, some (r, s, l, y))) : P 114 (Int32.ofNat j) X := by
  rcases Nat.lt_or_eq_of_le hj with hj | hj
  · have q := c.1.1.shp q0
    obtain ⟨u1, u2⟩ := t.1 j hj
    refine t.2.1 j X hj c.1 ?_
    rw [acc3 (y := y) q he c.2.1 hp6 hx.2.2.2 (show y < 100 by omega) (by omega)]
    by_cases g : 48 ≤ u j ∧ u j ≤ 57
    · have := ov hj g.1 g.2
      rw [if_pos g, if_neg (by omega)]
      exact y0 (o.2.2.1 _ X rfl hj (by show u j ≠ 59; omega) c.1)
    · rw [if_neg g, if_neg (by omega)]
      by_cases g2 : u j = 59
      · rw [if_pos g2]
        exact y1 (o.2.2.2 _ _ rfl hj g2 (c.nxt hx) sI_at)
      · rw [if_neg g2]
        exact y0 (o.2.2.1 _ X rfl hj g2 c.1)
  · subst hj
    exact t.2.2 X c.1 (o.2.1 _ X rfl rfl ⟨c, hx, Or.inr ⟨he, h1, by show y < 100; omega⟩⟩)
/-- the sigh -/
theorem S3 (q0 : Shp X0) (t : TxP P K X0 n u) (c : CPs X0 X p rows) (hp6 : p < 60) (he : hI X 114 7 = 3) (hx : rowAt X p (r, s, l, 0)) (hj : j ≤ n) (o : Out P K X0 n u p rows (prt3 n u r s l j)) : P 114 (Int32.ofNat j) X := by
  rcases Nat.lt_or_eq_of_le hj with hj | hj
  · have q := c.1.1.shp q0
    obtain ⟨u1, u2⟩ := t.1 j hj
    by_cases g : 49 ≤ u j ∧ u j ≤ 57
    · refine t.2.1 j X hj c.1 ?_
      rw [acc3 (y := 0) q he c.2.1 hp6 hx.2.2.2 (by decide) (by omega), if_pos (by omega), if_pos (by omega)]
      refine y1 ?_
      have c1 : CPs X0 (sI X 119 p (Int32.ofNat (10 * 0 + (u j - 48)))) p rows := c.row (by decide) (by decide)
      have x1 : rowAt (sI X 119 p (Int32.ofNat (10 * 0 + (u j - 48)))) p (r, s, l, u j - 48) := ⟨by rw [sI_ne (by decide)]; exact hx.1, by rw [sI_ne (by decide)]; exact hx.2.1, by rw [sI_ne (by decide)]; exact hx.2.2.1, by rw [sI_at, Nat.mul_zero, Nat.zero_add]⟩
      have e1 : hI (sI X 119 p (Int32.ofNat (10 * 0 + (u j - 48)))) 114 7 = 3 := by rw [sI_ne (by decide)]; exact he
      by_cases g2 : (48 ≤ nx n u (j + 1) ∧ nx n u (j + 1) ≤ 57) ∧ 10 * (u j - 48) + (nx n u (j + 1) - 48) ≤ 20
      · have hj1 : j + 1 < n := by
          refine Decidable.byContradiction fun hx => ?_
          rw [nx_out (show n ≤ j + 1 by omega)] at g2
          omega
        rw [nx_of hj1] at g2
        have q1 := c1.1.1.shp q0
        obtain ⟨v1, v2⟩ := t.1 (j + 1) hj1
        refine t.2.1 (j + 1) _ hj1 c1.1 ?_
        rw [acc3 (y := u j - 48) q1 e1 c1.2.1 hp6 x1.2.2.2 (show u j - 48 < 100 by omega) (by omega), if_pos g2.1, if_pos (by omega)]
        refine y1 ?_
        have en : prt3 n u r s l j = (j + 2, some (r, s, l, 10 * (u j - 48) + (u (j + 1) - 48))) := by
          unfold prt3 numR
          rw [nx_of hj, nx_of hj1, if_pos g, if_pos g2]
          rfl
        rw [en] at o
        refine T3 (j := j + 2) q0 t (c1.row (by decide) (by decide)) hp6 (by rw [sI_ne (by decide)]; exact e1) (r := r) (s := s) (l := l) (y := 10 * (u j - 48) + (u (j + 1) - 48)) ⟨by rw [sI_ne (by decide)]; exact x1.1, by rw [sI_ne (by decide)]; exact x1.2.1, by rw [sI_ne (by decide)]; exact x1.2.2.1, sI_at⟩ (by omega) (by omega) (by omega) (fun _ _ _ => by omega) o
      · have en : prt3 n u r s l j = (j + 1, some (r, s, l, u j - 48)) := by
          unfold prt3 numR
          rw [nx_of hj, if_pos g, if_neg g2, if_neg (by omega)]
          rfl
        rw [en] at o
        refine T3 q0 t c1 hp6 e1 x1 (by omega) (by omega) (by omega) (fun h1 h2 h3 => ?_) o
        rw [nx_of h1] at g2
        omega
    · have en : prt3 n u r s l j = (j, none) := by
        unfold prt3 numR
        rw [nx_of hj, if_neg g]
        rfl
      rw [en] at o
      refine t.2.1 j X hj c.1 ?_
      rw [acc3 (y := 0) q he c.2.1 hp6 hx.2.2.2 (by decide) (by omega)]
      have fin : K (Int32.ofNat j) X := o.1 X rfl c.1 (Or.inl hj)
      by_cases g3 : 48 ≤ u j ∧ u j ≤ 57
      · rw [if_pos g3, if_neg (by omega)]
        exact y0 fin
      · rw [if_neg g3, if_pos (by decide)]
        exact y0 fin
  · subst hj
    have en : prt3 j u r s l j = (j, none) := by
      unfold prt3 numR
      rw [nx_out (Nat.le_refl j), if_neg (by decide)]
      rfl
    rw [en] at o
    exact t.2.2 X c.1 (o.1 X rfl c.1 (Or.inr ⟨p, hp6, c.2.1, Or.inr (Or.inr (Or.inr ⟨he, hx.2.2.2⟩))⟩))
/-- behind the lips -/
theorem T2 (q0 : Shp X0) (t : TxP P K X0 n u) (c : CPs X0 X p rows) (hp6 : p < 60) (he : hI X 114 7 = 2) (hx : rowAt X p (r, s, l, 0)) (h1 : 4 ≤ l) (h2 : l ≤ 60) (hj : j ≤ n) (ov : j < n → 48 ≤ u j → u j ≤ 57 → 60 < 10 * l + (u j - 48)) (o : Out P K X0 n u p rows (prt2b n u r s l j)) : P 114 (Int32.ofNat j) X := by
  rcases Nat.lt_or_eq_of_le hj with hj | hj
  · have q := c.1.1.shp q0
    obtain ⟨u1, u2⟩ := t.1 j hj
    refine t.2.1 j X hj c.1 ?_
    rw [acc2 (l := l) q he c.2.1 hp6 hx.2.2.1 (show l < 100 by omega) (by omega)]
    by_cases g3 : u j = 126
    · rw [if_neg (by omega), if_neg (by omega), if_pos g3]
      refine y1 ?_
      have en : prt2b n u r s l j = prt3 n u r s l (j + 1) := by
        unfold prt2b
        rw [nx_of hj, if_pos g3]
      rw [en] at o
      exact S3 q0 t c.st hp6 sI_at hx.fld (by omega) o
    · have en : prt2b n u r s l j = (j, some (r, s, l, 0)) := by
        unfold prt2b
        rw [nx_of hj, if_neg g3]
      rw [en] at o
      by_cases g : 48 ≤ u j ∧ u j ≤ 57
      · have := ov hj g.1 g.2
        rw [if_pos g, if_neg (by omega)]
        exact y0 (o.2.2.1 _ X rfl hj (by show u j ≠ 59; omega) c.1)
      · rw [if_neg g, if_neg (by omega), if_neg g3]
        by_cases g2 : u j = 59
        · rw [if_pos g2]
          exact y1 (o.2.2.2 _ _ rfl hj g2 (c.nxt hx) sI_at)
        · rw [if_neg g2]
          exact y0 (o.2.2.1 _ X rfl hj g2 c.1)
  · subst hj
    have en : prt2b j u r s l j = (j, some (r, s, l, 0)) := by
      unfold prt2b
      rw [nx_out (Nat.le_refl j), if_neg (by decide)]
    rw [en] at o
    exact t.2.2 X c.1 (o.2.1 _ X rfl rfl ⟨c, hx, Or.inl ⟨he, h1, by show l < 100; omega⟩⟩)
/-- the lips -/
theorem S2 (q0 : Shp X0) (t : TxP P K X0 n u) (c : CPs X0 X p rows) (hp6 : p < 60) (he : hI X 114 7 = 2) (hx : rowAt X p (r, s, 0, 0)) (hj : j ≤ n) (o : Out P K X0 n u p rows (prt2 n u r s j)) : P 114 (Int32.ofNat j) X := by
  rcases Nat.lt_or_eq_of_le hj with hj | hj
  · have q := c.1.1.shp q0
    obtain ⟨u1, u2⟩ := t.1 j hj
    by_cases g : 49 ≤ u j ∧ u j ≤ 57
    · refine t.2.1 j X hj c.1 ?_
      rw [acc2 (l := 0) q he c.2.1 hp6 hx.2.2.1 (by decide) (by omega), if_pos (by omega), if_pos (by omega)]
      refine y1 ?_
      have c1 : CPs X0 (sI X 118 p (Int32.ofNat (10 * 0 + (u j - 48)))) p rows := c.row (by decide) (by decide)
      have x1 : rowAt (sI X 118 p (Int32.ofNat (10 * 0 + (u j - 48)))) p (r, s, u j - 48, 0) := ⟨by rw [sI_ne (by decide)]; exact hx.1, by rw [sI_ne (by decide)]; exact hx.2.1, by rw [sI_at, Nat.mul_zero, Nat.zero_add], by rw [sI_ne (by decide)]; exact hx.2.2.2⟩
      have e1 : hI (sI X 118 p (Int32.ofNat (10 * 0 + (u j - 48)))) 114 7 = 2 := by rw [sI_ne (by decide)]; exact he
      by_cases g2 : (48 ≤ nx n u (j + 1) ∧ nx n u (j + 1) ≤ 57) ∧ 10 * (u j - 48) + (nx n u (j + 1) - 48) ≤ 60
      · have hj1 : j + 1 < n := by
          refine Decidable.byContradiction fun hx => ?_
          rw [nx_out (show n ≤ j + 1 by omega)] at g2
          omega
        rw [nx_of hj1] at g2
        have q1 := c1.1.1.shp q0
        obtain ⟨v1, v2⟩ := t.1 (j + 1) hj1
        refine t.2.1 (j + 1) _ hj1 c1.1 ?_
        rw [acc2 (l := u j - 48) q1 e1 c1.2.1 hp6 x1.2.2.1 (show u j - 48 < 100 by omega) (by omega), if_pos g2.1, if_pos (by omega)]
        refine y1 ?_
        have en : prt2 n u r s j = prt2b n u r s (10 * (u j - 48) + (u (j + 1) - 48)) (j + 2) := by
          unfold prt2 numR
          rw [nx_of hj, nx_of hj1, if_pos g, if_pos g2]
        rw [en] at o
        exact T2 (j := j + 2) q0 t (c1.row (by decide) (by decide)) hp6 (by rw [sI_ne (by decide)]; exact e1) (r := r) (s := s) (l := 10 * (u j - 48) + (u (j + 1) - 48)) ⟨by rw [sI_ne (by decide)]; exact x1.1, by rw [sI_ne (by decide)]; exact x1.2.1, sI_at, by rw [sI_ne (by decide)]; exact x1.2.2.2⟩ (by omega) (by omega) (by omega) (fun _ _ _ => by omega) o
      · by_cases g4 : u j - 48 < 4
        · have en : prt2 n u r s j = (j + 1, none) := by
            unfold prt2 numR
            rw [nx_of hj, if_pos g, if_neg g2, if_pos g4]
          rw [en] at o
          rcases Nat.lt_or_ge (j + 1) n with hj1 | hj1
          · rw [nx_of hj1] at g2
            have q1 := c1.1.1.shp q0
            obtain ⟨v1, v2⟩ := t.1 (j + 1) hj1
            refine t.2.1 (j + 1) _ hj1 c1.1 ?_
            rw [acc2 (l := u j - 48) q1 e1 c1.2.1 hp6 x1.2.2.1 (show u j - 48 < 100 by omega) (by omega), if_neg (by omega), if_pos g4]
            exact y0 (o.1 _ rfl c1.1 (Or.inl hj1))
          · have e : j + 1 = n := by omega
            subst e
            exact t.2.2 _ c1.1 (o.1 _ rfl c1.1 (Or.inr ⟨p, hp6, c1.2.1, Or.inr (Or.inr (Or.inl ⟨e1, u j - 48, g4, x1.2.2.1⟩))⟩))
        · have en : prt2 n u r s j = prt2b n u r s (u j - 48) (j + 1) := by
            unfold prt2 numR
            rw [nx_of hj, if_pos g, if_neg g2, if_neg g4]
          rw [en] at o
          refine T2 q0 t c1 hp6 e1 x1 (by omega) (by omega) (by omega) (fun h1 h2 h3 => ?_) o
          rw [nx_of h1] at g2
          omega
    · have en : prt2 n u r s j = (j, none) := by
        unfold prt2 numR
        rw [nx_of hj, if_neg g]
      rw [en] at o
      refine t.2.1 j X hj c.1 ?_
      rw [acc2 (l := 0) q he c.2.1 hp6 hx.2.2.1 (by decide) (by omega)]
      have fin : K (Int32.ofNat j) X := o.1 X rfl c.1 (Or.inl hj)
      by_cases g3 : 48 ≤ u j ∧ u j ≤ 57
      · rw [if_pos g3, if_neg (by omega)]
        exact y0 fin
      · rw [if_neg g3, if_pos (by decide)]
        exact y0 fin
  · subst hj
    have en : prt2 j u r s j = (j, none) := by
      unfold prt2 numR
      rw [nx_out (Nat.le_refl j), if_neg (by decide)]
    rw [en] at o
    exact t.2.2 X c.1 (o.1 X rfl c.1 (Or.inr ⟨p, hp6, c.2.1, Or.inr (Or.inr (Or.inl ⟨he, 0, by decide, hx.2.2.1⟩))⟩))
/-- the speaker -/
theorem S1 (q0 : Shp X0) (t : TxP P K X0 n u) (c : CPs X0 X p rows) (hp6 : p < 60) (he : hI X 114 7 = 1) (hx : hI X 116 p = Int32.ofNat r) (hj : j ≤ n) (o : Out P K X0 n u p rows (prt1 n u r j)) : P 114 (Int32.ofNat j) X := by
  rcases Nat.lt_or_eq_of_le hj with hj | hj
  · have q := c.1.1.shp q0
    obtain ⟨u1, u2⟩ := t.1 j hj
    refine t.2.1 j X hj c.1 ?_
    rw [acc1 q he c.2.1 hp6 (by omega)]
    by_cases g : 65 ≤ u j ∧ u j ≤ 69
    · rw [if_pos (by omega)]
      refine y1 ?_
      have en : prt1 n u r j = prt2 n u r (u j - 65) (j + 1) := by
        unfold prt1
        rw [nx_of hj, if_pos g]
      rw [en] at o
      refine S2 q0 t (((c.row (by decide) (by decide)).row (by decide) (by decide)).row (by decide) (by decide)).st hp6 sI_at ?_ (by omega) o
      refine rowAt.fld ⟨?_, ?_, ?_, sI_at⟩
      · rw [sI_ne (by decide), sI_ne (by decide), sI_ne (by decide)]
        exact hx
      · rw [sI_ne (by decide), sI_ne (by decide)]
        exact sI_at
      · rw [sI_ne (by decide)]
        exact sI_at
    · rw [if_neg (by omega)]
      have en : prt1 n u r j = (j, none) := by
        unfold prt1
        rw [nx_of hj, if_neg g]
      rw [en] at o
      exact y0 (o.1 X rfl c.1 (Or.inl hj))
  · subst hj
    have en : prt1 j u r j = (j, none) := by
      unfold prt1
      rw [nx_out (Nat.le_refl j), if_neg (by decide)]
    rw [en] at o
    exact t.2.2 X c.1 (o.1 X rfl c.1 (Or.inr ⟨p, hp6, c.2.1, Or.inr (Or.inl he)⟩))
/-- a part -/
theorem S0 (q0 : Shp X0) (t : TxP P K X0 n u) (c : CPs X0 X p rows) (hp6 : p < 60) (he : hI X 114 7 = 0) (hj : j ≤ n) (o : Out P K X0 n u p rows (prtR n u j)) : P 114 (Int32.ofNat j) X := by
  rcases Nat.lt_or_eq_of_le hj with hj | hj
  · have q := c.1.1.shp q0
    obtain ⟨u1, u2⟩ := t.1 j hj
    refine t.2.1 j X hj c.1 ?_
    rw [acc0 q he c.2.1 hp6 (by omega)]
    by_cases g : 48 ≤ u j ∧ u j ≤ 51
    · rw [if_pos (by omega)]
      refine y1 ?_
      have en : prtR n u j = prt1 n u (u j - 48) (j + 1) := by
        unfold prtR
        rw [nx_of hj, if_pos g]
      rw [en] at o
      refine S1 q0 t (c.row (by decide) (by decide)).st hp6 sI_at ?_ (by omega) o
      rw [sI_ne (by decide)]
      exact sI_at
    · rw [if_neg (by omega)]
      have en : prtR n u j = (j, none) := by
        unfold prtR
        rw [nx_of hj, if_neg g]
      rw [en] at o
      exact y0 (o.1 X rfl c.1 (Or.inl hj))
  · subst hj
    have en : prtR j u j = (j, none) := by
      unfold prtR
      rw [nx_out (Nat.le_refl j), if_neg (by decide)]
    rw [en] at o
    exact t.2.2 X c.1 (o.1 X rfl c.1 (Or.inr ⟨p, hp6, c.2.1, Or.inl he⟩))
end PU
