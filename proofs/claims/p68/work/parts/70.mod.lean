/-! the parser: bounds; the reference reads as it does -/
section PV
theorem nx_lt {n : Nat} {u : Nat → Nat} {i : Nat} (h : 1 ≤ nx n u i) : i < n := by
  refine Decidable.byContradiction fun hx => ?_
  rw [nx_out (by omega)] at h
  omega
theorem num_b {n : Nat} {u : Nat → Nat} {a b i : Nat} (ha : a ≤ 10) (hb : 9 ≤ b) (hi : i ≤ n) : i ≤ (numR n u a b i).1 ∧ (numR n u a b i).1 ≤ n ∧ ∀ v, (numR n u a b i).2 = some v → i + 1 ≤ (numR n u a b i).1 ∧ 1 ≤ v ∧ a ≤ v ∧ v ≤ b := by
  unfold numR
  by_cases g : 49 ≤ nx n u i ∧ nx n u i ≤ 57
  · have h1 := nx_lt (n := n) (u := u) (i := i) (by omega)
    rw [if_pos g]
    by_cases g2 : (48 ≤ nx n u (i + 1) ∧ nx n u (i + 1) ≤ 57) ∧ 10 * (nx n u i - 48) + (nx n u (i + 1) - 48) ≤ b
    · have h2 := nx_lt (n := n) (u := u) (i := i + 1) (by omega)
      rw [if_pos g2]
      refine ⟨by show i ≤ i + 2; omega, by show i + 2 ≤ n; omega, fun v hv => ?_⟩
      have e : 10 * (nx n u i - 48) + (nx n u (i + 1) - 48) = v := Option.some.inj hv
      exact ⟨by show i + 1 ≤ i + 2; omega, by omega, by omega, by omega⟩
    · rw [if_neg g2]
      by_cases g3 : nx n u i - 48 < a
      · rw [if_pos g3]
        exact ⟨by show i ≤ i + 1; omega, h1, fun v hv => nomatch hv⟩
      · rw [if_neg g3]
        refine ⟨by show i ≤ i + 1; omega, h1, fun v hv => ?_⟩
        have e : nx n u i - 48 = v := Option.some.inj hv
        exact ⟨Nat.le_refl _, by omega, by omega, by omega⟩
  · rw [if_neg g]
    exact ⟨Nat.le_refl _, hi, fun v hv => nomatch hv⟩
def okR (x : R4) : Prop := x.1 < 4 ∧ x.2.1 < 5 ∧ 4 ≤ x.2.2.1 ∧ x.2.2.1 ≤ 60 ∧ x.2.2.2 ≤ 20
theorem prt3_b {n : Nat} {u : Nat → Nat} {r s l j : Nat} (hj : j ≤ n) (h1 : r < 4) (h2 : s < 5) (h3 : 4 ≤ l) (h4 : l ≤ 60) : j ≤ (prt3 n u r s l j).1 ∧ (prt3 n u r s l j).1 ≤ n ∧ ∀ x, (prt3 n u r s l j).2 = some x → okR x := by
  obtain ⟨a1, a2, a3⟩ := num_b (u := u) (a := 1) (b := 20) (by decide) (by decide) hj
  refine ⟨a1, a2, fun x hx => ?_⟩
  unfold prt3 at hx
  cases e : (numR n u 1 20 j).2 with
  | none =>
    rw [e] at hx
    exact nomatch hx
  | some y =>
    rw [e] at hx
    have := a3 y e
    have e2 : (r, s, l, y) = x := Option.some.inj hx
    rw [← e2]
    exact ⟨h1, h2, h3, h4, this.2.2.2⟩
theorem prt2b_b {n : Nat} {u : Nat → Nat} {r s l j : Nat} (hj : j ≤ n) (h1 : r < 4) (h2 : s < 5) (h3 : 4 ≤ l) (h4 : l ≤ 60) : j ≤ (prt2b n u r s l j).1 ∧ (prt2b n u r s l j).1 ≤ n ∧ ∀ x, (prt2b n u r s l j).2 = some x → okR x := by
  unfold prt2b
  by_cases g : nx n u j = 126
  · have h5 := nx_lt (n := n) (u := u) (i := j) (by omega)
    rw [if_pos g]
    obtain ⟨a1, a2, a3⟩ := prt3_b (u := u) (show j + 1 ≤ n from h5) h1 h2 h3 h4
    exact ⟨by omega, a2, a3⟩
  · rw [if_neg g]
    refine ⟨Nat.le_refl _, hj, fun x hx => ?_⟩
    have e2 : (r, s, l, 0) = x := Option.some.inj hx
    rw [← e2]
    exact ⟨h1, h2, h3, h4, Nat.zero_le _⟩
theorem prt2_b {n : Nat} {u : Nat → Nat} {r s j : Nat} (hj : j ≤ n) (h1 : r < 4) (h2 : s < 5) : j ≤ (prt2 n u r s j).1 ∧ (prt2 n u r s j).1 ≤ n ∧ ∀ x, (prt2 n u r s j).2 = some x → j + 1 ≤ (prt2 n u r s j).1 ∧ okR x := by
  obtain ⟨a1, a2, a3⟩ := num_b (u := u) (a := 4) (b := 60) (by decide) (by decide) hj
  unfold prt2
  rcases e : numR n u 4 60 j with ⟨j', _ | l⟩
  · rw [e] at a1 a2
    exact ⟨a1, a2, fun x hx => nomatch hx⟩
  · rw [e] at a1 a2 a3
    obtain ⟨b1, b2, b3, b4⟩ := a3 l rfl
    obtain ⟨c1, c2, c3⟩ := prt2b_b (n := n) (u := u) (j := j') a2 h1 h2 b3 b4
    refine ⟨Nat.le_trans a1 c1, c2, fun x hx => ⟨Nat.le_trans b1 c1, c3 x hx⟩⟩
theorem prt_b {n : Nat} {u : Nat → Nat} {i : Nat} (hi : i ≤ n) : i ≤ (prtR n u i).1 ∧ (prtR n u i).1 ≤ n ∧ ∀ x, (prtR n u i).2 = some x → i + 3 ≤ (prtR n u i).1 ∧ okR x := by
  unfold prtR
  by_cases g : 48 ≤ nx n u i ∧ nx n u i ≤ 51
  · have h1 := nx_lt (n := n) (u := u) (i := i) (by omega)
    rw [if_pos g]
    unfold prt1
    by_cases g2 : 65 ≤ nx n u (i + 1) ∧ nx n u (i + 1) ≤ 69
    · have h2 := nx_lt (n := n) (u := u) (i := i + 1) (by omega)
      rw [if_pos g2]
      obtain ⟨c1, c2, c3⟩ := prt2_b (u := u) (show i + 1 + 1 ≤ n from h2) (show nx n u i - 48 < 4 by omega) (show nx n u (i + 1) - 65 < 5 by omega)
      exact ⟨by omega, c2, fun x hx => ⟨by have := (c3 x hx).1; omega, (c3 x hx).2⟩⟩
    · rw [if_neg g2]
      exact ⟨by show i ≤ i + 1; omega, h1, fun x hx => nomatch hx⟩
  · rw [if_neg g]
    exact ⟨Nat.le_refl _, hi, fun x hx => nomatch hx⟩
/-- the whole text: where it is wrong; or its parts -/
def whR (n : Nat) (u : Nat → Nat) : Nat → Nat → Nat × Option (List R4)
  | 0, i => (i, none)
  | f + 1, i => match prtR n u i with
    | (j, none) => (j, none)
    | (j, some x) => if j < n then (if u j = 59 then ((whR n u f (j + 1)).1, (whR n u f (j + 1)).2.map fun l => x :: l) else (j, none)) else (j, some [x])
variable {X0 X : XH} {n i j : Nat} {u : Nat → Nat} {w : Int32}
end PV
