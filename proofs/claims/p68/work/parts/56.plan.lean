/-! plans: going and the table; what else is the same in two heaps -/
section PH
/-- X1 is as X but for the numbers in things of D -/
def Ag (D : Nat → Bool) (X X1 : XH) : Prop := hz X1 = hz X ∧ hty X1 = hty X ∧ hln X1 = hln X ∧ hR X1 = hR X ∧ hL X1 = hL X ∧ hDd X1 = hDd X ∧ ∀ a, D a = false → hI X1 a = hI X a
theorem Ag.rf {D : Nat → Bool} {X : XH} : Ag D X X := ⟨rfl, rfl, rfl, rfl, rfl, rfl, fun _ _ => rfl⟩
theorem sI_ne {X : XH} {a k b : Nat} {v : Int32} (h : b ≠ a) : hI (sI X a k v) b = hI X b := by
  funext j
  exact up2_ne h
theorem sI_at {X : XH} {a k : Nat} {v : Int32} : hI (sI X a k v) a k = v := by
  show up2 (hI X) a k v a k = v
  unfold up2
  rw [if_pos rfl, if_pos rfl]
theorem sI_nk {X : XH} {a k j : Nat} {v : Int32} (h : j ≠ k) : hI (sI X a k v) a j = hI X a j := by
  show up2 (hI X) a k v a j = _
  unfold up2
  rw [if_pos rfl, if_neg h]
theorem Ag.sI {D : Nat → Bool} {X X1 : XH} {a k : Nat} {v : Int32} (h : Ag D X X1) (hd : D a = true) : Ag D X (sI X1 a k v) := by
  obtain ⟨h1, h2, h3, h4, h5, h6, h7⟩ := h
  refine ⟨h1, h2, h3, h4, h5, h6, fun b hb => ?_⟩
  rw [sI_ne (fun e => by rw [e, hd] at hb; cases hb)]
  exact h7 b hb
theorem Ag.tr {D : Nat → Bool} {X X1 X2 : XH} (h : Ag D X X1) (h' : Ag D X1 X2) : Ag D X X2 := by
  obtain ⟨h1, h2, h3, h4, h5, h6, h7⟩ := h
  obtain ⟨g1, g2, g3, g4, g5, g6, g7⟩ := h'
  exact ⟨g1.trans h1, g2.trans h2, g3.trans h3, g4.trans h4, g5.trans h5, g6.trans h6, fun a ha => (g7 a ha).trans (h7 a ha)⟩
theorem Ag.shp {D : Nat → Bool} {X X1 : XH} (h : Ag D X X1) (q : Shp X) : Shp X1 := by
  obtain ⟨h1, h2, h3, h4, h5, h6, h7⟩ := h
  unfold Shp
  rw [h1, h2, h3, h4]
  exact q
theorem Ag.trr {D : Nat → Bool} {X X1 : XH} {b : Nat} {g : Row} (h : Ag D X X1) (hd : ∀ j, j < 12 → D (b + j) = false) (k : TR X b g) : TR X1 b g := fun j i hj => by
  rw [h.2.2.2.2.2.2 (b + j) (hd j (okT_j hj).1)]
  exact k j i hj
def dPl (a : Nat) : Bool := decide (120 ≤ a) && decide (a ≤ 122)
theorem dPl2 : ∀ j, j < 12 → dPl (2 + j) = false := by decide
/-- the plan: m needs b, strength, stamina -/
def Pl (X : XH) (m : Nat) (b : Nat → Nat) (st sm : Nat) : Prop := hI X 120 2 = Int32.ofNat m ∧ hI X 120 3 = Int32.ofNat st ∧ hI X 120 4 = Int32.ofNat sm ∧ ∀ k, k < m → hI X 121 k = Int32.ofNat (b k)
/-- greedy: sessions and what is left after i needs -/
def Gr (b : Nat → Nat) (st sm : Nat) : Nat → Nat × Nat
  | 0 => (1, st)
  | i + 1 => if b i ≤ (Gr b st sm i).2 then ((Gr b st sm i).1, (Gr b st sm i).2 - b i) else ((Gr b st sm i).1 + 1, sm - b i)
def Ts (b : Nat → Nat) : Nat → Nat
  | 0 => 0
  | i + 1 => Ts b i + b i
theorem Ts_le (b : Nat → Nat) {i j : Nat} (h : i ≤ j) : Ts b i ≤ Ts b j := by
  induction h with
  | refl => exact Nat.le_refl _
  | step h ih => exact Nat.le_trans ih (Nat.le_add_right _ _)
variable {b : Nat → Nat} {st sm : Nat}
theorem Gr_fit {m : Nat} (h : Ts b m ≤ st) : (Gr b st sm m).1 = 1 ∧ (Gr b st sm m).2 + Ts b m = st := by
  induction m with
  | zero => exact ⟨rfl, rfl⟩
  | succ m ih =>
    have h1 : Ts b m + b m ≤ st := h
    obtain ⟨h2, h3⟩ := ih (by omega)
    have h4 : b m ≤ (Gr b st sm m).2 := by omega
    simp only [Gr, Ts, if_pos h4]
    omega
theorem Gr_le (m : Nat) : (Gr b st sm m).1 ≤ m + 1 := by
  induction m with
  | zero => exact Nat.le_refl 1
  | succ m ih =>
    simp only [Gr]
    split <;> simp only <;> omega
theorem Gr_up {i m : Nat} (h : i ≤ m) (hs : Ts b m - Ts b i ≤ sm) : (Gr b st sm m).1 = (Gr b st sm i).1 ∨ (Gr b st sm m).1 = (Gr b st sm i).1 + 1 ∧ sm ≤ (Gr b st sm m).2 + (Ts b m - Ts b i) := by
  induction h with
  | refl => exact Or.inl rfl
  | @step m h ih =>
    have h1 : Ts b (m + 1) = Ts b m + b m := rfl
    have h2 := Ts_le b h
    have h2' : Ts b i ≤ Ts b m := h2
    rw [h1] at hs
    rcases ih (by omega) with h3 | ⟨h3, h4⟩
    · by_cases h5 : b m ≤ (Gr b st sm m).2
      · left
        simp only [Gr, if_pos h5]
        exact h3
      · right
        simp only [Gr, if_neg h5, Ts]
        omega
    · right
      have h5 : b m ≤ (Gr b st sm m).2 := by omega
      simp only [Gr, if_pos h5, Ts]
      omega
theorem Gr_ex {m : Nat} (hb : ∀ k, k < m → b k ≤ sm) : (Gr b st sm m).1 = 1 ∧ (Gr b st sm m).2 + Ts b m = st ∨ ∃ j, j < m ∧ (Gr b st sm j).1 + 1 = (Gr b st sm m).1 ∧ (Gr b st sm m).2 + (Ts b m - Ts b j) = sm := by
  induction m with
  | zero => exact Or.inl ⟨rfl, rfl⟩
  | succ m ih =>
    have hm := hb m (Nat.lt_succ_self m)
    by_cases h5 : b m ≤ (Gr b st sm m).2
    · rcases ih (fun k hk => hb k (by omega)) with ⟨h1, h2⟩ | ⟨j, h1, h2, h3⟩
      · left
        simp only [Gr, if_pos h5, Ts]
        omega
      · right
        have h4 := Ts_le b (show j ≤ m by omega)
        refine ⟨j, by omega, ?_⟩
        simp only [Gr, if_pos h5, Ts]
        omega
    · right
      refine ⟨m, Nat.lt_succ_self m, ?_, ?_⟩
      · simp only [Gr, if_neg h5]
      · simp only [Gr, if_neg h5, Ts]
        omega
/-- the inner loop of the table: the best after d tries -/
def bst (b : Nat → Nat) (st sm m : Nat) : Nat → Nat
  | 0 => m + 1
  | d + 1 => if Ts b m - Ts b (m - (d + 1)) ≤ sm then (if (Gr b st sm (m - (d + 1))).1 + 1 < bst b st sm m d then (Gr b st sm (m - (d + 1))).1 + 1 else bst b st sm m d) else bst b st sm m d
theorem bst_lo {m : Nat} {v : Nat} (h0 : v ≤ m + 1) (hv : ∀ i, i < m → Ts b m - Ts b i ≤ sm → v ≤ (Gr b st sm i).1 + 1) : ∀ d, d ≤ m → v ≤ bst b st sm m d
  | 0, _ => h0
  | d + 1, hd => by
    have := bst_lo h0 hv d (by omega)
    unfold bst
    split
    · rename_i h1
      split
      · exact hv _ (by omega) h1
      · exact this
    · exact this
theorem bst_hi {m j : Nat} (hj : j < m) (hs : Ts b m - Ts b j ≤ sm) : ∀ d, m - j ≤ d → d ≤ m → bst b st sm m d ≤ (Gr b st sm j).1 + 1
  | 0, h, _ => by omega
  | d + 1, h, hd => by
    by_cases h1 : m - j ≤ d
    · have := bst_hi hj hs d h1 (by omega)
      unfold bst
      split
      · split
        · omega
        · exact this
      · exact this
    · have e : m - (d + 1) = j := by omega
      unfold bst
      rw [e, if_pos hs]
      split <;> omega
/-- the table tells what going tells -/
theorem tab_eq {m : Nat} (hb : ∀ k, k < m → b k ≤ sm) : (if Ts b m ≤ st then 1 else bst b st sm m m) = (Gr b st sm m).1 := by
  by_cases h1 : Ts b m ≤ st
  · rw [if_pos h1]
    exact (Gr_fit h1).1.symm
  · rw [if_neg h1]
    rcases Gr_ex (st := st) hb with ⟨h2, h3⟩ | ⟨j, h2, h3, h4⟩
    · omega
    · apply Nat.le_antisymm
      · have := bst_hi (st := st) h2 (show Ts b m - Ts b j ≤ sm by omega) m (by omega) (Nat.le_refl m)
        omega
      · refine bst_lo (Gr_le m) (fun i hi hs => ?_) m (Nat.le_refl m)
        rcases Gr_up (st := st) (by omega) hs with h5 | ⟨h5, -⟩ <;> omega
theorem Gr_l {m : Nat} (hs : st ≤ sm) : (Gr b st sm m).2 ≤ sm := by
  induction m with
  | zero => exact hs
  | succ m ih =>
    simp only [Gr]
    split <;> simp only <;> omega
theorem Ts_b {m : Nat} {B : Nat} (hb : ∀ k, k < m → b k ≤ B) : Ts b m ≤ m * B := by
  induction m with
  | zero => exact Nat.zero_le _
  | succ m ih =>
    have := ih (fun k hk => hb k (by omega))
    have := hb m (Nat.lt_succ_self m)
    simp only [Ts, Nat.succ_mul]
    omega
end PH
section PH2
variable {X : XH} {m st sm : Nat} {b : Nat → Nat}
theorem s_hasTooLong {K : Int32 → XH → Prop} (q : Shp X) (p : Pl X m b st sm) (hm : m ≤ 24) (hb : ∀ k, k < m → b k ≤ 80) (hs : sm ≤ 120) (k : K (b2i (anyTo (fun k => !(decide (b k ≤ sm))) m)) X) : w_X2_hasTooLong 120 X K := by
  obtain ⟨p1, p2, p3, p4⟩ := p
  intro P hP
  refine dwn (n := m) (p := fun i => anyTo (fun k => !(decide (b k ≤ sm))) i = false → P 120 (Int32.ofNat i) X) (fun ha => hP _ _ _ ?_) (fun i hi ih ha => hP _ _ _ ?_) rfl
  · clear hP
    simp only [q.t120, p1, lt_ hm, if_true, w_X3_place, cnd1, cnd2, b2i_0, b2i_1, ne_eq, not_false_eq_true, true_and, and_true, eq_self, Nat.reduceEqDiff, i10, false_implies, true_implies, not_true_eq_false]
    rw [ha] at k
    exact k
  · clear hP
    have hbi := hb i hi
    have ih' : (!(decide (b i ≤ sm))) = false → P 120 (Int32.ofNat i + 1) X := fun hp => by rw [of_s]; exact ih (by simp only [anyTo, ha, hp, Bool.or_self])
    simp only [q.t120, q.r120_0, p1, lf hi hm, if_false, at_eq q.t121 q.n121 (show i < 24 by omega) (by decide), p4 i hi, p3, of_le (show b i < 4096 by omega) (show sm < 4096 by omega), w_X3_place, cnd1, cnd2, b2i_0, b2i_1, ne_eq, not_false_eq_true, true_and, and_true, eq_self, Nat.reduceEqDiff, i10, false_implies, true_implies, not_true_eq_false]
    by_cases h1 : b i ≤ sm
    · rw [if_pos h1]
      exact ih' (by simp [h1])
    · rw [if_neg h1]
      have h3 := anyTo_in (p := fun k => !(decide (b k ≤ sm))) hi (by simp [h1])
      rw [h3] at k
      exact k
theorem s_goThrough {K : Int32 → XH → Prop} (q : Shp X) (p : Pl X m b st sm) (hm : m ≤ 24) (hb : ∀ k, k < m → b k ≤ sm) (hs : sm ≤ 120) (hst : st ≤ sm) (k : K (if m = 0 then 0 else Int32.ofNat (Gr b st sm m).1) X) : w_X2_goThrough 120 X K := by
  obtain ⟨p1, p2, p3, p4⟩ := p
  unfold w_X2_goThrough
  have e0 : (Int32.ofNat m = 0) = (m = 0) := of_inj (j := 0) (by omega) (by decide)
  simp only [q.t120, p1, p2, e0, w_X3_place, cnd1, cnd2, b2i_0, b2i_1, ne_eq, not_false_eq_true, true_and, and_true, eq_self, Nat.reduceEqDiff, i10, false_implies, true_implies, not_true_eq_false]
  by_cases h0 : m = 0
  · rw [if_pos h0] at k ⊢
    exact k
  · rw [if_neg h0] at k ⊢
    intro P hP
    refine dwn (n := m) (p := fun i => P 120 (Int32.ofNat (Gr b st sm i).1) (Int32.ofNat (Gr b st sm i).2) (Int32.ofNat i) X) (hP _ _ _ _ _ ?_) (fun i hi ih => hP _ _ _ _ _ ?_)
    · clear hP
      simp only [q.t120, p1, lt_ hm, if_true, w_X3_place, cnd1, cnd2, b2i_0, b2i_1, ne_eq, not_false_eq_true, true_and, and_true, eq_self, Nat.reduceEqDiff, i10, false_implies, true_implies, not_true_eq_false]
      exact k
    · clear hP
      have hbi := hb i hi
      have hl := Gr_l (b := b) (m := i) hst
      simp only [q.t120, q.r120_0, p1, lf hi hm, if_false, at_eq q.t121 q.n121 (show i < 24 by omega) (by decide), p4 i hi, p3, of_le (show b i < 4096 by omega) (show (Gr b st sm i).2 < 4096 by omega), w_X3_place, cnd1, cnd2, b2i_0, b2i_1, ne_eq, not_false_eq_true, true_and, and_true, eq_self, Nat.reduceEqDiff, i10, false_implies, true_implies, not_true_eq_false]
      simp only [Gr, ← of_s] at ih
      by_cases h1 : b i ≤ (Gr b st sm i).2
      · rw [if_pos h1] at ih ⊢
        rw [← Int32.ofNat_sub _ _ h1]
        exact ih
      · rw [if_neg h1] at ih ⊢
        rw [← Int32.ofNat_sub _ _ hbi, of_s]
        exact ih
theorem s_fewestFor {i : Nat} {K : Int32 → XH → Prop} (q : Shp X) (p : Pl X m b st sm) (hm : m ≤ 24) (hb : ∀ k, k < m → b k ≤ sm) (hs : sm ≤ 120) (hst : st ≤ sm) (hi : i ≤ m) (hf : ∀ j, j < i → hI X 122 j = Int32.ofNat (Gr b st sm j).1) (k : K (Int32.ofNat (Gr b st sm i).1) X) : w_X2_fewestFor 120 (Int32.ofNat i) X K := by
  obtain ⟨p1, p2, p3, p4⟩ := p
  have hbi : ∀ k, k < i → b k ≤ sm := fun k hk => hb k (by omega)
  have hT := Ts_b (b := b) (m := i) (B := 120) (fun k hk => by have := hbi k hk; omega)
  have hT' : Ts b i ≤ 2880 := by omega
  have key : ∀ d, d ≤ i → Int32.ofNat (i - d) - 1 + -1 = Int32.ofNat (i - d - 1) - 1 ∨ d = i := by
    intro d hd
    by_cases h : d = i
    · exact Or.inr h
    · left
      obtain ⟨e, he⟩ : ∃ e, i - d = e + 1 := ⟨i - d - 1, by omega⟩
      rw [he, ← of_s, Nat.add_sub_cancel, Int32.add_sub_cancel, Int32.sub_eq_add_neg]
      try rfl
  intro P hP
  have hbst : ∀ d, bst b st sm i d ≤ 25 := by
    intro d
    induction d with
    | zero => exact Nat.succ_le_succ (by omega)
    | succ d ih =>
      have h9 := Gr_le (b := b) (st := st) (sm := sm) (i - (d + 1))
      unfold bst
      split
      · split <;> omega
      · exact ih
  have := dwn (n := i) (p := fun d => P 120 (Int32.ofNat (bst b st sm i d)) (Int32.ofNat (Ts b i - Ts b (i - d))) (Int32.ofNat (i - d) - 1) X) (hP _ _ _ _ _ ?_) (fun d hd ih => hP _ _ _ _ _ ?_)
  · simp only [Nat.sub_zero, Nat.sub_self, bst] at this
    rw [of_s]
    exact this
  · clear hP
    have e1 : Int32.ofNat (i - i) - 1 < 0 := by
      rw [Nat.sub_self]
      decide
    refine ⟨fun _ => ⟨q.t120, ?_⟩, fun hne => absurd e1 hne⟩
    rw [Nat.sub_self, show Ts b 0 = 0 from rfl, Nat.sub_zero, p2]
    simp only [of_lt (show st < 4096 by omega) (show Ts b i < 4096 by omega), cnd1]
    have e2 := tab_eq (st := st) hbi
    by_cases h1 : Ts b i ≤ st
    · rw [if_pos h1] at e2
      rw [if_neg (by omega)]
      rw [← e2] at k
      exact k
    · rw [if_neg h1] at e2
      rw [if_pos (by omega), e2]
      exact k
  · clear hP
    obtain ⟨e, he⟩ : ∃ e, i - d = e + 1 := ⟨i - d - 1, by omega⟩
    have he2 : i - (d + 1) = e := by omega
    have hei : e < i := by omega
    have e1 : Int32.ofNat (i - d) - 1 = Int32.ofNat e := by rw [he, ← of_s, Int32.add_sub_cancel]
    have e3 : Int32.ofNat (i - (d + 1)) - 1 = Int32.ofNat e + -1 := by rw [he2, Int32.sub_eq_add_neg]
    have h9 := Gr_le (b := b) (st := st) (sm := sm) e
    have hd2 := hbst d
    have hTe := Ts_le b (show e ≤ i by omega)
    have hTe1 := Ts_le b (show e + 1 ≤ i by omega)
    have hTs : Ts b (e + 1) = Ts b e + b e := rfl
    rw [e3] at ih
    simp only [bst, he2] at ih
    rw [e1, he]
    simp only [q.t120, q.r120_0, q.r120_1, of_nn (show e < 4096 by omega), at_eq q.t121 q.n121 (show e < 24 by omega) (by decide), at_eq q.t122 q.n122 (show e < 25 by omega) (by decide), p4 e (by omega), p3, hf e hei, if_false, w_X3_place, cnd1, cnd2, b2i_0, b2i_1, ne_eq, not_false_eq_true, true_and, and_true, eq_self, Nat.reduceEqDiff, i10, false_implies, true_implies, not_true_eq_false]
    rw [← Int32.ofNat_add, show Ts b i - Ts b (e + 1) + b e = Ts b i - Ts b e by omega]
    simp only [of_lt (show sm < 4096 by omega) (show Ts b i - Ts b e < 4096 by omega), of_s, of_lt (show (Gr b st sm e).1 + 1 < 4096 by omega) (show bst b st sm i d < 4096 by omega)]
    by_cases h1 : Ts b i - Ts b e ≤ sm
    · rw [if_pos h1] at ih
      rw [if_neg (by omega)]
      by_cases h2 : (Gr b st sm e).1 + 1 < bst b st sm i d
      · rw [if_pos h2] at ih ⊢
        exact ih
      · rw [if_neg h2] at ih ⊢
        exact ih
    · rw [if_neg h1] at ih
      rw [if_pos (by omega)]
      exact ih
theorem Pl.sI122 {k : Nat} {v : Int32} (p : Pl X m b st sm) : Pl (sI X 122 k v) m b st sm := by
  unfold Pl
  rw [sI_ne (a := 122) (b := 120) (by decide), sI_ne (a := 122) (b := 121) (by decide)]
  exact p
theorem s_fillTable {K : Int32 → XH → Prop} (q : Shp X) (p : Pl X m b st sm) (hm : m ≤ 24) (hb : ∀ k, k < m → b k ≤ sm) (hs : sm ≤ 120) (hst : st ≤ sm) (k : ∀ X1, Ag dPl X X1 → K (if m = 0 then 0 else Int32.ofNat (Gr b st sm m).1) X1) : w_X2_fillTable 120 X K := by
  unfold w_X2_fillTable
  have e0 : (Int32.ofNat m = 0) = (m = 0) := of_inj (j := 0) (by omega) (by decide)
  have e1 : ∀ v : Int32, ∀ K' : XH → Prop, w_X4_put 122 0 v X K' = K' (sI X 122 0 v) := fun v K' => put_eq (k := 0) q.t122 q.n122 (by decide) (by decide)
  simp only [q.t120, q.r120_1, p.1, e0, e1, w_X3_place, cnd1, cnd2, b2i_0, b2i_1, ne_eq, not_false_eq_true, true_and, and_true, eq_self, Nat.reduceEqDiff, i10, false_implies, true_implies, not_true_eq_false]
  by_cases h0 : m = 0
  · rw [if_pos h0] at k ⊢
    exact k X Ag.rf
  · rw [if_neg h0] at k ⊢
    intro P hP
    have := dwn (n := m) (p := fun i => ∀ X1, Ag dPl X X1 → Pl X1 m b st sm → (∀ j, j < i + 1 → hI X1 122 j = Int32.ofNat (Gr b st sm j).1) → P 120 (Int32.ofNat (i + 1)) X1) (fun X1 a p hf => hP _ _ _ ?_) (fun i hi ih X1 a p hf => hP _ _ _ ?_)
    · refine this _ (Ag.rf.sI rfl) p.sI122 (fun j hj => ?_)
      rw [show j = 0 by omega]
      exact sI_at
    · clear hP
      have q1 := a.shp q
      refine ⟨q1.t120, fun _ => ⟨by rw [q1.r120_1]; decide, ?_⟩, fun hne => absurd ?_ hne⟩
      · rw [q1.r120_1, p.1, at_eq q1.t122 q1.n122 (show m < 25 by omega) (by decide), hf m (by omega)]
        exact k X1 a
      · rw [p.1, of_lt (by omega) (by omega)]
        omega
    · clear hP
      have q1 := a.shp q
      refine ⟨q1.t120, fun he => ?_, fun _ => ⟨by rw [q1.r120_1]; decide, s_fewestFor q1 p hm hb hs hst (by omega) hf ?_⟩⟩
      · rw [p.1, of_lt (by omega) (by omega)] at he
        omega
      · rw [q1.r120_1, put_eq q1.t122 q1.n122 (show i + 1 < 25 by omega) (by decide), of_s]
        refine ih _ (a.sI rfl) p.sI122 (fun j hj => ?_)
        by_cases h1 : j = i + 1
        · rw [h1]
          exact sI_at
        · rw [sI_nk h1]
          exact hf j (by omega)
end PH2
