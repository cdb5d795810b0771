/-! what a voice has to record, as the class's plan and as the reference goes -/
section PI
def rdC (g : Row) (a : Int32) (t i : Nat) : Bool := decide (gS g i = a) && pRd g i t
def rdM (g : Row) (a : Int32) (t : Nat) : Nat → Nat
  | 0 => 0
  | i + 1 => if rdC g a t i = true then rdM g a t i + 1 else rdM g a t i
def rdB (g : Row) (a : Int32) (t : Nat) : Nat → Nat → Nat
  | 0 => fun _ => 0
  | i + 1 => if rdC g a t i = true then (fun k => if k = rdM g a t i then (gB g i t).toNatClampNeg else rdB g a t i k) else rdB g a t i
variable {g : Row} {a : Int32} {t n : Nat} {X : XH}
theorem rdM_le (g : Row) (a : Int32) (t : Nat) : ∀ i, rdM g a t i ≤ i
  | 0 => Nat.le_refl 0
  | i + 1 => by
    have := rdM_le g a t i
    unfold rdM
    split <;> omega
theorem rdM_up {i j : Nat} (h : i ≤ j) : rdM g a t i ≤ rdM g a t j := by
  induction h with
  | refl => exact Nat.le_refl _
  | step h ih =>
    refine Nat.le_trans ih ?_
    simp only [rdM]
    split <;> omega
theorem rdB_st {i j k : Nat} (h : i ≤ j) (hk : k < rdM g a t i) : rdB g a t j k = rdB g a t i k := by
  induction h with
  | refl => rfl
  | @step j h ih =>
    have := rdM_up (g := g) (a := a) (t := t) h
    simp only [rdB]
    split
    · simp only
      rw [if_neg (by omega)]
      exact ih
    · exact ih
theorem rdB_at {i : Nat} (hi : i < n) (hc : rdC g a t i = true) : rdB g a t n (rdM g a t i) = (gB g i t).toNatClampNeg ∧ rdM g a t i < rdM g a t n := by
  have h1 : rdM g a t (i + 1) = rdM g a t i + 1 := by simp only [rdM, if_pos hc]
  have h2 := rdM_up (g := g) (a := a) (t := t) (show i + 1 ≤ n from hi)
  refine ⟨?_, by omega⟩
  rw [rdB_st (show i + 1 ≤ n from hi) (by omega)]
  simp only [rdB, if_pos hc, if_true]
theorem Inc.B {c : Nat} (i : Inc g c) (ht : t < 3) : ∃ b, b ≤ 80 ∧ gB g c t = Int32.ofNat b := by
  obtain ⟨-, -, ⟨l, y, h1, h2, h3, h4, e1, e2⟩, hF⟩ := i
  obtain ⟨⟨f, a, hf, e3, -⟩, -⟩ := hF t ht
  refine ⟨f + y, by omega, ?_⟩
  unfold gB
  rw [e2, e3, ← Int32.ofNat_add]
theorem rdB_le (i : Inv g n) (ht : t < 3) : ∀ j, j ≤ n → ∀ k, k < rdM g a t j → rdB g a t j k ≤ 80
  | 0, _, k, hk => by simp [rdM] at hk
  | j + 1, hj, k, hk => by
    have ih := rdB_le i ht j (by omega) k
    obtain ⟨b, hb, e⟩ := (i.2.1 j (by omega)).B ht
    simp only [rdM] at hk
    simp only [rdB]
    split
    · rename_i h1
      rw [if_pos h1] at hk
      simp only
      split
      · rw [e, nc (by omega)]
        exact hb
      · exact ih (by omega)
    · rename_i h1
      rw [if_neg h1] at hk
      exact ih hk
def gSA (g : Row) (s t : Nat) : Nat := (gSt g s t).toNatClampNeg
def gST (g : Row) (s t : Nat) : Nat := (gSn g s t).toNatClampNeg
def pTL (g : Row) (n s t : Nat) : Bool := anyTo (fun k => !(decide (rdB g (Int32.ofNat s) t n k ≤ gSA g s t))) (rdM g (Int32.ofNat s) t n)
def gGo (g : Row) (n s t : Nat) : Int32 := if rdM g (Int32.ofNat s) t n = 0 then 0 else Int32.ofNat (Gr (rdB g (Int32.ofNat s) t n) (gST g s t) (gSA g s t) (rdM g (Int32.ofNat s) t n)).1
theorem Inv.V {s : Nat} (i : Inv g n) (hs : s < 5) (ht : t < 3) : gSt g s t = Int32.ofNat (gSA g s t) ∧ gSn g s t = Int32.ofNat (gST g s t) ∧ gSA g s t ≤ 120 ∧ gST g s t ≤ gSA g s t ∧ 20 ≤ gSA g s t := by
  obtain ⟨x, u, h1, h2, h3, e1, e2⟩ := i.2.2.2.1 s hs t ht
  have e3 : gSn g s t = Int32.ofNat (x - u) := by
    unfold gSn
    rw [e1, e2, ← Int32.ofNat_sub _ _ h3]
  unfold gSA gST
  rw [e3, e1, nc (by omega), nc (by omega)]
  exact ⟨rfl, rfl, h2, by omega, h1⟩
theorem add_eq {m st sm : Nat} {b : Nat → Nat} {v : Int32} {K : XH → Prop} (q : Shp X) (p : Pl X m b st sm) (hm : m < 24) : w_X2_add 120 v X K = K (sI (sI X 121 m v) 120 2 (Int32.ofNat m + 1)) := by
  unfold w_X2_add
  have e : hI (sI X 121 m v) 120 2 = Int32.ofNat m := by rw [sI_ne (by decide)]; exact p.1
  simp only [q.t120, q.r120_0, q.t121, q.n121, p.1, of_le (show 24 < 4096 by decide) (show m < 4096 by omega), le_f hm, put_eq q.t121 q.n121 hm (by decide), e, Nat.reduceLeDiff, w_X3_place, cnd1, cnd2, b2i_0, b2i_1, ne_eq, not_false_eq_true, true_and, and_true, eq_self, Nat.reduceEqDiff, i10, false_implies, true_implies, not_true_eq_false]
  simp only [show hty (sI X 121 m v) 120 = 2 from q.t120, true_and]
theorem s_fillPlan {s : Nat} {K : XH → Prop} (q : Shp X) (h : TR X 2 g) (i : Inv g n) (hs : s < 5) (ht : t < 3) (k : ∀ X1, Ag dPl X X1 → Pl X1 (rdM g (Int32.ofNat s) t n) (rdB g (Int32.ofNat s) t n) (gST g s t) (gSA g s t) → K X1) : w_X3_fillPlan 2 120 (Int32.ofNat s) (Int32.ofNat t) X K := by
  have hn := i.cn
  obtain ⟨e1, e2, -⟩ := i.V hs ht
  unfold w_X3_fillPlan
  simp only [q.t2, e_strengthAt q h hs ht, e_staminaAt q h hs ht, w_X2_start, q.t120, w_X3_place, cnd1, cnd2, b2i_0, b2i_1, ne_eq, not_false_eq_true, true_and, and_true, eq_self, Nat.reduceEqDiff, i10, false_implies, true_implies, not_true_eq_false]
  intro P hP
  have := dwn (n := n) (p := fun i => ∀ X1, Ag dPl X X1 → Pl X1 (rdM g (Int32.ofNat s) t i) (rdB g (Int32.ofNat s) t n) (gST g s t) (gSA g s t) → P 2 120 (Int32.ofNat s) (Int32.ofNat t) (Int32.ofNat i) X1) (fun X1 a p => hP _ _ _ _ _ _ ?_) (fun j hj ih X1 a p => hP _ _ _ _ _ _ ?_)
  · refine this _ (((Ag.rf.sI rfl).sI rfl).sI rfl) ⟨?_, ?_, ?_, fun k hk => by simp [rdM] at hk⟩
    · rw [sI_nk (by decide), sI_nk (by decide)]
      exact sI_at
    · rw [sI_nk (by decide), sI_at]
      exact e2
    · rw [sI_at]
      exact e1
  · clear hP
    have q1 := a.shp q
    have h1 := a.trr dPl2 h
    simp only [q1.t2, h1.cn hn, lt_ hn.2, if_true, w_X3_place, cnd1, cnd2, b2i_0, b2i_1, ne_eq, not_false_eq_true, true_and, and_true, eq_self, Nat.reduceEqDiff, i10, false_implies, true_implies, not_true_eq_false]
    exact k X1 a p
  · clear hP
    have q1 := a.shp q
    have h1 := a.trr dPl2 h
    have hc : j < 24 := Nat.lt_of_lt_of_le hj hn.2
    have hm := rdM_le g (Int32.ofNat s) t j
    have ih' : rdC g (Int32.ofNat s) t j = false → P 2 120 (Int32.ofNat s) (Int32.ofNat t) (Int32.ofNat j + 1) X1 := fun hf => by
      rw [of_s]
      refine ih X1 a ?_
      simp only [rdM, hf, Bool.false_eq_true, if_false]
      exact p
    simp only [q1.t2, h1.cn hn, lf hj hn.2, if_false, e_speakerAt q1 h1 hc, e_isReady q1 h1 hc ht, e_spokenAt q1 h1 hc ht, add_eq q1 p (show rdM g (Int32.ofNat s) t j < 24 by omega), q1.t120, w_X3_place, cnd1, cnd2, b2i_0, b2i_1, ne_eq, not_false_eq_true, true_and, and_true, eq_self, Nat.reduceEqDiff, i10, false_implies, true_implies, not_true_eq_false]
    by_cases h2 : gS g j = Int32.ofNat s
    · rw [if_pos h2]
      cases h3 : pRd g j t
      · simpa using ih' (by unfold rdC; rw [h3, Bool.and_false])
      · have hC : rdC g (Int32.ofNat s) t j = true := by
          unfold rdC
          rw [h3, h2]
          simp
        obtain ⟨b, hb, eb⟩ := (i.2.1 j hj).B ht
        obtain ⟨hB, -⟩ := rdB_at hj hC
        rw [eb, nc (by omega)] at hB
        simp only [Bool.true_eq_false, if_false]
        rw [of_s, of_s]
        refine ih _ ((a.sI rfl).sI rfl) ?_
        simp only [rdM, if_pos hC]
        obtain ⟨p1, p2, p3, p4⟩ := p
        refine ⟨sI_at, ?_, ?_, fun k hk => ?_⟩
        · rw [sI_nk (by decide), sI_ne (by decide)]
          exact p2
        · rw [sI_nk (by decide), sI_ne (by decide)]
          exact p3
        · rw [sI_ne (by decide)]
          by_cases hk2 : k = rdM g (Int32.ofNat s) t j
          · rw [hk2, hB, eb]
            exact sI_at
          · rw [sI_nk hk2]
            exact p4 k (by omega)
    · rw [if_neg h2]
      exact ih' (by unfold rdC; rw [decide_eq_false h2, Bool.false_and])
end PI
