/-! the whole text: where it is wrong, for both -/
section PW
def ext (rows : Nat → R4) (p : Nat) : List R4 → Nat → R4
  | [] => rows
  | x :: l => ext (addR rows p x) (p + 1) l
def EndS (X1 : XH) (pL : Nat) : Prop := pL < 60 ∧ hI X1 114 6 = Int32.ofNat pL ∧ ((hI X1 114 7 = 2 ∧ ∃ v, 4 ≤ v ∧ v < 100 ∧ hI X1 118 pL = Int32.ofNat v) ∨ (hI X1 114 7 = 3 ∧ ∃ v, 1 ≤ v ∧ v < 100 ∧ hI X1 119 pL = Int32.ofNat v))
def Fin (X0 X1 : XH) (p : Nat) (rows : Nat → R4) (l : List R4) : Prop := AgT X0 X1 ∧ (∃ pL, pL + 1 = p + l.length ∧ EndS X1 pL) ∧ ∀ k, k < p + l.length → rowAt X1 k (ext rows p l k)
theorem wh_n {n f i j : Nat} {u : Nat → Nat} (e : prtR n u i = (j, none)) : whR n u (f + 1) i = (j, none) := by simp only [whR, e]
theorem wh_e {n f i j : Nat} {u : Nat → Nat} {x : R4} (e : prtR n u i = (j, some x)) (h : ¬ j < n) : whR n u (f + 1) i = (j, some [x]) := by simp only [whR, e, if_neg h]
theorem wh_b {n f i j : Nat} {u : Nat → Nat} {x : R4} (e : prtR n u i = (j, some x)) (h : j < n) (h2 : u j ≠ 59) : whR n u (f + 1) i = (j, none) := by simp only [whR, e, if_pos h, if_neg h2]
theorem wh_c {n f i j : Nat} {u : Nat → Nat} {x : R4} (e : prtR n u i = (j, some x)) (h : j < n) (h2 : u j = 59) : whR n u (f + 1) i = ((whR n u f (j + 1)).1, (whR n u f (j + 1)).2.map fun l => x :: l) := by simp only [whR, e, if_pos h, if_pos h2]
variable {X0 X : XH} {n : Nat} {u : Nat → Nat} {P : Nat → Int32 → XH → Prop} {K : Int32 → XH → Prop}
theorem C_wh (q0 : Shp X0) (t : TxP P K X0 n u) (hn : n ≤ 60) : ∀ f i p (rows : Nat → R4) X, n < i + f → 4 * p ≤ i → i ≤ n → CPs X0 X p rows → hI X 114 7 = 0 → (∀ X1, (whR n u f i).2 = none → AgT X0 X1 → ((whR n u f i).1 < n ∨ ND X1) → K (Int32.ofNat (whR n u f i).1) X1) → (∀ l X1, (whR n u f i).2 = some l → Fin X0 X1 p rows l → K (Int32.ofNat n) X1) → P 114 (Int32.ofNat i) X
  | 0, i, p, rows, X, hf, hp, hi, c, he, kn, ks => by omega
  | f + 1, i, p, rows, X, hf, hp, hi, c, he, kn, ks => by
    have pb := prt_b (u := u) hi
    refine S0 q0 t c (by omega) he hi ?_
    rcases e : prtR n u i with ⟨j, _ | x⟩
    · rw [wh_n e] at kn
      exact ⟨fun X1 _ a h => kn X1 rfl a h, fun x X1 h => (nomatch h), fun x X1 h => (nomatch h), fun x X1 h => (nomatch h)⟩
    · rw [e] at pb
      obtain ⟨b1, b2, b3⟩ := pb
      have b4 := (b3 x rfl).1
      simp only at b2 b4
      refine ⟨fun X1 h => (nomatch h), fun x' X1 h hj d => ?_, fun x' X1 h hj h59 a => ?_, fun x' X1 h hj h59 c1 e1 => ?_⟩
      · have ex : x = x' := Option.some.inj h
        subst ex
        have hj' : j = n := hj
        rw [wh_e e (by omega)] at ks
        obtain ⟨d1, d2, d3⟩ := d
        refine ks [x] X1 rfl ⟨d1.1, ⟨p, rfl, by omega, d1.2.1, ?_⟩, fun k hk => ?_⟩
        · rcases d3 with ⟨g1, g2, g3⟩ | ⟨g1, g2, g3⟩
          · exact Or.inl ⟨g1, _, g2, g3, d2.2.2.1⟩
          · exact Or.inr ⟨g1, _, g2, g3, d2.2.2.2⟩
        · show rowAt X1 k (addR rows p x k)
          have hk' : k < p + 1 := hk
          unfold addR
          by_cases h : k = p
          · rw [if_pos h, h]
            exact d2
          · rw [if_neg h]
            exact d1.2.2 k (by omega)
      · rw [wh_b e hj h59] at kn
        exact kn X1 rfl a (Or.inl hj)
      · have ex : x = x' := Option.some.inj h
        subst ex
        have hj' : j < n := hj
        rw [wh_c e hj h59] at kn ks
        refine C_wh q0 t hn f (j + 1) (p + 1) (addR rows p x) X1 (by omega) (by omega) (by omega) c1 e1 (fun X2 h2 a2 h3 => ?_) (fun l X2 h2 fn => ?_)
        · exact kn X2 (by rw [h2]; rfl) a2 h3
        · refine ks (x :: l) X2 (by rw [h2]; rfl) ⟨fn.1, ?_, fun k hk => ?_⟩
          · obtain ⟨pL, g1, g2⟩ := fn.2.1
            exact ⟨pL, by rw [g1, List.length_cons]; omega, g2⟩
          · refine fn.2.2 k ?_
            rw [List.length_cons] at hk
            omega
def uT (σ : St) (k : Nat) : Nat := (zT σ k).toNatClampNeg
variable {σ : St} {Zz : XH}
theorem uT_ok {B : Nat} (iS : InvS B σ) : ∀ k, k < zN σ → zT σ k = Int32.ofNat (uT σ k) ∧ 33 ≤ uT σ k ∧ uT σ k ≤ 126 := fun k hk => by
  obtain ⟨s, h1, h2, e⟩ := iS.2.2.2 k hk
  unfold uT
  rw [e, nc (by omega)]
  exact ⟨rfl, h1, h2⟩
theorem Wd.agT {X1 : XH} (w : Wd X σ Zz) (a : AgT X X1) : Wd X1 σ Zz := by
  have f : Fr (dRg 114 119) X X1 := (a.1.fr w.1).wk (fun x hx => by
    have := dRg_f hx
    unfold dTx
    simp
    omega)
  obtain ⟨h1, h2, h3⟩ := w.2.1.2.2.2
  exact w.txt f ⟨a.2.1.trans h1, h2, fun k hk => (congrFun a.2.2 k).trans (h3 k hk)⟩
def rw0 : Nat → R4 := fun _ => (0, 0, 0, 0)
theorem R2E (w : Wd X σ Zz) {B : Nat} (iS : InvS B σ) (kn : ∀ X1, (whR (zN σ) (uT σ) 61 0).2 = none → AgT X X1 → ((whR (zN σ) (uT σ) 61 0).1 < zN σ ∨ ND X1) → K (Int32.ofNat (whR (zN σ) (uT σ) 61 0).1) X1) (ks : ∀ l X1, (whR (zN σ) (uT σ) 61 0).2 = some l → Fin X X1 0 rw0 l → K (Int32.ofNat (zN σ)) X1) : w_X0_readToError 114 X K := by
  have q := w.1
  obtain ⟨h1, h2, h3⟩ := w.2.1.2.2.2
  unfold w_X0_readToError
  simp only [q.t114, hty_sI, hln_sI, hR_sI, cnd1, cnd2, b2i_0, b2i_1, b2i_z, if_true, if_false, true_and, and_true, true_implies, false_implies, ne_eq, not_false_eq_true, not_true_eq_false, eq_self, true_or, or_true, false_or, or_false, Nat.reduceEqDiff, i10, i20, i30]
  intro P hP
  have t : TxP P K X (zN σ) (uT σ) := by
    refine ⟨fun k hk => (uT_ok iS k hk).2, fun i X1 hi a ha => hP _ _ _ ?_, fun X1 a ha => hP _ _ _ ?_⟩
    · have q1 := a.1.shp q
      have e1 : hI X1 114 1 = Int32.ofNat (zN σ) := a.2.1.trans h1
      have e2 : hI X1 115 i = Int32.ofNat (uT σ i) := (congrFun a.2.2 i).trans ((h3 i hi).trans (uT_ok iS i hi).1)
      simp only [q1.t114, q1.r114_0, e1, ltl hi (show zN σ < 4096 by omega), at_eq q1.t115 q1.n115 (show i < 60 by omega) (show 60 < 4096 by decide), e2, of_s, hty_sI, hln_sI, hR_sI, cnd1, cnd2, b2i_0, b2i_1, b2i_z, if_true, if_false, true_and, and_true, true_implies, false_implies, ne_eq, not_false_eq_true, not_true_eq_false, eq_self, true_or, or_true, false_or, or_false, Nat.reduceEqDiff, i10, i20, i30]
      simp only [cnd1, cnd2] at ha
      exact ha
    · have q1 := a.1.shp q
      have e1 : hI X1 114 1 = Int32.ofNat (zN σ) := a.2.1.trans h1
      simp only [q1.t114, q1.r114_0, e1, ltt (show zN σ < 4096 by omega), hty_sI, hln_sI, hR_sI, cnd1, cnd2, b2i_0, b2i_1, b2i_z, if_true, if_false, true_and, and_true, true_implies, false_implies, ne_eq, not_false_eq_true, not_true_eq_false, eq_self, true_or, or_true, false_or, or_false, Nat.reduceEqDiff, i10, i20, i30]
      exact ha
  have c0 : CPs X (sI (sI X 114 6 0) 114 7 0) 0 rw0 := ⟨(AgT.rf.fld (by decide)).fld (by decide), by rw [sI_nk (by decide)]; exact sI_at, fun k hk => absurd hk (Nat.not_lt_zero k)⟩
  exact C_wh q t h2 61 0 0 rw0 _ (by omega) (by omega) (Nat.zero_le _) c0 sI_at kn ks
def fErr (σ : St) : Nat := match (whR (zN σ) (uT σ) 61 0).2 with | none => (whR (zN σ) (uT σ) 61 0).1 | some _ => zN σ
theorem ok_firstError {B : Nat} (iS : InvS B σ) : Op (fun X K => w_X4_firstError 1 X K) σ (Int32.ofNat (fErr σ)) σ := by
  intro X Zz K w k
  have q := w.1
  simp only [w_X4_firstError, q.t1, q.r1_4, q.t114, hty_sI, hln_sI, hR_sI, cnd1, cnd2, b2i_0, b2i_1, b2i_z, if_true, if_false, true_and, and_true, true_implies, false_implies, ne_eq, not_false_eq_true, not_true_eq_false, eq_self, exIA, exIS, exAI, exAS, exSI, exSA, true_or, or_true, false_or, or_false, Nat.reduceEqDiff, Bool.true_and, Bool.and_true, Bool.false_and, Bool.and_false, Bool.true_eq_false, Bool.false_eq_true, i10, i20, i30, vp0, nc0]
  refine R2E w iS (fun X1 e a _ => ?_) (fun l X1 e a => ?_)
  · unfold fErr at k
    rw [e] at k
    exact k X1 (w.agT a)
  · unfold fErr at k
    rw [e] at k
    exact k X1 (w.agT a.1)
end PW
