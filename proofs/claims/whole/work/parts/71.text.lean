/-! the whole text: where it is wrong, for both -/
section PW
def ext (rows : Nat → R4) (p : Nat) : List R4 → Nat → R4
  | [] => rows
  | x :: l => ext (addR rows p x) (p + 1) l
def EndS (X1 : XH) (pL : Nat) : Prop := pL < 60 ∧ hI X1 114 6 = Int32.ofNat pL ∧ ((hI X1 114 7 = 2 ∧ ∃ v, 4 ≤ v ∧ v < 100 ∧ hI X1 118 pL = Int32.ofNat v) ∨ (hI X1 114 7 = 3 ∧ ∃ v, 1 ≤ v ∧ v < 100 ∧ hI X1 119 pL = Int32.ofNat v))
def Fin (X0 X1 : XH) (p : Nat) (rows : Nat → R4) (l : List R4) : Prop := AgT X0 X1 ∧ (∃ pL, pL + 1 = p + l.length ∧ EndS X1 pL) ∧ ∀ k, k < p + l.length → rowAt X1 k (ext rows p l k)
theorem wh_n {n f i j : Nat} {u : Nat → Nat} (e : prtR n u i = (j, none)) : whR n u (f + 1) i = (j, none) := by simp only [whR, e]
theorem wh_e {n f i j : Nat} {u : Nat → Nat} {x : R4} (e : prtR n u i = (j, some x)) (h : ¬ j < n) : whR n u (f + 1) i = (j, some [x]) := by simp only [whR, e, if_neg h]
theorem wh_b {n f i j : Nat} {u : Nat → Nat} {x : R4} (e : prtR n u i = (j, some x)) (h : j < n) (h2 : u j ≠ 59) : whR n u (f + 1) i = (j, none) := by simp only [whR, e, if_pos h, if_neg h2]
theorem wh_c {n f i j : Nat} {u : Nat → Nat} {x : R4} (e : prtR n u i = (j, some x)) (h : j < n) (h2 : u j = 59) : whR n u (f + 1) i = ((whR n u f (j + 1)).1, (whR n u f (j + 1)).2.map fun l => x :: l) := by simp only [whR, e, if_pos h, if_pos h2]
variable {X0 X : XH} {n : Nat} {u : Nat → Nat} {P : Nat → Int32 → XH → Prop} {K : Int32 → XH → Prop}
theorem C_wh (q0 : Shp X0) (t : TxP P K X0 n u) (hn : n ≤ 60) : ∀ f i p (rows : Nat → R4) X, n < i + f → 4 * p ≤ i → i ≤ n → CPs X0 X p rows → hI X 114 7 = 0 → (∀ X1, (whR n u f i).2 = none → AgT X0 X1 → ((whR n u f i).1 < n ∨ ND X1) → K (Int32.ofNat (whR n u f i).1) X1) → (∀ l X1, (whR n u f i).2 = some l → Fin X0 X1 p rows l → K (Int32.ofNat n) X1) → P 114 (Int32.ofNat i) X
  | 0, i, p, rows, X, hf, hp, hi, c, he, kn, ks => by omega
  | f + 1, i, p, rows, X, hf, hp, hi, c, he, kn, ks => by
    have pb := prt_b (u := u) hi
    refine S0 q0 t c (by omega) he hi ?_
    rcases e : prtR n u i with ⟨j, _ | x⟩
    · rw [wh_n e] at kn
      exact ⟨fun X1 _ a h => kn X1 rfl a h, fun x X1 h => (nomatch h), fun x X1 h => (nomatch h), fun x X1 h => (nomatch h)⟩
    · rw [e] at pb
      obtain ⟨b1, b2, b3⟩ := pb
      have b4 := (b3 x rfl).1
      simp only at b2 b4
      refine ⟨fun X1 h => (nomatch h), fun x' X1 h hj d => ?_, fun x' X1 h hj h59 a => ?_, fun x' X1 h hj h59 c1 e1 => ?_⟩
      · have ex : x = x' := Option.some.inj h
        subst ex
        have hj' : j = n := hj
        rw [wh_e e (by omega)] at ks
        obtain ⟨d1, d2, d3⟩ := d
        refine ks [x] X1 rfl ⟨d1.1, ⟨p, rfl, by omega, d1.2.1, ?_⟩, fun k hk => ?_⟩
        · rcases d3 with ⟨g1, g2, g3⟩ | ⟨g1, g2, g3⟩
          · exact Or.inl ⟨g1, _, g2, g3, d2.2.2.1⟩
          · exact Or.inr ⟨g1, _, g2, g3, d2.2.2.2⟩
        · show rowAt X1 k (addR rows p x k)
          have hk' : k < p + 1 := hk
          unfold addR
          by_cases h : k = p
          · rw [if_pos h, h]
            exact d2
          · rw [if_neg h]
            exact d1.2.2 k (by omega)
      · rw [wh_b e hj h59] at kn
        exact kn X1 rfl a (Or.inl hj)
      · have ex : x = x' := Option.some.inj h
        subst ex
        have hj' : j < n := hj
        rw [wh_c e hj h59] at kn ks
        refine C_wh q0 t hn f (j + 1) (p + 1) (addR rows p x) X1 (by omega) (by omega) (by omega) c1 e1 (fun X2 h2 a2 h3 => ?_) (fun l X2 h2 fn => ?_)
        · exact kn X2 (by rw [h2]; rfl) a2 h3
        · refine ks (x :: l) X2 (by rw [h2]; rfl) ⟨fn.1, ?_, fun k hk => ?_⟩
          · obtain ⟨pL, g1, g2⟩ := fn.2.1
            exact ⟨pL, by rw [g1, List.length_cons]; omega, g2⟩
          · refine fn.2.2 k ?_
            rw [List.length_cons] at hk
            omega
theorem M_iw (tm : TxM X0 n u) (m : MX X0 X 0 0) (kn : ∀ X1, (whR n u 61 0).2 = none → MX X0 X1 (whR n u 61 0).1 1 → K 0 X1) (ks : ∀ l X1, (whR n u 61 0).2 = some l → MX X0 X1 n 0 → K 1 X1) : w_X5_isWhole_12 123 1 X K := by
  intro P hP
  have hn := tm.2.2.1
  have ex0 : ∀ X1 j, MX X0 X1 j 1 → K 0 X1 → P 123 0 X1 := fun X1 j m1 k => hP _ _ _ (by
    have q1 := m1.q tm
    simp only [q1.t123, m1.2.2, hty_sI, hln_sI, hR_sI, cnd1, cnd2, b2i_0, b2i_1, b2i_z, if_true, if_false, true_and, and_true, true_implies, false_implies, ne_eq, not_false_eq_true, not_true_eq_false, eq_self, true_or, or_true, false_or, or_false, Nat.reduceEqDiff, i10, i20, i30]
    exact k)
  have ex1 : ∀ X1 j, MX X0 X1 j 0 → K 1 X1 → P 123 0 X1 := fun X1 j m1 k => hP _ _ _ (by
    have q1 := m1.q tm
    simp only [q1.t123, m1.2.2, hty_sI, hln_sI, hR_sI, cnd1, cnd2, b2i_0, b2i_1, b2i_z, if_true, if_false, true_and, and_true, true_implies, false_implies, ne_eq, not_false_eq_true, not_true_eq_false, eq_self, true_or, or_true, false_or, or_false, Nat.reduceEqDiff, i10, i20, i30]
    exact k)
  have main : ∀ f i X, n < i + f → i ≤ n → MX X0 X i 0 → (∀ X1, (whR n u f i).2 = none → MX X0 X1 (whR n u f i).1 1 → K 0 X1) → (∀ l X1, (whR n u f i).2 = some l → MX X0 X1 n 0 → K 1 X1) → P 123 1 X := by
    intro f
    induction f with
    | zero =>
      intro i X hf hi
      omega
    | succ f ih =>
      intro i X hf hi m kn ks
      have pb := prt_b (u := u) hi
      have q := m.q tm
      refine hP _ _ _ ?_
      simp only [q.t123, hty_sI, hln_sI, hR_sI, cnd1, cnd2, b2i_0, b2i_1, b2i_z, if_true, if_false, true_and, and_true, true_implies, false_implies, ne_eq, not_false_eq_true, not_true_eq_false, eq_self, true_or, or_true, false_or, or_false, Nat.reduceEqDiff, i10, i20, i30]
      rcases ep : prtR n u i with ⟨j, o'⟩
      refine Pt tm m (by omega) (fun X1 e m1 => ?_) (fun x X1 e m1 fl => ?_)
      · rw [ep] at e m1
        simp only at e m1
        subst e
        have q1 := m1.q tm
        simp only [q1.t123, m1.2.2, w_X5_isWhole_43, hty_sI, hln_sI, hR_sI, cnd1, cnd2, b2i_0, b2i_1, b2i_z, if_true, if_false, true_and, and_true, true_implies, false_implies, ne_eq, not_false_eq_true, not_true_eq_false, eq_self, true_or, or_true, false_or, or_false, Nat.reduceEqDiff, i10, i20, i30]
        rw [wh_n ep] at kn
        exact ex0 X1 _ m1 (kn X1 rfl m1)
      · rw [ep] at e m1 pb
        simp only at e m1 pb
        subst e
        obtain ⟨b1, b2, b3⟩ := pb
        have b4 := (b3 x rfl).1
        have q1 := m1.q tm
        have e6 : hI X1 123 6 = Int32.ofNat n := (m1.1.2 6 (by decide)).trans tm.2.1
        simp only [q1.t123, m1.2.2, m1.2.1, e6, of_le (show n < 4096 by omega) (show j < 4096 by omega), w_X5_isWhole_43, hty_sI, hln_sI, hR_sI, cnd1, cnd2, b2i_0, b2i_1, b2i_z, if_true, if_false, true_and, and_true, true_implies, false_implies, ne_eq, not_false_eq_true, not_true_eq_false, eq_self, true_or, or_true, false_or, or_false, Nat.reduceEqDiff, i10, i20, i30]
        by_cases hj : n ≤ j
        · rw [if_pos hj]
          rw [wh_e ep (by omega)] at ks
          have hjn : j = n := by omega
          subst hjn
          exact ex1 X1 _ m1 (ks [x] X1 rfl m1)
        · rw [if_neg hj]
          by_cases h59 : u j = 59
          · rw [wh_c ep (by omega) h59] at kn ks
            refine W1 (lo := 59) (hi := 59) tm m1 (by omega) (by decide) (by decide) (by rw [nx_of (by omega)]; omega) (fun X2 m2 f2 => ?_)
            have q2 := m2.q tm
            simp only [q2.t123, m2.2.2, hty_sI, hln_sI, hR_sI, cnd1, cnd2, b2i_0, b2i_1, b2i_z, if_true, if_false, true_and, and_true, true_implies, false_implies, ne_eq, not_false_eq_true, not_true_eq_false, eq_self, true_or, or_true, false_or, or_false, Nat.reduceEqDiff, i10, i20, i30]
            refine ih (j + 1) X2 (by omega) (by omega) m2 (fun X3 h3 m3 => ?_) (fun l X3 h3 m3 => ?_)
            · exact kn X3 (by rw [h3]; rfl) m3
            · exact ks (x :: l) X3 (by rw [h3]; rfl) m3
          · rw [wh_b ep (by omega) h59] at kn
            refine W2 (lo := 59) (hi := 59) tm m1 (by omega) (by decide) (by decide) (by rw [nx_of (by omega)]; omega) (fun v X2 m2 => ?_)
            have q2 := m2.q tm
            simp only [q2.t123, m2.2.2, hty_sI, hln_sI, hR_sI, cnd1, cnd2, b2i_0, b2i_1, b2i_z, if_true, if_false, true_and, and_true, true_implies, false_implies, ne_eq, not_false_eq_true, not_true_eq_false, eq_self, true_or, or_true, false_or, or_false, Nat.reduceEqDiff, i10, i20, i30]
            exact ex0 X2 _ m2 (kn X2 rfl m2)
  exact main 61 0 X (by omega) (Nat.zero_le _) m kn ks
-- the world
def uT (σ : St) (k : Nat) : Nat := (zT σ k).toNatClampNeg
variable {σ m d : St} {o : Ou}
theorem uT_ok (iS : InvS σ) : ∀ k, k < zN σ → zT σ k = Int32.ofNat (uT σ k) ∧ 33 ≤ uT σ k ∧ uT σ k ≤ 126 := fun k hk => by
  obtain ⟨s, h1, h2, e⟩ := iS.2.2.2 k hk
  unfold uT
  rw [e, nc (by omega)]
  exact ⟨rfl, h1, h2⟩
theorem Wd.agT {X1 : XH} (w : Wd X σ m o) (a : AgT X X1) : Wd X1 σ m o := by
  have f : Fr (dRg 114 119) X X1 := (a.1.fr w.1).wk (fun x hx => by
    have := dRg_f hx
    unfold dTx
    simp
    omega)
  obtain ⟨h1, h2, h3⟩ := w.2.1.2.2.2
  exact w.txt f ⟨a.2.1.trans h1, h2, fun k hk => (congrFun a.2.2 k).trans (h3 k hk)⟩
theorem Wd.agM {X1 : XH} (w : Wd X d σ o) (a : AgM X X1) : Wd X1 d σ o := by
  have f : Fr (dRg 123 128) X X1 := (a.1.fr w.1).wk (fun x hx => by
    have := dRg_f hx
    simp
    omega)
  have ne : ∀ b, b ≠ 123 → hI X1 b = hI X b := fun b hb => a.1.2.2.2.2.2.2 b (by simpa using hb)
  obtain ⟨h1, ⟨h2, h3⟩, h4, h5, h6, h7, h8⟩ := w.2.2.1
  have ks : MS X1 σ := by
    refine ⟨fun k hk => ?_, ⟨(a.2 2 (by decide)).trans h2, h3⟩, fun j hj k hk => ?_, fun k hk => ?_, (a.2 6 (by decide)).trans h6, h7, fun k hk => ?_⟩
    · rw [ne 124 (by decide)]; exact h1 k hk
    · rw [ne 125 (by decide)]; exact h4 j hj k hk
    · rw [ne 127 (by decide), ne 126 (by decide)]; exact h5 k hk
    · rw [ne 128 (by decide)]; exact h8 k hk
  have w1 := w.mod f ks
  have e : hI X1 123 7 = o.2.2 := (a.2 7 (by decide)).trans w.2.2.2.2.2
  rw [e] at w1
  exact w1
theorem Wd.txM (w : Wd X d σ o) (iS : InvS σ) : TxM X (zN σ) (uT σ) := by
  obtain ⟨h1, h2, h4, h5, h6, h7, h8⟩ := w.2.2.1
  exact ⟨w.1, h6, h7, fun k hk => ⟨(h8 k hk).trans (uT_ok iS k hk).1, (uT_ok iS k hk).2⟩⟩
def rw0 : Nat → R4 := fun _ => (0, 0, 0, 0)
theorem R2E (w : Wd X σ m o) (iS : InvS σ) (kn : ∀ X1, (whR (zN σ) (uT σ) 61 0).2 = none → AgT X X1 → ((whR (zN σ) (uT σ) 61 0).1 < zN σ ∨ ND X1) → K (Int32.ofNat (whR (zN σ) (uT σ) 61 0).1) X1) (ks : ∀ l X1, (whR (zN σ) (uT σ) 61 0).2 = some l → Fin X X1 0 rw0 l → K (Int32.ofNat (zN σ)) X1) : w_X0_readToError 114 X K := by
  have q := w.1
  obtain ⟨h1, h2, h3⟩ := w.2.1.2.2.2
  unfold w_X0_readToError
  simp only [q.t114, hty_sI, hln_sI, hR_sI, cnd1, cnd2, b2i_0, b2i_1, b2i_z, if_true, if_false, true_and, and_true, true_implies, false_implies, ne_eq, not_false_eq_true, not_true_eq_false, eq_self, true_or, or_true, false_or, or_false, Nat.reduceEqDiff, i10, i20, i30]
  intro P hP
  have t : TxP P K X (zN σ) (uT σ) := by
    refine ⟨fun k hk => (uT_ok iS k hk).2, fun i X1 hi a ha => hP _ _ _ ?_, fun X1 a ha => hP _ _ _ ?_⟩
    · have q1 := a.1.shp q
      have e1 : hI X1 114 1 = Int32.ofNat (zN σ) := a.2.1.trans h1
      have e2 : hI X1 115 i = Int32.ofNat (uT σ i) := (congrFun a.2.2 i).trans ((h3 i hi).trans (uT_ok iS i hi).1)
      simp only [q1.t114, q1.r114_0, e1, ltl hi (show zN σ < 4096 by omega), at_eq q1.t115 q1.n115 (show i < 60 by omega) (show 60 < 4096 by decide), e2, of_s, hty_sI, hln_sI, hR_sI, cnd1, cnd2, b2i_0, b2i_1, b2i_z, if_true, if_false, true_and, and_true, true_implies, false_implies, ne_eq, not_false_eq_true, not_true_eq_false, eq_self, true_or, or_true, false_or, or_false, Nat.reduceEqDiff, i10, i20, i30]
      simp only [cnd1, cnd2] at ha
      exact ha
    · have q1 := a.1.shp q
      have e1 : hI X1 114 1 = Int32.ofNat (zN σ) := a.2.1.trans h1
      simp only [q1.t114, q1.r114_0, e1, ltt (show zN σ < 4096 by omega), hty_sI, hln_sI, hR_sI, cnd1, cnd2, b2i_0, b2i_1, b2i_z, if_true, if_false, true_and, and_true, true_implies, false_implies, ne_eq, not_false_eq_true, not_true_eq_false, eq_self, true_or, or_true, false_or, or_false, Nat.reduceEqDiff, i10, i20, i30]
      exact ha
  have c0 : CPs X (sI (sI X 114 6 0) 114 7 0) 0 rw0 := ⟨(AgT.rf.fld (by decide)).fld (by decide), by rw [sI_nk (by decide)]; exact sI_at, fun k hk => absurd hk (Nat.not_lt_zero k)⟩
  exact C_wh q t h2 61 0 0 rw0 _ (by omega) (by omega) (Nat.zero_le _) c0 sI_at kn ks
theorem op_firstError (iS : InvS σ) : OpN (fun X K => w_X4_firstError 1 X K) (fun X K => w_X5_firstError 123 X K) σ := by
  refine ⟨Int32.ofNat (match (whR (zN σ) (uT σ) 61 0).2 with | none => (whR (zN σ) (uT σ) 61 0).1 | some _ => zN σ), σ, iS, fun X m o K w k => ?_, fun X d o K w k => ?_⟩
  · have q := w.1
    simp only [w_X4_firstError, q.t1, q.r1_4, q.t114, hty_sI, hln_sI, hR_sI, cnd1, cnd2, b2i_0, b2i_1, b2i_z, if_true, if_false, true_and, and_true, true_implies, false_implies, ne_eq, not_false_eq_true, not_true_eq_false, eq_self, true_or, or_true, false_or, or_false, Nat.reduceEqDiff, i10, i20, i30]
    refine R2E w iS (fun X1 e a _ => ?_) (fun l X1 e a => ?_)
    · rw [e] at k
      exact k X1 (w.agT a)
    · rw [e] at k
      exact k X1 (w.agT a.1)
  · have q := w.1
    have w0 := w.thr (v := 0)
    have tm := w0.txM iS
    simp only [w_X5_firstError, w_X5_isWhole, q.t123, hty_sI, hln_sI, hR_sI, cnd1, cnd2, b2i_0, b2i_1, b2i_z, if_true, if_false, true_and, and_true, true_implies, false_implies, ne_eq, not_false_eq_true, not_true_eq_false, eq_self, true_or, or_true, false_or, or_false, Nat.reduceEqDiff, i10, i20, i30]
    refine M_iw tm (X := sI (sI (sI X 123 7 0) 123 8 0) 123 9 0) ⟨(AgM.rf.f (by decide) (by decide)).f (by decide) (by decide), by rw [sI_nk (by decide)]; exact sI_at, sI_at⟩ (fun X1 e m1 => ?_) (fun l X1 e m1 => ?_)
    · rw [e] at k
      have q1 := m1.q tm
      simp only [q1.t123, m1.2.1, hty_sI, hln_sI, hR_sI, cnd1, cnd2, b2i_0, b2i_1, b2i_z, if_true, if_false, true_and, and_true, true_implies, false_implies, ne_eq, not_false_eq_true, not_true_eq_false, eq_self, true_or, or_true, false_or, or_false, Nat.reduceEqDiff, i10, i20, i30]
      exact k X1 _ (w0.agM m1.1)
    · rw [e] at k
      have q1 := m1.q tm
      have e6 : hI X1 123 6 = Int32.ofNat (zN σ) := (m1.1.2 6 (by decide)).trans tm.2.1
      simp only [q1.t123, e6, hty_sI, hln_sI, hR_sI, cnd1, cnd2, b2i_0, b2i_1, b2i_z, if_true, if_false, true_and, and_true, true_implies, false_implies, ne_eq, not_false_eq_true, not_true_eq_false, eq_self, true_or, or_true, false_or, or_false, Nat.reduceEqDiff, i10, i20, i30]
      exact k X1 _ (w0.agM m1.1)
end PW
