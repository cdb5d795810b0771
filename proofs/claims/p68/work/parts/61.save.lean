/-! what changes the row: the parts of it, class side by side -/
section PM
variable {X : XH} {c : St} {Zz : XH} {n r t : Nat}
theorem inG_ex {a : Int32} {lo hi : Nat} (hl : lo < 4096) (hh : hi < 4096) (h : inG a (Int32.ofNat lo) (Int32.ofNat hi) = true) : ∃ x, lo ≤ x ∧ x ≤ hi ∧ a = Int32.ofNat x := by
  unfold inG at h
  simp only [Bool.and_eq_true, Bool.not_eq_true', decide_eq_false_iff_not, decide_eq_true_eq] at h
  obtain ⟨h1, h2⟩ := h
  rw [Int32.lt_iff_toInt_lt, of_toInt hl] at h1
  rw [Int32.le_iff_toInt_le, of_toInt hh] at h2
  obtain ⟨x, hx, e⟩ := ex_of (a := a) (n := hi + 1) (by rw [Int32.lt_iff_toInt_lt, t0]; omega) (by omega)
  refine ⟨x, ?_, by omega, e⟩
  rw [e, of_toInt (by omega)] at h1
  omega
/-- the state behind a call that saves -/
theorem InvS.push {B : Nat} {σ : St} {g' : Row} (iS : InvS B σ) (i' : IvG B g') : InvS B (g', (pushS σ).2) := by
  refine ⟨i', fun j hj => ?_, fun k hk h => iS.2.2.1 k hk h, fun k hk => iS.2.2.2 k hk⟩
  show IvG B ((pushS σ).2.2.1 j)
  have hj' : j < (pushS σ).2.1 := hj
  unfold pushS at hj' ⊢
  simp only at hj' ⊢
  by_cases h6 : σ.2.1 < 6
  · rw [if_pos h6] at hj' ⊢
    by_cases e : j = σ.2.1
    · simp only [e, if_true]
      exact iS.1
    · simp only [e, if_false]
      exact iS.2.1 j (show j < σ.2.1 by omega)
  · rw [if_neg h6] at hj' ⊢
    by_cases e : j = 5
    · simp only [e, if_true]
      exact iS.1
    · simp only [e, if_false]
      exact iS.2.1 (j + 1) (show j + 1 < σ.2.1 by omega)
theorem e_unmix {K : XH → Prop} (q : Shp X) (hr : r < 4) (ht : t < 3) : w_X3_unmix 2 (Int32.ofNat r) (Int32.ofNat t) X K = K (sI (sI X 12 (3 * r + t) 0) 13 (3 * r + t) 0) := by
  have q2 : Shp (sI X 12 (3 * r + t) 0) := q
  simp only [w_X3_unmix, w_X3_place, q.t2, q.r2_10, q.r2_11, pl_eq, put_eq q.t12 q.n12 (show 3 * r + t < 12 by omega) (by decide), put_eq q2.t13 q2.n13 (show 3 * r + t < 12 by omega) (by decide), hty_sI, hln_sI, hR_sI, cnd1, cnd2, b2i_0, b2i_1, b2i_z, if_true, if_false, true_and, and_true, true_implies, false_implies, ne_eq, not_false_eq_true, not_true_eq_false, eq_self, exIA, exIS, exAI, exAS, exSI, exSA, true_or, or_true, false_or, or_false, Nat.reduceEqDiff, Bool.true_and, Bool.and_true, Bool.false_and, Bool.and_false, Bool.true_eq_false, Bool.false_eq_true, i10, i20, i30, vp0, nc0]
theorem s_unmixEverywhere {K : XH → Prop} (w : Wd X c Zz) (hr : r < 4) (k : ∀ X1, Wd X1 (unmA (zG c) r, c.2) Zz → K X1) : w_X3_unmixEverywhere 2 (Int32.ofNat r) X K := by
  intro P hP
  have st : ∀ (t : Nat) (c' : St) (X1 : XH), t < 3 → Wd X1 c' Zz → (∀ X2, Wd X2 (unm (zG c') r t, c'.2) Zz → P 2 (Int32.ofNat r) (Int32.ofNat (t + 1)) X2) → P 2 (Int32.ofNat r) (Int32.ofNat t) X1 := by
    intro t c' X1 ht w1 kk
    refine hP _ _ _ _ ⟨fun he => absurd he (by rw [le3 ht]; exact not_false), fun _ => ⟨w1.1.t2, ?_⟩⟩
    rw [e_unmix w1.1 hr ht, of_s]
    exact kk _ ((w1.pM hr ht).pZ hr ht)
  refine st 0 c X (by decide) w (fun X1 w1 => st 1 _ X1 (by decide) w1 (fun X2 w2 => st 2 _ X2 (by decide) w2 (fun X3 w3 => hP _ _ _ _ ⟨fun _ => k X3 w3, fun hne => absurd le3t (by simpa using hne)⟩)))
def addG (g : Row) (n r : Nat) (S L Y : Int32) : Row := unmA (upr (upr (upr (upr (upr g (13 * n) (Int32.ofNat r)) (13 * n + 1) S) (13 * n + 2) L) (13 * n + 3) Y) 366 (Int32.ofNat n + 1)) r
theorem s_add {S L Y : Int32} {K : Int32 → XH → Prop} (w : Wd X c Zz) (hn : Cn (zG c) n) (h24 : n < 24) (hr : r < 4) (k : ∀ X1, Wd X1 (addG (zG c) n r S L Y, c.2) Zz → K (Int32.ofNat n) X1) : w_X3_add 2 (Int32.ofNat r) S L Y X K := by
  have q := w.1
  have h : TR X 2 (zG c) := w.2.1.1
  have e0 := h.cn hn
  unfold w_X3_add
  have q1 : Shp (sI X 3 n (Int32.ofNat r)) := q
  have q2 : Shp (sI (sI X 3 n (Int32.ofNat r)) 4 n S) := q
  have q3 : Shp (sI (sI (sI X 3 n (Int32.ofNat r)) 4 n S) 5 n L) := q
  have w1 := (((w.pR (v := Int32.ofNat r) h24).pS (v := S) h24).pL (v := L) h24).pH (v := Y) h24
  have e1 : hI (sI (sI (sI (sI X 3 n (Int32.ofNat r)) 4 n S) 5 n L) 6 n Y) 2 0 = Int32.ofNat n := by
    rw [sI_ne (by decide), sI_ne (by decide), sI_ne (by decide), sI_ne (by decide)]
    exact e0
  simp only [q.t2, q.r2_1, q.r2_2, q.r2_3, q.r2_4, e0, put_eq q.t3 q.n3 h24 (by decide), put_eq q1.t4 q1.n4 h24 (by decide), put_eq q2.t5 q2.n5 h24 (by decide), put_eq q3.t6 q3.n6 h24 (by decide), e1, hty_sI, hln_sI, hR_sI, cnd1, cnd2, b2i_0, b2i_1, b2i_z, if_true, if_false, true_and, and_true, true_implies, false_implies, ne_eq, not_false_eq_true, not_true_eq_false, eq_self, exIA, exIS, exAI, exAS, exSI, exSA, true_or, or_true, false_or, or_false, Nat.reduceEqDiff, Bool.true_and, Bool.and_true, Bool.false_and, Bool.and_false, Bool.true_eq_false, Bool.false_eq_true, i10, i20, i30, vp0, nc0]
  exact s_unmixEverywhere (w1.p0 (v := Int32.ofNat n + 1)) hr k
theorem Inv.add {g : Row} {s l y : Nat} (i : Inv g n) (h24 : n < 24) (hr : r < 4) (hs : s < 5) (h1 : 4 ≤ l) (h2 : l ≤ 60) (h3 : y ≤ 20) (h4 : y ≤ l) : Inv (addG g n r (Int32.ofNat s) (Int32.ofNat l) (Int32.ofNat y)) (n + 1) := by
  unfold addG
  refine Inv.unmA ?_ hr
  have hg : ∀ k, k ≠ 13 * n → k ≠ 13 * n + 1 → k ≠ 13 * n + 2 → k ≠ 13 * n + 3 → k ≠ 366 → upr (upr (upr (upr (upr g (13 * n) (Int32.ofNat r)) (13 * n + 1) (Int32.ofNat s)) (13 * n + 2) (Int32.ofNat l)) (13 * n + 3) (Int32.ofNat y)) 366 (Int32.ofNat n + 1) k = g k := by
    intro k e1 e2 e3 e4 e5
    rw [upr_ne e5, upr_ne e4, upr_ne e3, upr_ne e2, upr_ne e1]
  obtain ⟨hn, g1, g2, g3, g4, g5⟩ := i
  refine ⟨⟨upr_eq.trans (of_s n), by omega⟩, fun c' hc' => ?_, fun k hk hk' => (hg k (by omega) (by omega) (by omega) (by omega) (by omega)).trans (g2 k hk (by omega)), fun s' hs' t' ht' => ?_, fun r' hr' t' ht' => ?_, ?_⟩
  · by_cases e : c' = n
    · subst e
      refine ⟨⟨r, hr, ?_⟩, ⟨s, hs, ?_⟩, ⟨l, y, h1, h2, h3, h4, ?_, ?_⟩, fun t' ht' => ⟨⟨0, 0, by decide, ?_, ?_⟩, ⟨0, by decide, ?_⟩⟩⟩
      · exact (upr_ne (by omega)).trans ((upr_ne (by omega)).trans ((upr_ne (by omega)).trans ((upr_ne (by omega)).trans upr_eq)))
      · exact (upr_ne (by omega)).trans ((upr_ne (by omega)).trans ((upr_ne (by omega)).trans upr_eq))
      · exact (upr_ne (by omega)).trans ((upr_ne (by omega)).trans upr_eq)
      · exact (upr_ne (by omega)).trans upr_eq
      · exact (hg _ (by omega) (by omega) (by omega) (by omega) (by omega)).trans (g2 _ (by omega) (by omega))
      · exact (hg _ (by omega) (by omega) (by omega) (by omega) (by omega)).trans (g2 _ (by omega) (by omega))
      · exact (hg _ (by omega) (by omega) (by omega) (by omega) (by omega)).trans (g2 _ (by omega) (by omega))
    · exact Inc.cong (fun j hj => hg _ (by omega) (by omega) (by omega) (by omega) (by omega)) (g1 c' (by omega))
  · obtain ⟨a, u, f1, f2, f3, e1, e2⟩ := g3 s' hs' t' ht'
    exact ⟨a, u, f1, f2, f3, (hg _ (by omega) (by omega) (by omega) (by omega) (by omega)).trans e1, (hg _ (by omega) (by omega) (by omega) (by omega) (by omega)).trans e2⟩
  · obtain ⟨e1, z, hz, e2⟩ := g4 r' hr' t' ht'
    refine ⟨?_, z, hz, (hg _ (by omega) (by omega) (by omega) (by omega) (by omega)).trans e2⟩
    unfold gM at e1 ⊢
    rw [hg _ (by omega) (by omega) (by omega) (by omega) (by omega)]
    exact e1
  · obtain ⟨z, hz, e1⟩ := g5
    exact ⟨z, hz, (hg _ (by omega) (by omega) (by omega) (by omega) (by omega)).trans e1⟩
end PM
section PM2
/-- the first i elements are copied, from sa on in a, to off on in b -/
def Cp (X X1 : XH) (a sa b off i : Nat) : Prop := Ag (fun x => decide (x = b)) X X1 ∧ (∀ k, k < i → hI X1 b (off + k) = hI X a (sa + k)) ∧ ∀ j, j < off ∨ off + i ≤ j → hI X1 b j = hI X b j
theorem Cp.z {X : XH} {a sa b off : Nat} : Cp X X a sa b off 0 := ⟨Ag.rf, fun k hk => by omega, fun _ _ => rfl⟩
theorem Cp.src {X X1 : XH} {a sa b off i : Nat} (c : Cp X X1 a sa b off i) (ne : a ≠ b) : hI X1 a = hI X a := c.1.2.2.2.2.2.2 a (by simp [ne])
theorem Cp.s {X X1 : XH} {a sa b off i : Nat} (c : Cp X X1 a sa b off i) : Cp X (sI X1 b (off + i) (hI X a (sa + i))) a sa b off (i + 1) := by
  obtain ⟨h1, h2, h3⟩ := c
  refine ⟨h1.sI (by simp), fun k hk => ?_, fun j hj => ?_⟩
  · by_cases e : k = i
    · subst e
      exact sI_at
    · rw [sI_nk (by omega)]
      exact h2 k (by omega)
  · rw [sI_nk (by omega)]
    exact h3 j (by omega)
end PM2
