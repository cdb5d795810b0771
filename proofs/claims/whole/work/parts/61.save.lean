/-! what changes the row: the parts of it, class and reference side by side -/
section PM
variable {X : XH} {c m : St} {o : Ou} {n r t : Nat}
theorem qG {a lo hi : Int32} : inQ a lo hi = inG a lo hi := by
  unfold inQ inG
  by_cases h1 : a < lo <;> by_cases h2 : hi < a <;> simp [h1, h2, Int32.not_lt.mp, Int32.not_le] <;> first | exact h2 | (rw [Int32.not_lt] at h2; exact h2)
theorem inG_ex {a : Int32} {lo hi : Nat} (hl : lo < 4096) (hh : hi < 4096) (h : inG a (Int32.ofNat lo) (Int32.ofNat hi) = true) : ∃ x, lo ≤ x ∧ x ≤ hi ∧ a = Int32.ofNat x := by
  unfold inG at h
  simp only [Bool.and_eq_true, Bool.not_eq_true', decide_eq_false_iff_not, decide_eq_true_eq] at h
  obtain ⟨h1, h2⟩ := h
  rw [Int32.lt_iff_toInt_lt, of_toInt hl] at h1
  rw [Int32.le_iff_toInt_le, of_toInt hh] at h2
  obtain ⟨x, hx, e⟩ := ex_of (a := a) (n := hi + 1) (by rw [Int32.lt_iff_toInt_lt, t0]; omega) (by omega)
  refine ⟨x, ?_, by omega, e⟩
  rw [e, of_toInt (by omega)] at h1
  omega
/-- the state behind a call that saves -/
theorem InvS.push {σ : St} {g' : Row} {n : Nat} (iS : InvS σ) (i : Inv g' n) : InvS (g', (pushS σ).2) := by
  obtain ⟨⟨n0, h0⟩, h1, h2, h3⟩ := iS
  refine ⟨⟨n, i⟩, fun j hj => ?_, h2, h3⟩
  show ∃ n, Inv ((if σ.2.1 < 6 then (fun j => if j = σ.2.1 then σ.1 else σ.2.2.1 j) else (fun j => if j = 5 then σ.1 else σ.2.2.1 (j + 1))) j) n
  have hj' : j < (if σ.2.1 < 6 then σ.2.1 + 1 else 6) := hj
  by_cases h6 : σ.2.1 < 6
  · rw [if_pos h6] at hj' ⊢
    by_cases e : j = σ.2.1
    · simp only [e, if_true]
      exact ⟨n0, h0⟩
    · simp only [e, if_false]
      exact h1 j (show j < σ.2.1 by omega)
  · rw [if_neg h6] at hj' ⊢
    by_cases e : j = 5
    · simp only [e, if_true]
      exact ⟨n0, h0⟩
    · simp only [e, if_false]
      exact h1 (j + 1) (show j + 1 < σ.2.1 by omega)
theorem e_unmix {K : XH → Prop} (q : Shp X) (hr : r < 4) (ht : t < 3) : w_X3_unmix 2 (Int32.ofNat r) (Int32.ofNat t) X K = K (sI (sI X 12 (3 * r + t) 0) 13 (3 * r + t) 0) := by
  have q2 : Shp (sI X 12 (3 * r + t) 0) := q
  simp only [w_X3_unmix, w_X3_place, q.t2, q.r2_10, q.r2_11, pl_eq, put_eq q.t12 q.n12 (show 3 * r + t < 12 by omega) (by decide), put_eq q2.t13 q2.n13 (show 3 * r + t < 12 by omega) (by decide), hty_sI, hln_sI, hR_sI, cnd1, cnd2, b2i_0, b2i_1, b2i_z, if_true, if_false, true_and, and_true, true_implies, false_implies, ne_eq, not_false_eq_true, not_true_eq_false, eq_self, exIA, exIS, exAI, exAS, exSI, exSA, true_or, or_true, false_or, or_false, Nat.reduceEqDiff, Bool.true_and, Bool.and_true, Bool.false_and, Bool.and_false, Bool.true_eq_false, Bool.false_eq_true, i10, i20, i30, vp0, nc0]
theorem s_unmixEverywhere {K : XH → Prop} (w : Wd X c m o) (hr : r < 4) (k : ∀ X1, Wd X1 (unmA (zG c) r, c.2) m o → K X1) : w_X3_unmixEverywhere 2 (Int32.ofNat r) X K := by
  intro P hP
  have st : ∀ (t : Nat) (c' : St) (X1 : XH), t < 3 → Wd X1 c' m o → (∀ X2, Wd X2 (unm (zG c') r t, c'.2) m o → P 2 (Int32.ofNat r) (Int32.ofNat (t + 1)) X2) → P 2 (Int32.ofNat r) (Int32.ofNat t) X1 := by
    intro t c' X1 ht w1 kk
    refine hP _ _ _ _ ⟨fun he => absurd he (by rw [le3 ht]; exact not_false), fun _ => ⟨w1.1.t2, ?_⟩⟩
    rw [e_unmix w1.1 hr ht, of_s]
    exact kk _ ((w1.pM hr ht).pZ hr ht)
  refine st 0 c X (by decide) w (fun X1 w1 => st 1 _ X1 (by decide) w1 (fun X2 w2 => st 2 _ X2 (by decide) w2 (fun X3 w3 => hP _ _ _ _ ⟨fun _ => k X3 w3, fun hne => absurd le3t (by simpa using hne)⟩)))
theorem x_unmix {K : XH → Prop} (q : Shp X) (hr : r < 4) (ht : t < 3) : w_X5_unmix 123 (Int32.ofNat r) (Int32.ofNat t) X K = K (sI (sI X 124 (342 + (3 * r + t)) 0) 124 (354 + (3 * r + t)) 0) := by
  have h1 : vp_in (Int32.ofNat (342 + (3 * r + t))) 371 = True := vp3 (by omega)
  have h2 : vp_in (Int32.ofNat (354 + (3 * r + t))) 371 = True := vp3 (by omega)
  simp only [w_X5_unmix, q.t123, q.r123_0, q.t124, q.n124, ixM_eq, ixZ_eq, h1, h2, nc (show 342 + (3 * r + t) < 4096 by omega), nc (show 354 + (3 * r + t) < 4096 by omega), hty_sI, hln_sI, hR_sI, cnd1, cnd2, b2i_0, b2i_1, b2i_z, if_true, if_false, true_and, and_true, true_implies, false_implies, ne_eq, not_false_eq_true, not_true_eq_false, eq_self, exIA, exIS, exAI, exAS, exSI, exSA, true_or, or_true, false_or, or_false, Nat.reduceEqDiff, Bool.true_and, Bool.and_true, Bool.false_and, Bool.and_false, Bool.true_eq_false, Bool.false_eq_true, i10, i20, i30, vp0, nc0]
theorem s_unmixes {K : XH → Prop} (w : Wd X m c o) (hr : r < 4) (k : ∀ X1, Wd X1 m (unmA (zG c) r, c.2) o → K X1) : w_X5_unmixes 123 (Int32.ofNat r) X K := by
  intro P hP
  have st : ∀ (t : Nat) (c' : St) (X1 : XH), t < 3 → Wd X1 m c' o → (∀ X2, Wd X2 m (unm (zG c') r t, c'.2) o → P 123 (Int32.ofNat r) (Int32.ofNat (t + 1)) X2) → P 123 (Int32.ofNat r) (Int32.ofNat t) X1 := by
    intro t c' X1 ht w1 kk
    refine hP _ _ _ _ ⟨fun he => absurd he (by rw [le3 ht]; exact not_false), fun _ => ⟨w1.1.t123, ?_⟩⟩
    rw [x_unmix w1.1 hr ht, of_s]
    exact kk _ ((w1.mp (k := 342 + (3 * r + t)) (by omega)).mp (k := 354 + (3 * r + t)) (by omega))
  refine st 0 c X (by decide) w (fun X1 w1 => st 1 _ X1 (by decide) w1 (fun X2 w2 => st 2 _ X2 (by decide) w2 (fun X3 w3 => hP _ _ _ _ ⟨fun _ => k X3 w3, fun hne => absurd le3t (by simpa using hne)⟩)))
def addG (g : Row) (n r : Nat) (S L Y : Int32) : Row := unmA (upr (upr (upr (upr (upr g (13 * n) (Int32.ofNat r)) (13 * n + 1) S) (13 * n + 2) L) (13 * n + 3) Y) 366 (Int32.ofNat n + 1)) r
theorem s_add {S L Y : Int32} {K : Int32 → XH → Prop} (w : Wd X c m o) (hn : Cn (zG c) n) (h24 : n < 24) (hr : r < 4) (k : ∀ X1, Wd X1 (addG (zG c) n r S L Y, c.2) m o → K (Int32.ofNat n) X1) : w_X3_add 2 (Int32.ofNat r) S L Y X K := by
  have q := w.1
  have h : TR X 2 (zG c) := w.2.1.1
  have e0 := h.cn hn
  unfold w_X3_add
  have q1 : Shp (sI X 3 n (Int32.ofNat r)) := q
  have q2 : Shp (sI (sI X 3 n (Int32.ofNat r)) 4 n S) := q
  have q3 : Shp (sI (sI (sI X 3 n (Int32.ofNat r)) 4 n S) 5 n L) := q
  have w1 := (((w.pR (v := Int32.ofNat r) h24).pS (v := S) h24).pL (v := L) h24).pH (v := Y) h24
  have e1 : hI (sI (sI (sI (sI X 3 n (Int32.ofNat r)) 4 n S) 5 n L) 6 n Y) 2 0 = Int32.ofNat n := by
    rw [sI_ne (by decide), sI_ne (by decide), sI_ne (by decide), sI_ne (by decide)]
    exact e0
  simp only [q.t2, q.r2_1, q.r2_2, q.r2_3, q.r2_4, e0, put_eq q.t3 q.n3 h24 (by decide), put_eq q1.t4 q1.n4 h24 (by decide), put_eq q2.t5 q2.n5 h24 (by decide), put_eq q3.t6 q3.n6 h24 (by decide), e1, hty_sI, hln_sI, hR_sI, cnd1, cnd2, b2i_0, b2i_1, b2i_z, if_true, if_false, true_and, and_true, true_implies, false_implies, ne_eq, not_false_eq_true, not_true_eq_false, eq_self, exIA, exIS, exAI, exAS, exSI, exSA, true_or, or_true, false_or, or_false, Nat.reduceEqDiff, Bool.true_and, Bool.and_true, Bool.false_and, Bool.and_false, Bool.true_eq_false, Bool.false_eq_true, i10, i20, i30, vp0, nc0]
  exact s_unmixEverywhere (w1.p0 (v := Int32.ofNat n + 1)) hr k
theorem s_adds {S L Y : Int32} {K : XH → Prop} (w : Wd X m c o) (i : Inv (zG c) n) (h24 : n < 24) (hr : r < 4) (k : ∀ X1, Wd X1 m (addG (zG c) n r S L Y, c.2) o → K X1) : w_X5_adds 123 (Int32.ofNat r) S L Y X K := by
  have q := w.1
  have h := w.rr
  have hn := i.cn
  unfold w_X5_adds
  have i366' : vp_in (366 : Int32) 371 = True := vp3 (i := 366) (by decide)
  have n366 : (366 : Int32).toNatClampNeg = 366 := rfl
  have e0 : hI X 124 366 = Int32.ofNat n := (h 366 (by decide)).trans hn.1
  simp only [q.t123, q.r123_0, q.t124, q.n124, i366', n366, e0, hty_sI, hln_sI, hR_sI, cnd1, cnd2, b2i_0, b2i_1, b2i_z, if_true, if_false, true_and, and_true, true_implies, false_implies, ne_eq, not_false_eq_true, not_true_eq_false, eq_self, exIA, exIS, exAI, exAS, exSI, exSA, true_or, or_true, false_or, or_false, Nat.reduceEqDiff, Bool.true_and, Bool.and_true, Bool.false_and, Bool.and_false, Bool.true_eq_false, Bool.false_eq_true, i10, i20, i30, vp0, nc0]
  intro P hP
  have h13 : ∀ {i : Nat}, i < 13 → ((13 : Int32) ≤ Int32.ofNat i) = False := fun hi => ltl hi (by decide)
  have h13t : ((13 : Int32) ≤ Int32.ofNat 13) = True := ltt (by decide)
  have := dwn (n := 13) (p := fun j => ∀ X1, Wd X1 m c o → P 123 (Int32.ofNat r) S L Y (Int32.ofNat n) (Int32.ofNat j) X1) (fun X1 w1 => hP _ _ _ _ _ _ _ _ ?_) (fun j hj ih X1 w1 => hP _ _ _ _ _ _ _ _ ?_)
  · exact this X w
  · clear hP
    have q1 := w1.1
    have w2 := (((w1.mp (k := 13 * n) (v := Int32.ofNat r) (by omega)).mp (k := 13 * n + 1) (v := S) (by omega)).mp (k := 13 * n + 2) (v := L) (by omega)).mp (k := 13 * n + 3) (v := Y) (by omega)
    have e1 : hI (sI (sI (sI (sI X1 124 (13 * n) (Int32.ofNat r)) 124 (13 * n + 1) S) 124 (13 * n + 2) L) 124 (13 * n + 3) Y) 124 366 = Int32.ofNat n := by
      rw [sI_nk (by omega), sI_nk (by omega), sI_nk (by omega), sI_nk (by omega)]
      exact (w1.rr 366 (by decide)).trans hn.1
    simp only [h13t, q1.t123, q1.r123_0, q1.t124, q1.n124, w_X5_at, ix0_eq, ix1_eq, ix2_eq, ix3_eq, vp3 (show 13 * n < 371 by omega), vp3 (show 13 * n + 1 < 371 by omega), vp3 (show 13 * n + 2 < 371 by omega), vp3 (show 13 * n + 3 < 371 by omega), nc (show 13 * n < 4096 by omega), nc (show 13 * n + 1 < 4096 by omega), nc (show 13 * n + 2 < 4096 by omega), nc (show 13 * n + 3 < 4096 by omega), i366', n366, e1, hty_sI, hln_sI, hR_sI, cnd1, cnd2, b2i_0, b2i_1, b2i_z, if_true, if_false, true_and, and_true, true_implies, false_implies, ne_eq, not_false_eq_true, not_true_eq_false, eq_self, exIA, exIS, exAI, exAS, exSI, exSA, true_or, or_true, false_or, or_false, Nat.reduceEqDiff, Bool.true_and, Bool.and_true, Bool.false_and, Bool.and_false, Bool.true_eq_false, Bool.false_eq_true, i10, i20, i30, vp0, nc0]
    exact s_unmixes (w2.mp (k := 366) (v := Int32.ofNat n + 1) (by decide)) hr k
  · clear hP
    have q1 := w1.1
    have h24' : 13 * n + j < 371 := by omega
    simp only [h13 hj, q1.t123, q1.r123_0, q1.t124, q1.n124, w_X5_at, ix_eq, vp3 h24', nc (show 13 * n + j < 4096 by omega), of_s, hty_sI, hln_sI, hR_sI, cnd1, cnd2, b2i_0, b2i_1, b2i_z, if_true, if_false, true_and, and_true, true_implies, false_implies, ne_eq, not_false_eq_true, not_true_eq_false, eq_self, exIA, exIS, exAI, exAS, exSI, exSA, true_or, or_true, false_or, or_false, Nat.reduceEqDiff, Bool.true_and, Bool.and_true, Bool.false_and, Bool.and_false, Bool.true_eq_false, Bool.false_eq_true, i10, i20, i30, vp0, nc0]
    refine ih _ ?_
    have w2 := w1.mp (k := 13 * n + j) (v := 0) h24'
    rw [upr_id (i.2.2.1 (13 * n + j) (by omega) (by omega))] at w2
    exact w2
theorem Inv.add {g : Row} {s l y : Nat} (i : Inv g n) (h24 : n < 24) (hr : r < 4) (hs : s < 5) (h1 : 4 ≤ l) (h2 : l ≤ 60) (h3 : y ≤ 20) (h4 : y ≤ l) : Inv (addG g n r (Int32.ofNat s) (Int32.ofNat l) (Int32.ofNat y)) (n + 1) := by
  unfold addG
  refine Inv.unmA ?_ hr
  have hg : ∀ k, k ≠ 13 * n → k ≠ 13 * n + 1 → k ≠ 13 * n + 2 → k ≠ 13 * n + 3 → k ≠ 366 → upr (upr (upr (upr (upr g (13 * n) (Int32.ofNat r)) (13 * n + 1) (Int32.ofNat s)) (13 * n + 2) (Int32.ofNat l)) (13 * n + 3) (Int32.ofNat y)) 366 (Int32.ofNat n + 1) k = g k := by
    intro k e1 e2 e3 e4 e5
    rw [upr_ne e5, upr_ne e4, upr_ne e3, upr_ne e2, upr_ne e1]
  obtain ⟨hn, g1, g2, g3, g4, g5⟩ := i
  refine ⟨⟨upr_eq.trans (of_s n), by omega⟩, fun c' hc' => ?_, fun k hk hk' => (hg k (by omega) (by omega) (by omega) (by omega) (by omega)).trans (g2 k hk (by omega)), fun s' hs' t' ht' => ?_, fun r' hr' t' ht' => ?_, ?_⟩
  · by_cases e : c' = n
    · subst e
      refine ⟨⟨r, hr, ?_⟩, ⟨s, hs, ?_⟩, ⟨l, y, h1, h2, h3, h4, ?_, ?_⟩, fun t' ht' => ⟨⟨0, 0, by decide, ?_, ?_⟩, ⟨0, by decide, ?_⟩⟩⟩
      · exact (upr_ne (by omega)).trans ((upr_ne (by omega)).trans ((upr_ne (by omega)).trans ((upr_ne (by omega)).trans upr_eq)))
      · exact (upr_ne (by omega)).trans ((upr_ne (by omega)).trans ((upr_ne (by omega)).trans upr_eq))
      · exact (upr_ne (by omega)).trans ((upr_ne (by omega)).trans upr_eq)
      · exact (upr_ne (by omega)).trans upr_eq
      · exact (hg _ (by omega) (by omega) (by omega) (by omega) (by omega)).trans (g2 _ (by omega) (by omega))
      · exact (hg _ (by omega) (by omega) (by omega) (by omega) (by omega)).trans (g2 _ (by omega) (by omega))
      · exact (hg _ (by omega) (by omega) (by omega) (by omega) (by omega)).trans (g2 _ (by omega) (by omega))
    · exact Inc.cong (fun j hj => hg _ (by omega) (by omega) (by omega) (by omega) (by omega)) (g1 c' (by omega))
  · obtain ⟨a, u, f1, f2, f3, e1, e2⟩ := g3 s' hs' t' ht'
    exact ⟨a, u, f1, f2, f3, (hg _ (by omega) (by omega) (by omega) (by omega) (by omega)).trans e1, (hg _ (by omega) (by omega) (by omega) (by omega) (by omega)).trans e2⟩
  · obtain ⟨e1, z, hz, e2⟩ := g4 r' hr' t' ht'
    refine ⟨?_, z, hz, (hg _ (by omega) (by omega) (by omega) (by omega) (by omega)).trans e2⟩
    unfold gM at e1 ⊢
    rw [hg _ (by omega) (by omega) (by omega) (by omega) (by omega)]
    exact e1
  · obtain ⟨z, hz, e1⟩ := g5
    exact ⟨z, hz, (hg _ (by omega) (by omega) (by omega) (by omega) (by omega)).trans e1⟩
end PM
section PM2
/-- the first i elements are copied, from sa on in a, to off on in b -/
def Cp (X X1 : XH) (a sa b off i : Nat) : Prop := Ag (fun x => decide (x = b)) X X1 ∧ (∀ k, k < i → hI X1 b (off + k) = hI X a (sa + k)) ∧ ∀ j, j < off ∨ off + i ≤ j → hI X1 b j = hI X b j
theorem Cp.z {X : XH} {a sa b off : Nat} : Cp X X a sa b off 0 := ⟨Ag.rf, fun k hk => by omega, fun _ _ => rfl⟩
theorem Cp.src {X X1 : XH} {a sa b off i : Nat} (c : Cp X X1 a sa b off i) (ne : a ≠ b) : hI X1 a = hI X a := c.1.2.2.2.2.2.2 a (by simp [ne])
theorem Cp.s {X X1 : XH} {a sa b off i : Nat} (c : Cp X X1 a sa b off i) : Cp X (sI X1 b (off + i) (hI X a (sa + i))) a sa b off (i + 1) := by
  obtain ⟨h1, h2, h3⟩ := c
  refine ⟨h1.sI (by simp), fun k hk => ?_, fun j hj => ?_⟩
  · by_cases e : k = i
    · subst e
      exact sI_at
    · rw [sI_nk (by omega)]
      exact h2 k (by omega)
  · rw [sI_nk (by omega)]
    exact h3 j (by omega)
theorem ix371 (h k : Nat) : (371 : Int32) * Int32.ofNat h + Int32.ofNat k = Int32.ofNat (371 * h + k) := by
  rw [Int32.ofNat_add, Int32.ofNat_mul]
  rfl
theorem ixs371 (k : Nat) : (371 : Int32) + Int32.ofNat k = Int32.ofNat (371 + k) := by
  rw [Int32.ofNat_add]
  rfl
theorem le371 {i : Nat} (hi : i < 371) : ((371 : Int32) ≤ Int32.ofNat i) = False := ltl hi (by decide)
theorem le371t : ((371 : Int32) ≤ Int32.ofNat 371) = True := ltt (by decide)
theorem s_saves52 {X : XH} {h : Nat} {K : XH → Prop} (q : Shp X) (hh : hI X 123 2 = Int32.ofNat h) (h6 : h < 6) (k : ∀ X1, Cp X X1 124 0 125 (371 * h) 371 → K (sI X1 123 2 (Int32.ofNat (h + 1)))) : w_X5_saves_52 123 0 X K := by
  intro P hP
  have := dwn (n := 371) (p := fun i => ∀ X1, Cp X X1 124 0 125 (371 * h) i → P 123 (Int32.ofNat i) X1) (fun X1 c => hP _ _ _ ?_) (fun i hi ih X1 c => hP _ _ _ ?_)
  · exact this X Cp.z
  · clear hP
    have q1 := c.1.shp q
    have e : hI X1 123 2 = Int32.ofNat h := by rw [c.1.2.2.2.2.2.2 123 (by decide)]; exact hh
    refine ⟨fun _ => ⟨q1.t123, ?_⟩, fun hne => absurd le371t (by simpa using hne)⟩
    rw [e, of_s]
    exact k X1 c
  · clear hP
    have q1 := c.1.shp q
    have e : hI X1 123 2 = Int32.ofNat h := by rw [c.1.2.2.2.2.2.2 123 (by decide)]; exact hh
    have es := c.src (by decide)
    have ek := Cp.s c
    rw [Nat.zero_add] at ek
    refine ⟨fun he => absurd he (by rw [le371 hi]; exact not_false), fun _ => ?_⟩
    simp only [q1.t123, q1.r123_0, q1.r123_1, q1.t124, q1.n124, q1.t125, q1.n125, e, ix371, vp3 hi, vp_of (show 371 * h + i < 2226 by omega) (show 2226 < 4096 by decide), nc (show 371 * h + i < 4096 by omega), nc (show i < 4096 by omega), es, of_s, hty_sI, hln_sI, hR_sI, cnd1, cnd2, b2i_0, b2i_1, b2i_z, if_true, if_false, true_and, and_true, true_implies, false_implies, ne_eq, not_false_eq_true, not_true_eq_false, eq_self, exIA, exIS, exAI, exAS, exSI, exSA, true_or, or_true, false_or, or_false, Nat.reduceEqDiff, Bool.true_and, Bool.and_true, Bool.false_and, Bool.and_false, Bool.true_eq_false, Bool.false_eq_true, i10, i20, i30, vp0, nc0]
    exact ih _ ek
theorem s_saves11 {X : XH} {K : XH → Prop} (q : Shp X) (hh : hI X 123 2 = Int32.ofNat 6) (k : ∀ X1, Ag (fun x => decide (x = 125)) X X1 → (∀ j, j < 1855 → hI X1 125 j = hI X 125 (371 + j)) → w_X5_saves_52 123 0 (sI X1 123 2 (Int32.ofNat 5)) K) : w_X5_saves_11 123 0 X K := by
  intro P hP
  have l1 : ∀ {i : Nat}, i < 1855 → ((1855 : Int32) ≤ Int32.ofNat i) = False := fun hi => ltl hi (by decide)
  have l1t : ((1855 : Int32) ≤ Int32.ofNat 1855) = True := ltt (by decide)
  have := dwn (n := 1855) (p := fun i => ∀ X1, Ag (fun x => decide (x = 125)) X X1 → (∀ j, j < i → hI X1 125 j = hI X 125 (371 + j)) → (∀ j, i ≤ j → hI X1 125 j = hI X 125 j) → P 123 (Int32.ofNat i) X1) (fun X1 a c1 c2 => hP _ _ _ ?_) (fun i hi ih X1 a c1 c2 => hP _ _ _ ?_)
  · exact this X Ag.rf (fun j hj => by omega) (fun _ _ => rfl)
  · clear hP
    have q1 := a.shp q
    have e : hI X1 123 2 = Int32.ofNat 6 := by rw [a.2.2.2.2.2.2 123 (by decide)]; exact hh
    refine ⟨fun _ => ⟨q1.t123, ?_⟩, fun hne => absurd l1t (by simpa using hne)⟩
    rw [e, show Int32.ofNat 6 - 1 = Int32.ofNat 5 from rfl]
    exact k X1 a c1
  · clear hP
    have q1 := a.shp q
    refine ⟨fun he => absurd he (by rw [l1 hi]; exact not_false), fun _ => ?_⟩
    simp only [q1.t123, q1.r123_1, q1.t125, q1.n125, ixs371, vp_of (show 371 + i < 2226 by omega) (show 2226 < 4096 by decide), vp_of (show i < 2226 by omega) (show 2226 < 4096 by decide), nc (show 371 + i < 4096 by omega), nc (show i < 4096 by omega), of_s, c2 (371 + i) (by omega), hty_sI, hln_sI, hR_sI, cnd1, cnd2, b2i_0, b2i_1, b2i_z, if_true, if_false, true_and, and_true, true_implies, false_implies, ne_eq, not_false_eq_true, not_true_eq_false, eq_self, exIA, exIS, exAI, exAS, exSI, exSA, true_or, or_true, false_or, or_false, Nat.reduceEqDiff, Bool.true_and, Bool.and_true, Bool.false_and, Bool.and_false, Bool.true_eq_false, Bool.false_eq_true, i10, i20, i30, vp0, nc0]
    refine ih _ (a.sI (by simp)) (fun j hj => ?_) (fun j hj => ?_)
    · by_cases e : j = i
      · subst e
        exact sI_at
      · rw [sI_nk e]
        exact c1 j (by omega)
    · rw [sI_nk (by omega)]
      exact c2 j (by omega)
variable {X : XH} {d σ : St} {o : Ou}
theorem s_saves {K : XH → Prop} (w : Wd X d σ o) (k : ∀ X1, Wd X1 d (pushS σ) o → K X1) : w_X5_saves 123 X K := by
  have q := w.1
  have ho := w.2.2.2.2.2
  obtain ⟨h1, ⟨h2, h3⟩, h4, h5, h6, h7, h8⟩ := w.2.2.1
  have e6 : (Int32.ofNat (zH σ) = 6) = (zH σ = 6) := of_inj (j := 6) (by omega) (by decide)
  unfold w_X5_saves
  simp only [q.t123, h2, e6, hty_sI, hln_sI, hR_sI, cnd1, cnd2, b2i_0, b2i_1, b2i_z, if_true, if_false, true_and, and_true, true_implies, false_implies, ne_eq, not_false_eq_true, not_true_eq_false, eq_self, exIA, exIS, exAI, exAS, exSI, exSA, true_or, or_true, false_or, or_false, Nat.reduceEqDiff, Bool.true_and, Bool.and_true, Bool.false_and, Bool.and_false, Bool.true_eq_false, Bool.false_eq_true, i10, i20, i30, vp0, nc0]
  have fin : ∀ (X1 : XH) (X2 : XH) (h : Nat), h < 6 → Ag (fun x => decide (x = 125) || decide (x = 123)) X X1 → hI X1 123 6 = hI X 123 6 → hI X1 123 7 = hI X 123 7 → Cp X1 X2 124 0 125 (371 * h) 371 → (pushS σ).2.1 = h + 1 → (∀ j, j < h → ∀ k, k < 371 → hI X1 125 (371 * j + k) = (pushS σ).2.2.1 j k) → (∀ k, (pushS σ).2.2.1 h k = zG σ k) → Wd (sI X2 123 2 (Int32.ofNat (h + 1))) d (pushS σ) o := by
    intro X1 X2 h hh a e6' e7 c eH eP eN
    have a2 : Ag (fun x => decide (x = 125) || decide (x = 123)) X X2 := by
      obtain ⟨b1, b2, b3, b4, b5, b6, b7⟩ := c.1
      exact a.tr ⟨b1, b2, b3, b4, b5, b6, fun x hx => b7 x (by simp at hx ⊢; exact hx.1)⟩
    have a3 : Ag (fun x => decide (x = 125) || decide (x = 123)) X (sI X2 123 2 (Int32.ofNat (h + 1))) := a2.sI (by decide)
    have e123 : ∀ j, hI X2 123 j = hI X1 123 j := fun j => by rw [c.1.2.2.2.2.2.2 123 (by decide)]
    have f : Fr (dRg 123 128) X (sI X2 123 2 (Int32.ofNat (h + 1))) := (a3.fr q).wk (fun x hx => by
      have := dRg_f hx
      have h1 : ¬ x = 125 := by omega
      have h2 : ¬ x = 123 := by omega
      simp [h1, h2])
    have hX : ∀ b, b ≠ 125 → b ≠ 123 → hI (sI X2 123 2 (Int32.ofNat (h + 1))) b = hI X b := fun b n1 n2 => a3.2.2.2.2.2.2 b (by simp [n1, n2])
    have ks : MS (sI X2 123 2 (Int32.ofNat (h + 1))) (pushS σ) := by
      refine ⟨fun k hk => ?_, ⟨?_, ?_⟩, fun j hj k hk => ?_, fun k hk => ?_, ?_, h7, fun k hk => ?_⟩
      · rw [hX 124 (by decide) (by decide)]
        exact h1 k hk
      · rw [sI_at]
        exact congrArg _ eH.symm
      · show (pushS σ).2.1 ≤ 6
        omega
      · have hj' : j < (pushS σ).2.1 := hj
        rw [sI_ne (by decide)]
        show hI X2 125 (371 * j + k) = (pushS σ).2.2.1 j k
        by_cases e : j = h
        · subst e
          rw [c.2.1 k hk, Nat.zero_add, a.2.2.2.2.2.2 124 (by decide), eN]
          exact h1 k hk
        · rw [c.2.2 _ (by omega)]
          exact eP j (by omega) k hk
      · rw [hX 127 (by decide) (by decide), hX 126 (by decide) (by decide)]
        exact h5 k hk
      · rw [sI_nk (by decide), e123, e6']
        exact h6
      · rw [hX 128 (by decide) (by decide)]
        exact h8 k hk
    have w1 := w.mod f ks
    have e7' : hI (sI X2 123 2 (Int32.ofNat (h + 1))) 123 7 = o.2.2 := by
      rw [sI_nk (by decide), e123, e7]
      exact ho
    rw [e7'] at w1
    exact w1
  by_cases h : zH σ = 6
  · rw [if_pos h]
    rw [h] at h2
    refine s_saves11 q h2 (fun X1 a c1 => s_saves52 (h := 5) (show Shp (sI X1 123 2 (Int32.ofNat 5)) from a.shp q) sI_at (by decide) (fun X2 c => k _ (fin (sI X1 123 2 (Int32.ofNat 5)) X2 5 (by decide) ?_ ?_ ?_ c ?_ ?_ ?_)))
    · obtain ⟨b1, b2, b3, b4, b5, b6, b7⟩ := a
      exact Ag.sI ⟨b1, b2, b3, b4, b5, b6, fun x hx => b7 x (by simp at hx ⊢; exact hx.1)⟩ (by decide)
    · rw [sI_nk (by decide), a.2.2.2.2.2.2 123 (by decide)]
    · rw [sI_nk (by decide), a.2.2.2.2.2.2 123 (by decide)]
    · show (if σ.2.1 < 6 then σ.2.1 + 1 else 6) = 6
      have : σ.2.1 = 6 := h
      rw [if_neg (by omega)]
    · intro j hj kk hk
      rw [sI_ne (by decide), c1 _ (by omega)]
      have : σ.2.1 = 6 := h
      show _ = (if σ.2.1 < 6 then (fun j => if j = σ.2.1 then σ.1 else σ.2.2.1 j) else (fun j => if j = 5 then σ.1 else σ.2.2.1 (j + 1))) j kk
      rw [if_neg (by omega)]
      have e5 : ¬ j = 5 := by omega
      simp only [e5, if_false]
      rw [show 371 + (371 * j + kk) = 371 * (j + 1) + kk by omega]
      exact h4 (j + 1) (by rw [h]; omega) kk hk
    · intro kk
      have : σ.2.1 = 6 := h
      show (if σ.2.1 < 6 then (fun j => if j = σ.2.1 then σ.1 else σ.2.2.1 j) else (fun j => if j = 5 then σ.1 else σ.2.2.1 (j + 1))) 5 kk = _
      rw [if_neg (by omega)]
      rfl
  · rw [if_neg h]
    have h6' : zH σ < 6 := by omega
    have h6s : σ.2.1 < 6 := h6'
    refine s_saves52 q h2 h6' (fun X2 c => k _ (fin X X2 (zH σ) h6' Ag.rf rfl rfl c ?_ ?_ ?_))
    · show (if σ.2.1 < 6 then σ.2.1 + 1 else 6) = σ.2.1 + 1
      rw [if_pos h6s]
    · intro j hj kk hk
      have hj' : j < σ.2.1 := hj
      show _ = (if σ.2.1 < 6 then (fun j => if j = σ.2.1 then σ.1 else σ.2.2.1 j) else (fun j => if j = 5 then σ.1 else σ.2.2.1 (j + 1))) j kk
      rw [if_pos h6s]
      have e5 : ¬ j = σ.2.1 := by omega
      simp only [e5, if_false]
      exact h4 j hj kk hk
    · intro kk
      show (if σ.2.1 < 6 then (fun j => if j = σ.2.1 then σ.1 else σ.2.2.1 j) else (fun j => if j = 5 then σ.1 else σ.2.2.1 (j + 1))) (σ.2.1) kk = _
      rw [if_pos h6s]
      simp only [if_true]
      rfl
theorem s_sets {i : Nat} {v : Int32} {K : Int32 → XH → Prop} (w : Wd X d σ o) (hi : i < 371) (k : ∀ X1, Wd X1 d (upr (zG σ) i v, (pushS σ).2) o → K (zG σ i) X1) : w_X5_sets 123 (Int32.ofNat i) v X K := by
  unfold w_X5_sets
  refine ⟨w.1.t123, s_saves w (fun X1 w1 => ?_)⟩
  have q1 := w1.1
  simp only [q1.t123, q1.r123_0, q1.t124, q1.n124, vp3 hi, nc (show i < 4096 by omega), w1.rr i hi, hty_sI, hln_sI, hR_sI, cnd1, cnd2, b2i_0, b2i_1, b2i_z, if_true, if_false, true_and, and_true, true_implies, false_implies, ne_eq, not_false_eq_true, not_true_eq_false, eq_self, exIA, exIS, exAI, exAS, exSI, exSA, true_or, or_true, false_or, or_false, Nat.reduceEqDiff, Bool.true_and, Bool.and_true, Bool.false_and, Bool.and_false, Bool.true_eq_false, Bool.false_eq_true, i10, i20, i30, vp0, nc0]
  exact k _ (w1.mp hi)
end PM2
