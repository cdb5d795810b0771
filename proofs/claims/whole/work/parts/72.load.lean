/-! loading: the text becomes clauses, for both -/
section PX
/-- the buffer's scratch rows; the reference's spot and its flag -/
def Gc (X X1 : XH) : Prop := ∀ a, 116 ≤ a → a ≤ 119 → hI X1 a = hI X a
def Gm (X X1 : XH) : Prop := hI X1 123 8 = hI X 123 8 ∧ hI X1 123 9 = hI X 123 9
theorem Gc.rf {X : XH} : Gc X X := fun _ _ _ => rfl
theorem Gm.rf {X : XH} : Gm X X := ⟨rfl, rfl⟩
theorem Gc.tr {X X1 X2 : XH} (g : Gc X X1) (g' : Gc X1 X2) : Gc X X2 := fun a h1 h2 => (g' a h1 h2).trans (g a h1 h2)
theorem Gm.tr {X X1 X2 : XH} (g : Gm X X1) (g' : Gm X1 X2) : Gm X X2 := ⟨g'.1.trans g.1, g'.2.trans g.2⟩
theorem Gc.sI {X X1 : XH} {a k : Nat} {v : Int32} (g : Gc X X1) (h : a < 116) : Gc X (sI X1 a k v) := fun b h1 h2 => by
  rw [sI_ne (by omega)]
  exact g b h1 h2
theorem Gm.sI {X X1 : XH} {a k : Nat} {v : Int32} (g : Gm X X1) (h : 123 ≠ a) : Gm X (sI X1 a k v) := ⟨by rw [sI_ne h]; exact g.1, by rw [sI_ne h]; exact g.2⟩
theorem Gc.fr {X X1 : XH} (f : Fr (dRg 14 87) X X1) : Gc X X1 := fun a h1 h2 => (f.2.2.2 a (dRg_o (by omega))).1
theorem gm_svB {X X2 : XH} {h : Nat} {v : Int32} (c : Cp X X2 124 0 125 h 371) : Gm X (sI X2 123 2 v) := ⟨by rw [sI_nk (by decide), c.1.2.2.2.2.2.2 123 (by decide)], by rw [sI_nk (by decide), c.1.2.2.2.2.2.2 123 (by decide)]⟩
theorem gm_svA {X X1 X2 : XH} {h : Nat} {v w : Int32} (a : Ag (fun x => decide (x = 125)) X X1) (c : Cp (sI X1 123 2 w) X2 124 0 125 h 371) : Gm X (sI X2 123 2 v) := ⟨by rw [sI_nk (by decide), c.1.2.2.2.2.2.2 123 (by decide), sI_nk (by decide), a.2.2.2.2.2.2 123 (by decide)], by rw [sI_nk (by decide), c.1.2.2.2.2.2.2 123 (by decide), sI_nk (by decide), a.2.2.2.2.2.2 123 (by decide)]⟩
section
variable {X : XH} {c m : St} {o : Ou} {n r : Nat}
theorem s_pushF {K : XH → Prop} (w : Wd X c m o) (k : ∀ X1, Wd X1 (pushS c) m o → Gc X X1 → K X1) : w_X1_push 14 2 X K := by
  have q := w.1
  have hg : TR X 2 (zG c) := w.2.1.1
  have hh : HS X (zH c) (zP c) := w.2.1.2.1
  have h1 := hh.1
  have h2 : zH c ≤ 6 := hh.2.1
  unfold w_X1_push
  have e6 : (100 ≤ 107) = True := by decide
  have en : (15 ≠ 0) = True := by decide
  rw [q.r14_0, q.t14, q.t15, q.n15, h1, of_lt (by omega) (by decide), e6, en]
  refine ⟨rfl, trivial, trivial, fun h => ?_, fun h => ?_⟩
  · refine s_push16 q hg hh h (fun X1 f t => k X1 ?_ (Gc.fr f))
    have w1 := w.his f t
    unfold pushS
    have h' : c.2.1 < 6 := h
    rw [if_pos h', if_pos h']
    exact w1
  · have h6 : zH c = 6 := by omega
    rw [h6] at hh
    refine s_dropOldest q hh (fun X1 f t => s_push16 f.1 (hg.fr f fun j hj => dRg_o (by omega)) t (by decide) (fun X2 f2 t2 => k X2 ?_ (Gc.fr (f.tr f2))))
    have w1 := w.his (f.tr f2) t2
    unfold pushS
    have h' : ¬ c.2.1 < 6 := h
    rw [if_neg h', if_neg h']
    exact w1
theorem s_unmixF {K : XH → Prop} (w : Wd X c m o) (hr : r < 4) (k : ∀ X1, Wd X1 (unmA (zG c) r, c.2) m o → Gc X X1 → K X1) : w_X3_unmixEverywhere 2 (Int32.ofNat r) X K := by
  intro P hP
  have st : ∀ (t : Nat) (c' : St) (X1 : XH), t < 3 → Wd X1 c' m o → Gc X X1 → (∀ X2, Wd X2 (unm (zG c') r t, c'.2) m o → Gc X X2 → P 2 (Int32.ofNat r) (Int32.ofNat (t + 1)) X2) → P 2 (Int32.ofNat r) (Int32.ofNat t) X1 := by
    intro t c' X1 ht w1 g1 kk
    refine hP _ _ _ _ ⟨fun he => absurd he (by rw [le3 ht]; exact not_false), fun _ => ⟨w1.1.t2, ?_⟩⟩
    rw [e_unmix w1.1 hr ht, of_s]
    exact kk _ ((w1.pM hr ht).pZ hr ht) ((g1.sI (by decide)).sI (by decide))
  refine st 0 c X (by decide) w Gc.rf (fun X1 w1 g1 => st 1 _ X1 (by decide) w1 g1 (fun X2 w2 g2 => st 2 _ X2 (by decide) w2 g2 (fun X3 w3 g3 => hP _ _ _ _ ⟨fun _ => k X3 w3 g3, fun hne => absurd le3t (by simpa using hne)⟩)))
theorem s_addF {S L Y : Int32} {K : Int32 → XH → Prop} (w : Wd X c m o) (hn : Cn (zG c) n) (h24 : n < 24) (hr : r < 4) (k : ∀ X1, Wd X1 (addG (zG c) n r S L Y, c.2) m o → Gc X X1 → K (Int32.ofNat n) X1) : w_X3_add 2 (Int32.ofNat r) S L Y X K := by
  have q := w.1
  have h : TR X 2 (zG c) := w.2.1.1
  have e0 := h.cn hn
  unfold w_X3_add
  have q1 : Shp (sI X 3 n (Int32.ofNat r)) := q
  have q2 : Shp (sI (sI X 3 n (Int32.ofNat r)) 4 n S) := q
  have q3 : Shp (sI (sI (sI X 3 n (Int32.ofNat r)) 4 n S) 5 n L) := q
  have w1 := (((w.pR (v := Int32.ofNat r) h24).pS (v := S) h24).pL (v := L) h24).pH (v := Y) h24
  have e1 : hI (sI (sI (sI (sI X 3 n (Int32.ofNat r)) 4 n S) 5 n L) 6 n Y) 2 0 = Int32.ofNat n := by
    rw [sI_ne (by decide), sI_ne (by decide), sI_ne (by decide), sI_ne (by decide)]
    exact e0
  simp only [q.t2, q.r2_1, q.r2_2, q.r2_3, q.r2_4, e0, put_eq q.t3 q.n3 h24 (by decide), put_eq q1.t4 q1.n4 h24 (by decide), put_eq q2.t5 q2.n5 h24 (by decide), put_eq q3.t6 q3.n6 h24 (by decide), e1, hty_sI, hln_sI, hR_sI, cnd1, cnd2, b2i_0, b2i_1, b2i_z, if_true, if_false, true_and, and_true, true_implies, false_implies, ne_eq, not_false_eq_true, not_true_eq_false, eq_self, exIA, exIS, exAI, exAS, exSI, exSA, true_or, or_true, false_or, or_false, Nat.reduceEqDiff, Bool.true_and, Bool.and_true, Bool.false_and, Bool.and_false, Bool.true_eq_false, Bool.false_eq_true, i10, i20, i30, vp0, nc0]
  exact s_unmixF (w1.p0 (v := Int32.ofNat n + 1)) hr (fun X5 w5 g5 => k X5 w5 (((((Gc.rf.sI (by decide)).sI (by decide)).sI (by decide)).sI (by decide)).sI (by decide) |>.tr g5))
theorem s_unmixesF {K : XH → Prop} (w : Wd X m c o) (hr : r < 4) (k : ∀ X1, Wd X1 m (unmA (zG c) r, c.2) o → Gm X X1 → K X1) : w_X5_unmixes 123 (Int32.ofNat r) X K := by
  intro P hP
  have st : ∀ (t : Nat) (c' : St) (X1 : XH), t < 3 → Wd X1 m c' o → Gm X X1 → (∀ X2, Wd X2 m (unm (zG c') r t, c'.2) o → Gm X X2 → P 123 (Int32.ofNat r) (Int32.ofNat (t + 1)) X2) → P 123 (Int32.ofNat r) (Int32.ofNat t) X1 := by
    intro t c' X1 ht w1 g1 kk
    refine hP _ _ _ _ ⟨fun he => absurd he (by rw [le3 ht]; exact not_false), fun _ => ⟨w1.1.t123, ?_⟩⟩
    rw [x_unmix w1.1 hr ht, of_s]
    exact kk _ ((w1.mp (k := 342 + (3 * r + t)) (by omega)).mp (k := 354 + (3 * r + t)) (by omega)) (g1.sI (by decide) |>.sI (by decide))
  refine st 0 c X (by decide) w Gm.rf (fun X1 w1 g1 => st 1 _ X1 (by decide) w1 g1 (fun X2 w2 g2 => st 2 _ X2 (by decide) w2 g2 (fun X3 w3 g3 => hP _ _ _ _ ⟨fun _ => k X3 w3 g3, fun hne => absurd le3t (by simpa using hne)⟩)))
theorem s_addsF {S L Y : Int32} {K : XH → Prop} (w : Wd X m c o) (i : Inv (zG c) n) (h24 : n < 24) (hr : r < 4) (k : ∀ X1, Wd X1 m (addG (zG c) n r S L Y, c.2) o → Gm X X1 → K X1) : w_X5_adds 123 (Int32.ofNat r) S L Y X K := by
  have q := w.1
  have h := w.rr
  have hn := i.cn
  unfold w_X5_adds
  have i366' : vp_in (366 : Int32) 371 = True := vp3 (i := 366) (by decide)
  have n366 : (366 : Int32).toNatClampNeg = 366 := rfl
  have e0 : hI X 124 366 = Int32.ofNat n := (h 366 (by decide)).trans hn.1
  simp only [q.t123, q.r123_0, q.t124, q.n124, i366', n366, e0, hty_sI, hln_sI, hR_sI, cnd1, cnd2, b2i_0, b2i_1, b2i_z, if_true, if_false, true_and, and_true, true_implies, false_implies, ne_eq, not_false_eq_true, not_true_eq_false, eq_self, exIA, exIS, exAI, exAS, exSI, exSA, true_or, or_true, false_or, or_false, Nat.reduceEqDiff, Bool.true_and, Bool.and_true, Bool.false_and, Bool.and_false, Bool.true_eq_false, Bool.false_eq_true, i10, i20, i30, vp0, nc0]
  intro P hP
  have h13 : ∀ {i : Nat}, i < 13 → ((13 : Int32) ≤ Int32.ofNat i) = False := fun hi => ltl hi (by decide)
  have h13t : ((13 : Int32) ≤ Int32.ofNat 13) = True := ltt (by decide)
  have := dwn (n := 13) (p := fun j => ∀ X1, Wd X1 m c o → Gm X X1 → P 123 (Int32.ofNat r) S L Y (Int32.ofNat n) (Int32.ofNat j) X1) (fun X1 w1 g1 => hP _ _ _ _ _ _ _ _ ?_) (fun j hj ih X1 w1 g1 => hP _ _ _ _ _ _ _ _ ?_)
  · exact this X w Gm.rf
  · clear hP
    have q1 := w1.1
    have w2 := (((w1.mp (k := 13 * n) (v := Int32.ofNat r) (by omega)).mp (k := 13 * n + 1) (v := S) (by omega)).mp (k := 13 * n + 2) (v := L) (by omega)).mp (k := 13 * n + 3) (v := Y) (by omega)
    have e1 : hI (sI (sI (sI (sI X1 124 (13 * n) (Int32.ofNat r)) 124 (13 * n + 1) S) 124 (13 * n + 2) L) 124 (13 * n + 3) Y) 124 366 = Int32.ofNat n := by
      rw [sI_nk (by omega), sI_nk (by omega), sI_nk (by omega), sI_nk (by omega)]
      exact (w1.rr 366 (by decide)).trans hn.1
    simp only [h13t, q1.t123, q1.r123_0, q1.t124, q1.n124, w_X5_at, ix0_eq, ix1_eq, ix2_eq, ix3_eq, vp3 (show 13 * n < 371 by omega), vp3 (show 13 * n + 1 < 371 by omega), vp3 (show 13 * n + 2 < 371 by omega), vp3 (show 13 * n + 3 < 371 by omega), nc (show 13 * n < 4096 by omega), nc (show 13 * n + 1 < 4096 by omega), nc (show 13 * n + 2 < 4096 by omega), nc (show 13 * n + 3 < 4096 by omega), i366', n366, e1, hty_sI, hln_sI, hR_sI, cnd1, cnd2, b2i_0, b2i_1, b2i_z, if_true, if_false, true_and, and_true, true_implies, false_implies, ne_eq, not_false_eq_true, not_true_eq_false, eq_self, exIA, exIS, exAI, exAS, exSI, exSA, true_or, or_true, false_or, or_false, Nat.reduceEqDiff, Bool.true_and, Bool.and_true, Bool.false_and, Bool.and_false, Bool.true_eq_false, Bool.false_eq_true, i10, i20, i30, vp0, nc0]
    exact s_unmixesF (w2.mp (k := 366) (v := Int32.ofNat n + 1) (by decide)) hr (fun X5 w5 g5 => k X5 w5 (((((g1.sI (by decide)).sI (by decide)).sI (by decide)).sI (by decide)).sI (by decide) |>.tr g5))
  · clear hP
    have q1 := w1.1
    have h24' : 13 * n + j < 371 := by omega
    simp only [h13 hj, q1.t123, q1.r123_0, q1.t124, q1.n124, w_X5_at, ix_eq, vp3 h24', nc (show 13 * n + j < 4096 by omega), of_s, hty_sI, hln_sI, hR_sI, cnd1, cnd2, b2i_0, b2i_1, b2i_z, if_true, if_false, true_and, and_true, true_implies, false_implies, ne_eq, not_false_eq_true, not_true_eq_false, eq_self, exIA, exIS, exAI, exAS, exSI, exSA, true_or, or_true, false_or, or_false, Nat.reduceEqDiff, Bool.true_and, Bool.and_true, Bool.false_and, Bool.and_false, Bool.true_eq_false, Bool.false_eq_true, i10, i20, i30, vp0, nc0]
    refine ih _ ?_ (g1.sI (by decide))
    have w2 := w1.mp (k := 13 * n + j) (v := 0) h24'
    rw [upr_id (i.2.2.1 (13 * n + j) (by omega) (by omega))] at w2
    exact w2
end
section
variable {X : XH} {d σ : St} {o : Ou}
theorem s_savesF {K : XH → Prop} (w : Wd X d σ o) (k : ∀ X1, Wd X1 d (pushS σ) o → Gm X X1 → K X1) : w_X5_saves 123 X K := by
  have q := w.1
  have ho := w.2.2.2.2.2
  obtain ⟨h1, ⟨h2, h3⟩, h4, h5, h6, h7, h8⟩ := w.2.2.1
  have e6 : (Int32.ofNat (zH σ) = 6) = (zH σ = 6) := of_inj (j := 6) (by omega) (by decide)
  unfold w_X5_saves
  simp only [q.t123, h2, e6, hty_sI, hln_sI, hR_sI, cnd1, cnd2, b2i_0, b2i_1, b2i_z, if_true, if_false, true_and, and_true, true_implies, false_implies, ne_eq, not_false_eq_true, not_true_eq_false, eq_self, exIA, exIS, exAI, exAS, exSI, exSA, true_or, or_true, false_or, or_false, Nat.reduceEqDiff, Bool.true_and, Bool.and_true, Bool.false_and, Bool.and_false, Bool.true_eq_false, Bool.false_eq_true, i10, i20, i30, vp0, nc0]
  have fin : ∀ (X1 : XH) (X2 : XH) (h : Nat), h < 6 → Ag (fun x => decide (x = 125) || decide (x = 123)) X X1 → hI X1 123 6 = hI X 123 6 → hI X1 123 7 = hI X 123 7 → Cp X1 X2 124 0 125 (371 * h) 371 → (pushS σ).2.1 = h + 1 → (∀ j, j < h → ∀ k, k < 371 → hI X1 125 (371 * j + k) = (pushS σ).2.2.1 j k) → (∀ k, (pushS σ).2.2.1 h k = zG σ k) → Wd (sI X2 123 2 (Int32.ofNat (h + 1))) d (pushS σ) o := by
    intro X1 X2 h hh a e6' e7 c eH eP eN
    have a2 : Ag (fun x => decide (x = 125) || decide (x = 123)) X X2 := by
      obtain ⟨b1, b2, b3, b4, b5, b6, b7⟩ := c.1
      exact a.tr ⟨b1, b2, b3, b4, b5, b6, fun x hx => b7 x (by simp at hx ⊢; exact hx.1)⟩
    have a3 : Ag (fun x => decide (x = 125) || decide (x = 123)) X (sI X2 123 2 (Int32.ofNat (h + 1))) := a2.sI (by decide)
    have e123 : ∀ j, hI X2 123 j = hI X1 123 j := fun j => by rw [c.1.2.2.2.2.2.2 123 (by decide)]
    have f : Fr (dRg 123 128) X (sI X2 123 2 (Int32.ofNat (h + 1))) := (a3.fr q).wk (fun x hx => by
      have := dRg_f hx
      have h1 : ¬ x = 125 := by omega
      have h2 : ¬ x = 123 := by omega
      simp [h1, h2])
    have hX : ∀ b, b ≠ 125 → b ≠ 123 → hI (sI X2 123 2 (Int32.ofNat (h + 1))) b = hI X b := fun b n1 n2 => a3.2.2.2.2.2.2 b (by simp [n1, n2])
    have ks : MS (sI X2 123 2 (Int32.ofNat (h + 1))) (pushS σ) := by
      refine ⟨fun k hk => ?_, ⟨?_, ?_⟩, fun j hj k hk => ?_, fun k hk => ?_, ?_, h7, fun k hk => ?_⟩
      · rw [hX 124 (by decide) (by decide)]
        exact h1 k hk
      · rw [sI_at]
        exact congrArg _ eH.symm
      · show (pushS σ).2.1 ≤ 6
        omega
      · have hj' : j < (pushS σ).2.1 := hj
        rw [sI_ne (by decide)]
        show hI X2 125 (371 * j + k) = (pushS σ).2.2.1 j k
        by_cases e : j = h
        · subst e
          rw [c.2.1 k hk, Nat.zero_add, a.2.2.2.2.2.2 124 (by decide), eN]
          exact h1 k hk
        · rw [c.2.2 _ (by omega)]
          exact eP j (by omega) k hk
      · rw [hX 127 (by decide) (by decide), hX 126 (by decide) (by decide)]
        exact h5 k hk
      · rw [sI_nk (by decide), e123, e6']
        exact h6
      · rw [hX 128 (by decide) (by decide)]
        exact h8 k hk
    have w1 := w.mod f ks
    have e7' : hI (sI X2 123 2 (Int32.ofNat (h + 1))) 123 7 = o.2.2 := by
      rw [sI_nk (by decide), e123, e7]
      exact ho
    rw [e7'] at w1
    exact w1
  by_cases h : zH σ = 6
  · rw [if_pos h]
    rw [h] at h2
    refine s_saves11 q h2 (fun X1 a c1 => s_saves52 (h := 5) (show Shp (sI X1 123 2 (Int32.ofNat 5)) from a.shp q) sI_at (by decide) (fun X2 c => k _ (fin (sI X1 123 2 (Int32.ofNat 5)) X2 5 (by decide) ?_ ?_ ?_ c ?_ ?_ ?_) (gm_svA a c)))
    · obtain ⟨b1, b2, b3, b4, b5, b6, b7⟩ := a
      exact Ag.sI ⟨b1, b2, b3, b4, b5, b6, fun x hx => b7 x (by simp at hx ⊢; exact hx.1)⟩ (by decide)
    · rw [sI_nk (by decide), a.2.2.2.2.2.2 123 (by decide)]
    · rw [sI_nk (by decide), a.2.2.2.2.2.2 123 (by decide)]
    · show (if σ.2.1 < 6 then σ.2.1 + 1 else 6) = 6
      have : σ.2.1 = 6 := h
      rw [if_neg (by omega)]
    · intro j hj kk hk
      rw [sI_ne (by decide), c1 _ (by omega)]
      have : σ.2.1 = 6 := h
      show _ = (if σ.2.1 < 6 then (fun j => if j = σ.2.1 then σ.1 else σ.2.2.1 j) else (fun j => if j = 5 then σ.1 else σ.2.2.1 (j + 1))) j kk
      rw [if_neg (by omega)]
      have e5 : ¬ j = 5 := by omega
      simp only [e5, if_false]
      rw [show 371 + (371 * j + kk) = 371 * (j + 1) + kk by omega]
      exact h4 (j + 1) (by rw [h]; omega) kk hk
    · intro kk
      have : σ.2.1 = 6 := h
      show (if σ.2.1 < 6 then (fun j => if j = σ.2.1 then σ.1 else σ.2.2.1 j) else (fun j => if j = 5 then σ.1 else σ.2.2.1 (j + 1))) 5 kk = _
      rw [if_neg (by omega)]
      rfl
  · rw [if_neg h]
    have h6' : zH σ < 6 := by omega
    have h6s : σ.2.1 < 6 := h6'
    refine s_saves52 q h2 h6' (fun X2 c => k _ (fin X X2 (zH σ) h6' Ag.rf rfl rfl c ?_ ?_ ?_) (gm_svB c))
    · show (if σ.2.1 < 6 then σ.2.1 + 1 else 6) = σ.2.1 + 1
      rw [if_pos h6s]
    · intro j hj kk hk
      have hj' : j < σ.2.1 := hj
      show _ = (if σ.2.1 < 6 then (fun j => if j = σ.2.1 then σ.1 else σ.2.2.1 j) else (fun j => if j = 5 then σ.1 else σ.2.2.1 (j + 1))) j kk
      rw [if_pos h6s]
      have e5 : ¬ j = σ.2.1 := by omega
      simp only [e5, if_false]
      exact h4 j hj kk hk
    · intro kk
      show (if σ.2.1 < 6 then (fun j => if j = σ.2.1 then σ.1 else σ.2.2.1 j) else (fun j => if j = 5 then σ.1 else σ.2.2.1 (j + 1))) (σ.2.1) kk = _
      rw [if_pos h6s]
      simp only [if_true]
      rfl
end
def rowsAt (X : XH) : Nat → List R4 → Prop
  | _, [] => True
  | k, x :: l => rowAt X k x ∧ rowsAt X (k + 1) l
def okL : List R4 → Prop
  | [] => True
  | x :: l => okR x ∧ okL l
def sgOk : List R4 → Bool
  | [] => true
  | x :: l => decide (x.2.2.2 ≤ x.2.2.1) && sgOk l
def addL (g : Row) (n : Nat) : List R4 → Row
  | [] => g
  | x :: l => addL (addG g n x.1 (Int32.ofNat x.2.1) (Int32.ofNat x.2.2.1) (Int32.ofNat x.2.2.2)) (n + 1) l
theorem ext_lo : ∀ (l : List R4) (rows : Nat → R4) (p k : Nat), k < p → ext rows p l k = rows k
  | [], _, _, _, _ => rfl
  | x :: l, rows, p, k, h => by
    show ext (addR rows p x) (p + 1) l k = _
    rw [ext_lo l _ _ _ (by omega)]
    unfold addR
    rw [if_neg (by omega)]
theorem rows_of {X : XH} : ∀ (l : List R4) (rows : Nat → R4) (p : Nat), (∀ k, k < p + l.length → rowAt X k (ext rows p l k)) → rowsAt X p l
  | [], _, _, _ => trivial
  | x :: l, rows, p, h => by
    refine ⟨?_, rows_of l (addR rows p x) (p + 1) (fun k hk => h k (by rw [List.length_cons]; omega))⟩
    have h1 := h p (by rw [List.length_cons]; omega)
    have e : ext rows p (x :: l) p = x := by
      show ext (addR rows p x) (p + 1) l p = _
      rw [ext_lo l _ _ _ (by omega)]
      unfold addR
      rw [if_pos rfl]
    rw [e] at h1
    exact h1
theorem rowsAt.cg {X X1 : XH} (g : Gc X X1) : ∀ (l : List R4) (k : Nat), rowsAt X k l → rowsAt X1 k l
  | [], _, _ => trivial
  | x :: l, k, h => by
    refine ⟨?_, rowsAt.cg g l (k + 1) h.2⟩
    have e := h.1
    unfold rowAt at e ⊢
    rw [g 116 (by decide) (by decide), g 117 (by decide) (by decide), g 118 (by decide) (by decide), g 119 (by decide) (by decide)]
    exact e
theorem wh_ok {n : Nat} {u : Nat → Nat} : ∀ (f i : Nat) (l : List R4), i ≤ n → (whR n u f i).2 = some l → okL l ∧ l.length ≤ f ∧ 1 ≤ l.length
  | 0, i, l, _, h => nomatch h
  | f + 1, i, l, hi, h => by
    have pb := prt_b (u := u) hi
    rcases e : prtR n u i with ⟨j, _ | x⟩
    · rw [wh_n e] at h
      exact nomatch h
    · rw [e] at pb
      obtain ⟨b1, b2, b3⟩ := pb
      have b4 := b3 x rfl
      simp only at b2
      by_cases hj : j < n
      · by_cases h59 : u j = 59
        · rw [wh_c e hj h59] at h
          cases h2 : (whR n u f (j + 1)).2 with
          | none =>
            rw [h2] at h
            exact nomatch h
          | some l' =>
            rw [h2] at h
            have el : x :: l' = l := Option.some.inj h
            have := wh_ok f (j + 1) l' (by omega) h2
            rw [← el, List.length_cons]
            exact ⟨⟨b4.2, this.1⟩, by omega, by omega⟩
        · rw [wh_b e hj h59] at h
          exact nomatch h
      · rw [wh_e e hj] at h
        have el : [x] = l := Option.some.inj h
        rw [← el]
        exact ⟨⟨b4.2, trivial⟩, by show 1 ≤ f + 1; omega, Nat.le_refl 1⟩
theorem addL_inv : ∀ (l : List R4) (g : Row) (n : Nat), Inv g n → n + l.length ≤ 24 → okL l → sgOk l = true → Inv (addL g n l) (n + l.length)
  | [], _, _, i, _, _, _ => i
  | x :: l, g, n, i, hl, ho, hs => by
    rw [List.length_cons] at hl ⊢
    simp only [sgOk, Bool.and_eq_true, decide_eq_true_eq] at hs
    obtain ⟨⟨o1, o2, o3, o4, o5⟩, o6⟩ := ho
    have i1 := i.add (by omega) o1 o2 o3 o4 o5 hs.1
    have := addL_inv l _ (n + 1) i1 (by omega) o6 hs.2
    rw [show n + (l.length + 1) = n + 1 + l.length by omega]
    exact this
variable {X : XH} {c m d σ : St} {o : Ou}
-- the class
theorem c_sbl {P : Nat → Int32 → Int32 → XH → Prop} {K : Int32 → XH → Prop} {cnt : Nat} (q : Shp X) (h60 : cnt ≤ 60) (st : ∀ k v1 v2, k < cnt → hI X 119 k = Int32.ofNat v1 → hI X 118 k = Int32.ofNat v2 → v1 < 4096 → v2 < 4096 → (if v1 ≤ v2 then P 114 (Int32.ofNat cnt) (Int32.ofNat (k + 1)) X else K 1 X) → P 114 (Int32.ofNat cnt) (Int32.ofNat k) X) (en : K 0 X → P 114 (Int32.ofNat cnt) (Int32.ofNat cnt) X) : ∀ (l : List R4) (k : Nat), k + l.length = cnt → rowsAt X k l → okL l → K (b2i (!(sgOk l))) X → P 114 (Int32.ofNat cnt) (Int32.ofNat k) X
  | [], k, hk, _, _, kk => by
    have e : k = cnt := hk
    rw [e]
    exact en kk
  | x :: l, k, hk, hr, ho, kk => by
    rw [List.length_cons] at hk
    obtain ⟨⟨o1, o2, o3, o4, o5⟩, o6⟩ := ho
    refine st k _ _ (by omega) hr.1.2.2.2 hr.1.2.2.1 (by omega) (by omega) ?_
    by_cases h : x.2.2.2 ≤ x.2.2.1
    · rw [if_pos h]
      simp only [sgOk, decide_eq_true h, Bool.true_and] at kk
      exact c_sbl q h60 st en l (k + 1) (by omega) hr.2 o6 kk
    · rw [if_neg h]
      simp only [sgOk, decide_eq_false h, Bool.false_and] at kk
      exact kk
theorem c_ld {K : Int32 → XH → Prop} {KX : String → XH → Prop} {cnt n : Nat} (h60 : cnt ≤ 60) (l0 : List R4) (w : Wd X c m o) (i : Inv (zG c) n) (hl : l0.length = cnt) (h24 : n + cnt ≤ 24) (hr : rowsAt X 0 l0) (ho : okL l0) (hs : sgOk l0 = true) (k : ∀ X1, Wd X1 (clrS (addL (zG c) n l0, c.2)) m o → K (Int32.ofNat (n + cnt)) X1) : w_X4_load_78 1 (Int32.ofNat cnt) 0 X K KX := by
  intro P hP
  have main : ∀ (l : List R4) (j : Nat) (g : Row) (X1 : XH), j + l.length = cnt → Wd X1 (g, c.2) m o → Inv g (n + j) → rowsAt X1 j l → okL l → sgOk l = true → (∀ X2, Wd X2 (clrS (addL g (n + j) l, c.2)) m o → K (Int32.ofNat (n + cnt)) X2) → P 1 (Int32.ofNat cnt) (Int32.ofNat j) X1 := by
    intro l
    induction l with
    | nil =>
      intro j g X1 hj w1 i1 _ _ _ kk
      have ej : j = cnt := hj
      subst ej
      refine hP _ _ _ _ ?_
      have q1 := w1.1
      have e0 : hI (sI X1 114 1 0) 2 0 = Int32.ofNat (n + j) := by
        rw [sI_ne (by decide)]
        exact w1.2.1.1.cn i1.cn
      simp only [q1.t1, q1.r1_0, q1.r1_4, q1.t114, q1.t2, ltt (show j < 4096 by omega), e0, hty_sI, hln_sI, hR_sI, cnd1, cnd2, b2i_0, b2i_1, b2i_z, if_true, if_false, true_and, and_true, true_implies, false_implies, ne_eq, not_false_eq_true, not_true_eq_false, eq_self, exIA, exIS, exAI, exAS, exSI, exSA, true_or, or_true, false_or, or_false, Nat.reduceEqDiff, Bool.true_and, Bool.and_true, Bool.false_and, Bool.and_false, Bool.true_eq_false, Bool.false_eq_true, i10, i20, i30, vp0, nc0]
      exact kk _ w1.clrC
    | cons x l ih =>
      intro j g X1 hj w1 i1 hr ho hs kk
      rw [List.length_cons] at hj
      have q1 := w1.1
      have hn2 := i1.cn.2
      simp only [sgOk, Bool.and_eq_true, decide_eq_true_eq] at hs
      obtain ⟨⟨o1, o2, o3, o4, o5⟩, o6⟩ := ho
      obtain ⟨⟨r1, r2, r3, r4⟩, r5⟩ := hr
      refine hP _ _ _ _ ?_
      simp only [q1.t1, q1.r1_0, q1.r1_4, q1.t114, q1.t2, q1.r114_2, q1.r114_3, q1.r114_4, q1.r114_5, ltl (show j < cnt by omega) (show cnt < 4096 by omega), at_eq q1.t116 q1.n116 (show j < 60 by omega) (show 60 < 4096 by decide), at_eq q1.t117 q1.n117 (show j < 60 by omega) (show 60 < 4096 by decide), at_eq q1.t118 q1.n118 (show j < 60 by omega) (show 60 < 4096 by decide), at_eq q1.t119 q1.n119 (show j < 60 by omega) (show 60 < 4096 by decide), r1, r2, r3, r4, hty_sI, hln_sI, hR_sI, cnd1, cnd2, b2i_0, b2i_1, b2i_z, if_true, if_false, true_and, and_true, true_implies, false_implies, ne_eq, not_false_eq_true, not_true_eq_false, eq_self, exIA, exIS, exAI, exAS, exSI, exSA, true_or, or_true, false_or, or_false, Nat.reduceEqDiff, Bool.true_and, Bool.and_true, Bool.false_and, Bool.and_false, Bool.true_eq_false, Bool.false_eq_true, i10, i20, i30, vp0, nc0]
      refine s_addF (n := n + j) w1 i1.cn (by omega) o1 (fun X2 w2 g2 => ?_)
      simp only [of_s]
      exact ih (j + 1) _ X2 (by omega) w2 (i1.add (by omega) o1 o2 o3 o4 o5 hs.1) (rowsAt.cg g2 l (j + 1) r5) o6 hs.2 kk
  exact main l0 0 (zG c) X (by omega) w i hr ho hs k
-- the reference
theorem m_cl16 {u : Nat → Nat} {n : Nat} {X0 : XH} {K : Int32 → XH → Prop} (tm : TxM X0 n u) (l0 : List R4) (c0 : Nat) (hc : c0 ≤ 24) (hl0 : (whR n u 61 0).2 = some l0) (m0 : MX X0 X 0 0) (k : ∀ X1 j, MX X0 X1 j 0 → K (b2i (sgOk l0 && decide (c0 + l0.length ≤ 24))) X1) : w_X5_canLoad_16 123 (Int32.ofNat c0) 1 X K := by
  intro P hP
  have hn := tm.2.2.1
  have ex : ∀ X1 j c b, MX X0 X1 j 0 → n ≤ j → j < 100 → c < 4096 → K (b2i (b && decide (c ≤ 24))) X1 → P 123 (Int32.ofNat c) (b2i b) X1 := fun X1 j c b m1 hj hj2 hc kk => hP _ _ _ _ (by
    have q1 := m1.q tm
    have e6 : hI X1 123 6 = Int32.ofNat n := (m1.1.2 6 (by decide)).trans tm.2.1
    have e24 : ((24 : Int32) < Int32.ofNat c) = (24 < c) := ltk (i := 24) (by decide) hc
    simp only [q1.t123, e6, m1.2.1, of_le (show n < 4096 by omega) (show j < 4096 by omega), hj, e24, hty_sI, hln_sI, hR_sI, cnd1, cnd2, b2i_0, b2i_1, b2i_z, if_true, if_false, true_and, and_true, true_implies, false_implies, ne_eq, not_false_eq_true, not_true_eq_false, eq_self, exIA, exIS, exAI, exAS, exSI, exSA, true_or, or_true, false_or, or_false, Nat.reduceEqDiff, Bool.true_and, Bool.and_true, Bool.false_and, Bool.and_false, Bool.true_eq_false, Bool.false_eq_true, i10, i20, i30, vp0, nc0]
    cases b
    · simp only [hty_sI, hln_sI, hR_sI, cnd1, cnd2, b2i_0, b2i_1, b2i_z, if_true, if_false, true_and, and_true, true_implies, false_implies, ne_eq, not_false_eq_true, not_true_eq_false, eq_self, exIA, exIS, exAI, exAS, exSI, exSA, true_or, or_true, false_or, or_false, Nat.reduceEqDiff, Bool.true_and, Bool.and_true, Bool.false_and, Bool.and_false, Bool.true_eq_false, Bool.false_eq_true, i10, i20, i30, vp0, nc0]
      exact kk
    · simp only [hty_sI, hln_sI, hR_sI, cnd1, cnd2, b2i_0, b2i_1, b2i_z, if_true, if_false, true_and, and_true, true_implies, false_implies, ne_eq, not_false_eq_true, not_true_eq_false, eq_self, exIA, exIS, exAI, exAS, exSI, exSA, true_or, or_true, false_or, or_false, Nat.reduceEqDiff, Bool.true_and, Bool.and_true, Bool.false_and, Bool.and_false, Bool.true_eq_false, Bool.false_eq_true, i10, i20, i30, vp0, nc0]
      by_cases h : c ≤ 24
      · rw [if_neg (by omega)]
        rw [decide_eq_true h] at kk
        exact kk
      · rw [if_pos (by omega)]
        rw [decide_eq_false h] at kk
        exact kk)
  have main : ∀ f i (X : XH) (l : List R4) c b, n < i + f → i ≤ n → c + l.length < 4096 → MX X0 X i 0 → (whR n u f i).2 = some l → (∀ X1 j, MX X0 X1 j 0 → K (b2i ((b && sgOk l) && decide (c + l.length ≤ 24))) X1) → (i < n) → P 123 (Int32.ofNat c) (b2i b) X := by
    intro f
    induction f with
    | zero =>
      intro i X l c b hf hi
      omega
    | succ f ih =>
      intro i X l c b hf hi hc m hw kk hin
      have pb := prt_b (u := u) hi
      have q := m.q tm
      have e6 : hI X 123 6 = Int32.ofNat n := (m.1.2 6 (by decide)).trans tm.2.1
      have hni : ¬ n ≤ i := by omega
      refine hP _ _ _ _ ?_
      simp only [q.t123, e6, m.2.1, of_le (show n < 4096 by omega) (show i < 4096 by omega), hni, hty_sI, hln_sI, hR_sI, cnd1, cnd2, b2i_0, b2i_1, b2i_z, if_true, if_false, true_and, and_true, true_implies, false_implies, ne_eq, not_false_eq_true, not_true_eq_false, eq_self, exIA, exIS, exAI, exAS, exSI, exSA, true_or, or_true, false_or, or_false, Nat.reduceEqDiff, Bool.true_and, Bool.and_true, Bool.false_and, Bool.and_false, Bool.true_eq_false, Bool.false_eq_true, i10, i20, i30, vp0, nc0]
      rcases ep : prtR n u i with ⟨j, o'⟩
      refine Pt tm m (by omega) (fun X1 e m1 => ?_) (fun x X1 e m1 fl => ?_)
      · rw [ep] at e
        simp only at e
        subst e
        rw [wh_n ep] at hw
        exact nomatch hw
      · rw [ep] at e m1 pb
        simp only at e m1 pb
        subst e
        obtain ⟨b1, b2, b3⟩ := pb
        obtain ⟨b4, o1, o2, o3, o4, o5⟩ := b3 x rfl
        have q1 := m1.q tm
        have m2 : MX X0 (sI X1 123 8 (Int32.ofNat (j + 1))) (j + 1) 0 := m1.sp
        have f12 : hI (sI X1 123 8 (Int32.ofNat (j + 1))) 123 12 = Int32.ofNat x.2.2.1 := (sI_nk (by decide)).trans fl.2.2.1
        have f13 : hI (sI X1 123 8 (Int32.ofNat (j + 1))) 123 13 = Int32.ofNat x.2.2.2 := (sI_nk (by decide)).trans fl.2.2.2
        have go : ∀ b', b' = (b && decide (x.2.2.2 ≤ x.2.2.1)) → P 123 (Int32.ofNat (c + 1)) (b2i b') (sI X1 123 8 (Int32.ofNat (j + 1))) := by
          intro b' hb'
          by_cases hj : j < n
          · by_cases h59 : u j = 59
            · rw [wh_c ep hj h59] at hw
              cases h2 : (whR n u f (j + 1)).2 with
              | none =>
                rw [h2] at hw
                exact nomatch hw
              | some l' =>
                rw [h2] at hw
                have el : x :: l' = l := Option.some.inj hw
                rw [← el, List.length_cons] at kk hc
                by_cases hj1 : j + 1 < n
                · refine ih (j + 1) _ l' (c + 1) b' (by omega) (by omega) (by omega) m2 h2 (fun X3 j3 m3 => ?_) hj1
                  have := kk X3 j3 m3
                  simp only [sgOk, ← Bool.and_assoc] at this
                  rw [hb', show c + 1 + l'.length = c + (l'.length + 1) by omega]
                  exact this
                · have e1 : j + 1 = n := by omega
                  exfalso
                  have : prtR n u (j + 1) = (j + 1, none) := by
                    unfold prtR
                    rw [nx_out (by omega), if_neg (by decide)]
                  cases f with
                  | zero => exact nomatch h2
                  | succ f =>
                    rw [wh_n this] at h2
                    exact nomatch h2
            · rw [wh_b ep hj h59] at hw
              exact nomatch hw
          · rw [wh_e ep hj] at hw
            have el : [x] = l := Option.some.inj hw
            rw [← el] at kk hc
            have hc1 : c + 1 < 4096 := hc
            refine ex _ (j + 1) (c + 1) b' m2 (by omega) (by omega) (by omega) ?_
            have := kk _ _ m2
            simp only [sgOk, Bool.and_true] at this
            rw [hb']
            exact this
        have e9 : (Int32.ofNat x.2.2.1 < Int32.ofNat x.2.2.2) = (x.2.2.1 < x.2.2.2) := ltk (by omega) (by omega)
        simp only [q1.t123, m1.2.1, of_s, f12, f13, e9, hty_sI, hln_sI, hR_sI, cnd1, cnd2, b2i_0, b2i_1, b2i_z, if_true, if_false, true_and, and_true, true_implies, false_implies, ne_eq, not_false_eq_true, not_true_eq_false, eq_self, exIA, exIS, exAI, exAS, exSI, exSA, true_or, or_true, false_or, or_false, Nat.reduceEqDiff, Bool.true_and, Bool.and_true, Bool.false_and, Bool.and_false, Bool.true_eq_false, Bool.false_eq_true, i10, i20, i30, vp0, nc0]
        cases b
        · simp only [hty_sI, hln_sI, hR_sI, cnd1, cnd2, b2i_0, b2i_1, b2i_z, if_true, if_false, true_and, and_true, true_implies, false_implies, ne_eq, not_false_eq_true, not_true_eq_false, eq_self, exIA, exIS, exAI, exAS, exSI, exSA, true_or, or_true, false_or, or_false, Nat.reduceEqDiff, Bool.true_and, Bool.and_true, Bool.false_and, Bool.and_false, Bool.true_eq_false, Bool.false_eq_true, i10, i20, i30, vp0, nc0]
          exact go false (by simp)
        · simp only [hty_sI, hln_sI, hR_sI, cnd1, cnd2, b2i_0, b2i_1, b2i_z, if_true, if_false, true_and, and_true, true_implies, false_implies, ne_eq, not_false_eq_true, not_true_eq_false, eq_self, exIA, exIS, exAI, exAS, exSI, exSA, true_or, or_true, false_or, or_false, Nat.reduceEqDiff, Bool.true_and, Bool.and_true, Bool.false_and, Bool.and_false, Bool.true_eq_false, Bool.false_eq_true, i10, i20, i30, vp0, nc0]
          by_cases h : x.2.2.1 < x.2.2.2
          · rw [if_pos h]
            exact go false (by rw [decide_eq_false (by omega)]; rfl)
          · rw [if_neg h]
            exact go true (by rw [decide_eq_true (by omega)]; rfl)
  have wl := wh_ok 61 0 l0 (Nat.zero_le _) hl0
  refine main 61 0 X l0 c0 true (by omega) (Nat.zero_le _) (by omega) m0 hl0 (fun X1 j m1 => ?_) ?_
  · simpa using k X1 j m1
  · refine Decidable.byContradiction fun hx => ?_
    have e0 : n = 0 := by omega
    have : prtR n u 0 = (0, none) := by
      unfold prtR
      rw [nx_out (by omega), if_neg (by decide)]
    rw [wh_n this] at hl0
    exact nomatch hl0
theorem m_l41 {K : Int32 → XH → Prop} (iS : InvS σ) (rest : Nat × (Nat → Row) × Row × (Nat → Row) × Nat × Row) (hrN : rest.2.2.2.2.1 = zN σ) (hrT : rest.2.2.2.2.2 = zT σ) (l0 : List R4) (g0 : Row) (n0 : Nat) (w : Wd X d (g0, rest) o) (e8 : hI X 123 8 = Int32.ofNat 0) (e9 : hI X 123 9 = 0) (i0 : Inv g0 n0) (hl0 : (whR (zN σ) (uT σ) 61 0).2 = some l0) (h24 : n0 + l0.length ≤ 24) (hs : sgOk l0 = true) (k : ∀ X1, Wd X1 d (clrS (addL g0 n0 l0, rest)) o → K (Int32.ofNat (n0 + l0.length)) X1) : w_X5_load_41 123 X K := by
  intro P hP
  have tmx : ∀ g (X1 : XH), Wd X1 d (g, rest) o → TxM X1 (zN σ) (uT σ) := by
    intro g X1 w1
    obtain ⟨h1, h2, h4, h5, h6, h7, h8⟩ := w1.2.2.1
    have e : zN (g, rest) = zN σ := hrN
    have eT : zT (g, rest) = zT σ := hrT
    rw [e] at h6 h7 h8
    rw [eT] at h8
    exact ⟨w1.1, h6, h7, fun k hk => ⟨(h8 k hk).trans (uT_ok iS k hk).1, (uT_ok iS k hk).2⟩⟩
  have ex : ∀ (X1 : XH) j g n, Wd X1 d (g, rest) o → Inv g n → hI X1 123 8 = Int32.ofNat j → zN σ ≤ j → j < 100 → (∀ X2, Wd X2 d (clrS (g, rest)) o → K (Int32.ofNat n) X2) → P 123 X1 := fun X1 j g n w1 i1 e8 hj hj2 kk => hP _ _ (by
    have q1 := w1.1
    have tm := tmx g X1 w1
    have hn := tm.2.2.1
    have e0 : hI (sI X1 123 6 0) 124 366 = Int32.ofNat n := by
      rw [sI_ne (by decide)]
      exact (w1.rr 366 (by decide)).trans i1.1.1
    simp only [q1.t123, q1.r123_0, q1.t124, q1.n124, tm.2.1, e8, of_le (show zN σ < 4096 by omega) (show j < 4096 by omega), hj, vp366, nc366, e0, hty_sI, hln_sI, hR_sI, cnd1, cnd2, b2i_0, b2i_1, b2i_z, if_true, if_false, true_and, and_true, true_implies, false_implies, ne_eq, not_false_eq_true, not_true_eq_false, eq_self, exIA, exIS, exAI, exAS, exSI, exSA, true_or, or_true, false_or, or_false, Nat.reduceEqDiff, Bool.true_and, Bool.and_true, Bool.false_and, Bool.and_false, Bool.true_eq_false, Bool.false_eq_true, i10, i20, i30, vp0, nc0]
    exact kk _ w1.clrM)
  have main : ∀ f i (X : XH) (l : List R4) g n, zN σ < i + f → i < zN σ → Wd X d (g, rest) o → hI X 123 8 = Int32.ofNat i → hI X 123 9 = 0 → Inv g n → n + l.length ≤ 24 → (whR (zN σ) (uT σ) f i).2 = some l → sgOk l = true → (∀ X2, Wd X2 d (clrS (addL g n l, rest)) o → K (Int32.ofNat (n + l.length)) X2) → P 123 X := by
    intro f
    induction f with
    | zero =>
      intro i X l g n hf hi
      omega
    | succ f ih =>
      intro i X l g n hf hi w1 e8 e9 i1 h24 hw hs kk
      have tm := tmx g X w1
      have hn := tm.2.2.1
      have pb := prt_b (u := uT σ) (Nat.le_of_lt hi)
      have q := w1.1
      have m : MX X X i 0 := ⟨AgM.rf, e8, e9⟩
      have hni : ¬ zN σ ≤ i := by omega
      refine hP _ _ ?_
      simp only [q.t123, tm.2.1, e8, of_le (show zN σ < 4096 by omega) (show i < 4096 by omega), hni, hty_sI, hln_sI, hR_sI, cnd1, cnd2, b2i_0, b2i_1, b2i_z, if_true, if_false, true_and, and_true, true_implies, false_implies, ne_eq, not_false_eq_true, not_true_eq_false, eq_self, exIA, exIS, exAI, exAS, exSI, exSA, true_or, or_true, false_or, or_false, Nat.reduceEqDiff, Bool.true_and, Bool.and_true, Bool.false_and, Bool.and_false, Bool.true_eq_false, Bool.false_eq_true, i10, i20, i30, vp0, nc0]
      rcases ep : prtR (zN σ) (uT σ) i with ⟨j, o'⟩
      refine Pt tm m (by omega) (fun X1 e m1 => ?_) (fun x X1 e m1 fl => ?_)
      · rw [ep] at e
        simp only at e
        subst e
        rw [wh_n ep] at hw
        exact nomatch hw
      · rw [ep] at e m1 pb
        simp only at e m1 pb
        subst e
        obtain ⟨b1, b2, b3⟩ := pb
        obtain ⟨b4, o1, o2, o3, o4, o5⟩ := b3 x rfl
        have q1 := m1.q tm
        have m2 : MX X (sI X1 123 8 (Int32.ofNat (j + 1))) (j + 1) 0 := m1.sp
        have w2 := w1.agM m2.1
        have f10 : hI (sI X1 123 8 (Int32.ofNat (j + 1))) 123 10 = Int32.ofNat x.1 := (sI_nk (by decide)).trans fl.1
        have f11 : hI (sI X1 123 8 (Int32.ofNat (j + 1))) 123 11 = Int32.ofNat x.2.1 := (sI_nk (by decide)).trans fl.2.1
        have f12 : hI (sI X1 123 8 (Int32.ofNat (j + 1))) 123 12 = Int32.ofNat x.2.2.1 := (sI_nk (by decide)).trans fl.2.2.1
        have f13 : hI (sI X1 123 8 (Int32.ofNat (j + 1))) 123 13 = Int32.ofNat x.2.2.2 := (sI_nk (by decide)).trans fl.2.2.2
        simp only [q1.t123, m1.2.1, of_s, f10, f11, f12, f13, hty_sI, hln_sI, hR_sI, cnd1, cnd2, b2i_0, b2i_1, b2i_z, if_true, if_false, true_and, and_true, true_implies, false_implies, ne_eq, not_false_eq_true, not_true_eq_false, eq_self, exIA, exIS, exAI, exAS, exSI, exSA, true_or, or_true, false_or, or_false, Nat.reduceEqDiff, Bool.true_and, Bool.and_true, Bool.false_and, Bool.and_false, Bool.true_eq_false, Bool.false_eq_true, i10, i20, i30, vp0, nc0]
        have fin : ∀ l', x :: l' = l → n < 24 ∧ sgOk l' = true ∧ x.2.2.2 ≤ x.2.2.1 ∧ n + 1 + l'.length ≤ 24 := by
          intro l' el
          rw [← el, List.length_cons] at h24
          rw [← el] at hs
          simp only [sgOk, Bool.and_eq_true, decide_eq_true_eq] at hs
          exact ⟨by omega, hs.2, hs.1, by omega⟩
        by_cases hj : j < zN σ
        · by_cases h59 : uT σ j = 59
          · rw [wh_c ep hj h59] at hw
            cases h2 : (whR (zN σ) (uT σ) f (j + 1)).2 with
            | none =>
              rw [h2] at hw
              exact nomatch hw
            | some l' =>
              rw [h2] at hw
              have el : x :: l' = l := Option.some.inj hw
              obtain ⟨g1, g2, g3, g4⟩ := fin l' el
              refine s_addsF w2 i1 g1 o1 (fun X3 w3 gm => ?_)
              by_cases hj1 : j + 1 < zN σ
              · refine ih (j + 1) X3 l' _ (n + 1) (by omega) hj1 w3 (gm.1.trans sI_at) (gm.2.trans m2.2.2) (i1.add g1 o1 o2 o3 o4 o5 g3) g4 h2 g2 (fun X4 w4 => ?_)
                rw [← el, List.length_cons] at kk
                rw [show n + 1 + l'.length = n + (l'.length + 1) by omega]
                exact kk X4 w4
              · exfalso
                have : prtR (zN σ) (uT σ) (j + 1) = (j + 1, none) := by
                  unfold prtR
                  rw [nx_out (by omega), if_neg (by decide)]
                cases f with
                | zero => exact nomatch h2
                | succ f =>
                  rw [wh_n this] at h2
                  exact nomatch h2
          · rw [wh_b ep hj h59] at hw
            exact nomatch hw
        · rw [wh_e ep hj] at hw
          have el : [x] = l := Option.some.inj hw
          obtain ⟨g1, g2, g3, g4⟩ := fin [] el
          refine s_addsF w2 i1 g1 o1 (fun X3 w3 gm => ?_)
          refine ex X3 (j + 1) _ (n + 1) w3 (i1.add g1 o1 o2 o3 o4 o5 g3) (gm.1.trans sI_at) (by omega) (by omega) (fun X4 w4 => ?_)
          rw [← el] at kk
          exact kk X4 w4
  have hpos : 0 < zN σ := by
    refine Decidable.byContradiction fun hx => ?_
    have : prtR (zN σ) (uT σ) 0 = (0, none) := by
      unfold prtR
      rw [nx_out (by omega), if_neg (by decide)]
    rw [wh_n this] at hl0
    exact nomatch hl0
  have tm := tmx g0 X w
  have := tm.2.2.1
  exact main 61 0 X l0 g0 n0 (by omega) hpos w e8 e9 i0 h24 hl0 hs k
end PX
