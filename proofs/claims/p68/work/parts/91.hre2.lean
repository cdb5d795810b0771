/-! hangs: the marks on a reel; all the reels -/
section HS
variable {P84 : PB84} {P798 : PB798} {X0 X Z : XH} {σ : St} {n B t r C S cc ss : Nat} {f : Nat → Int32} {l1 l2 l6 l7 l8 l9 l10 l11 : Int32} {K : Int32 → XH → Prop}
theorem h_824 (i : Inv (zG σ) n) (hg : Hg B (zG σ) n) (hr : r < 4) (ht : t < 3) (h1 : cc + 42 ≤ 4000) (h2 : ss + 252 ≤ 24000) (w : Wd X σ Z)
    (k : ∀ X1 c1 s1, Wd X1 σ Z → c1 ≤ cc + 42 → s1 ≤ ss + 252 → P798 1 l1 l2 1 (hz X0 + 1) (Int32.ofNat t) l6 l7 l8 l9 l10 l11 (b2i (rA (zG σ) n t (r + 1))) (Int32.ofNat (r + 1)) c1 s1 X1) :
    w_L_hangs_824 P84 P798 1 l1 l2 1 (hz X0 + 1) (Int32.ofNat t) l6 l7 l8 l9 l10 l11 (b2i (rA (zG σ) n t r)) (Int32.ofNat r) (vMx (zG σ) n r t) 0 0 cc ss X K := by
  intro P824 hP
  obtain ⟨M, Q, hM, hQ, e3, e4, e5⟩ := mx_n (g := zG σ) (n := n) (r := r) (t := t)
  have e6 : vMx (zG σ) n r t - vMx (zG σ) n r t / (10 : Int32) * (10 : Int32) = Int32.ofNat (pX (zG σ) n r t) := mx_d
  have hc := pX_c i hg hr ht
  have hx : pX (zG σ) n r t ≤ 3 := by
    rcases hc with ⟨_, h⟩ | ⟨_, h | h⟩ <;> omega
  have e5' : vMx (zG σ) n r t = Int32.ofNat (pX (zG σ) n r t + 10 * M + 100 * Q) := e5
  have e7 : vMx (zG σ) n r t / (10 : Int32) - vMx (zG σ) n r t / (10 : Int32) / (10 : Int32) * (10 : Int32) = sSigs (zG σ) r t := by
    have e8 : vMx (zG σ) n r t / (10 : Int32) = Int32.ofNat ((pX (zG σ) n r t + 10 * M + 100 * Q) / 10) := by
      rw [e5']
      exact nd (b := 10) (by omega) (by decide)
    rw [e8, e3]
    refine (nr (b := 10) (by omega) (by decide)).trans ?_
    congr 1
    omega
  have q0 : (Int32.ofNat (pX (zG σ) n r t) = (0 : Int32)) = (pX (zG σ) n r t = 0) := d3 hx (by decide)
  have q1 : (Int32.ofNat (pX (zG σ) n r t) = (1 : Int32)) = (pX (zG σ) n r t = 1) := d3 hx (by decide)
  have q3 : (Int32.ofNat (pX (zG σ) n r t) = (3 : Int32)) = (pX (zG σ) n r t = 3) := d3 hx (by decide)
  have main := dwn (n := 5) (p := fun s => ∀ X1 c1 s1, Wd X1 σ Z → c1 ≤ cc + 8 * s → s1 ≤ ss + 48 * s → P824 1 l1 l2 1 (hz X0 + 1) (Int32.ofNat t) l6 l7 l8 l9 l10 l11 (b2i (rA (zG σ) n t r)) (Int32.ofNat r) (vMx (zG σ) n r t) (sumTo (fun s => bi (pSg (zG σ) s r t) 1) s) (Int32.ofNat s) c1 s1 X1)
    (fun X1 c1 s1 w1 g1 g2 => hP _ _ _ _ _ _ _ _ _ _ _ _ _ _ _ _ _ _ _ _ ⟨fun _ => ⟨fun h => absurd h (by decide), fun _ => ⟨fun h => absurd e7 h, fun _ => ?_⟩⟩, fun h => absurd (by decide) h⟩)
    (fun s hs ih X1 c1 s1 w1 g1 g2 => hP _ _ _ _ _ _ _ _ _ _ _ _ _ _ _ _ _ _ _ _ ⟨fun h => absurd h (by
      rw [show (5 : Int32) = Int32.ofNat 5 from rfl, of_le (by decide) (by omega)]
      omega), fun _ => ⟨by omega, by omega, lg_hasSigned i hs hr ht X1 Z _ w1 (fun X2 w2 => ⟨fun h => absurd h (by decide), fun _ => ⟨by omega, by omega, lg_hasSigned i hs hr ht X2 Z _ w2 (fun X3 w3 => ?_)⟩⟩)⟩⟩)
  · exact main X cc ss w (by omega) (by omega)
  · have fin : w_L_hangs_929 P84 P798 1 l1 l2 (hz X0 + 1) (Int32.ofNat t) l6 l7 l8 l9 l10 l11 (b2i (rA (zG σ) n t r)) (Int32.ofNat r) (vMx (zG σ) n r t) (sSigs (zG σ) r t) c1 s1 X1 K := h_929 i hg hr ht (by omega) (by omega) w1 (fun X2 c2 s2 w2 g3 g4 => k X2 c2 s2 w2 (by omega) (by omega))
    rw [e6, q0, q1, q3]
    exact ⟨fun _ => fin, fun h0 => ⟨fun _ => fin, fun h4 => ⟨fun h5 => absurd (by
      rcases hc with ⟨_, h⟩ | ⟨_, h | h⟩
      · exact h
      · exact absurd h h0
      · exact absurd h h4) h5, fun _ => fin⟩⟩⟩
  · have e8 : sumTo (fun s => bi (pSg (zG σ) s r t) 1) (s + 1) = sumTo (fun s => bi (pSg (zG σ) s r t) 1) s + b2i (pSg (zG σ) s r t) := rfl
    rw [e8, ← of_s] at ih
    refine ⟨fun _ => ih X3 _ _ w3 (by omega) (by omega), fun h => ⟨by omega, by omega, lg_speaksIn i hs hr X3 Z _ w3 (fun X4 w4 => ⟨fun h5 => absurd ?_ h5, fun _ => ih X4 _ _ w4 (by omega) (by omega)⟩)⟩⟩
    rw [b2i_0, Bool.not_eq_false] at h
    rw [b2i_1, pHd_iff]
    exact (hg.2.2.1 r hr t ht).2.2 s hs h
set_option maxRecDepth 100000 in
theorem h_798 (hX : 122 ≤ hz X0) (i : Inv (zG σ) n) (hg : Hg B (zG σ) n) (ht : t < 3) (h1 : C + 200 ≤ 4000) (h2 : S + 1200 ≤ 24000) (lw : LW X0 σ X f)
    (k : ∀ X1 cc1 ss1, LW X0 σ X1 f → cc1 ≤ C + 200 → ss1 ≤ S + 1200 → w_L_hangs_992 P84 1 l1 l2 1 (hz X0 + 1) (Int32.ofNat t) l6 l7 l8 l9 l10 l11 (b2i (pRat (zG σ) n t)) cc1 ss1 X1 K) :
    w_L_hangs_798 P84 1 l1 l2 1 (hz X0 + 1) (Int32.ofNat t) l6 l7 l8 l9 l10 l11 (b2i (rA (zG σ) n t 0)) 0 C S X K := by
  intro P798 hP
  have main := dwn (n := 4) (p := fun r => ∀ X1 cc ss, LW X0 σ X1 f → cc ≤ C + 50 * r → ss ≤ S + 300 * r → P798 1 l1 l2 1 (hz X0 + 1) (Int32.ofNat t) l6 l7 l8 l9 l10 l11 (b2i (rA (zG σ) n t r)) (Int32.ofNat r) cc ss X1)
    (fun X1 cc ss lv g1 g2 => hP _ _ _ _ _ _ _ _ _ _ _ _ _ _ _ _ _ ⟨fun _ => k X1 cc ss lv (by omega) (by omega), fun h => absurd (by decide) h⟩)
    (fun r hr ih X1 cc ss lv g1 g2 => hP _ _ _ _ _ _ _ _ _ _ _ _ _ _ _ _ _ ⟨fun h => absurd h (by
      rw [show (4 : Int32) = Int32.ofNat 4 from rfl, of_le (by decide) (by omega)]
      omega), fun _ => ⟨fun h => absurd h (by decide), fun _ => ⟨by omega, by omega, lg_mixOf i hr ht X1 X1 _ lv.wd (fun X2 w2 => h_824 i hg hr ht (by omega) (by omega) w2 (fun X3 c3 s3 w3 g3 g4 => ih X3 c3 s3 (lv.mv hX w3) (by omega) (by omega)))⟩⟩⟩)
  exact main X C S lw (by omega) (by omega)
theorem h_784 (hX : 122 ≤ hz X0) (i : Inv (zG σ) n) (hg : Hg B (zG σ) n) (ht : t < 3) (h1 : C + 200 ≤ 4000) (h2 : S + 1200 ≤ 24000) (lw : LW X0 σ X f)
    (k : ∀ X1 cc1 ss1, LW X0 σ X1 f → cc1 ≤ C + 200 → ss1 ≤ S + 1200 → w_L_hangs_992 P84 1 (zG σ 366) l2 1 (hz X0 + 1) (Int32.ofNat t) l6 l7 l8 l9 l10 l11 (b2i (pRat (zG σ) n t)) cc1 ss1 X1 K) :
    w_L_hangs_784 P84 1 (zG σ 366) l2 1 (hz X0 + 1) (Int32.ofNat t) l6 l7 l8 l9 l10 l11 C S X K := by
  have fin := h_798 (P84 := P84) (K := K) hX i hg ht h1 h2 lw k
  have e1 : rA (zG σ) n t 0 = !(decide (zG σ 366 ≤ 0)) := rfl
  rw [e1] at fin
  refine ⟨fun h => ?_, fun h => ?_⟩
  · rw [decide_eq_true h] at fin
    exact fin
  · rw [decide_eq_false h] at fin
    exact fin
end HS
