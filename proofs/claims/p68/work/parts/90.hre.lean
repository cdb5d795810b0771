/-! hangs: the reels -/
section HR
abbrev PB798 : Type := Nat → Int32 → Int32 → Int32 → Nat → Int32 → Int32 → Int32 → Int32 → Int32 → Int32 → Int32 → Int32 → Int32 → Nat → Nat → XH → Prop
variable {P84 : PB84} {P798 : PB798} {X0 X Z : XH} {σ : St} {n B t r C S cc ss : Nat} {f : Nat → Int32} {l1 l2 l6 l7 l8 l9 l10 l11 : Int32} {K : Int32 → XH → Prop}
/-- a reel that wants: clauses, and not mixed and signed by all -/
def pWa (g : Row) (n t r : Nat) : Bool := !(decide (sMany g n (Int32.ofNat r) ≤ 0)) && !(pMx g r t && decide (sMiss g n r t = 0))
def rA (g : Row) (n t r : Nat) : Bool := !(anyTo (pWa g n t) r) && !(decide (g 366 ≤ 0))
theorem rA_s {g : Row} : rA g n t (r + 1) = (rA g n t r && !(pWa g n t r)) := by
  unfold rA
  rw [show anyTo (pWa g n t) (r + 1) = (anyTo (pWa g n t) r || pWa g n t r) from rfl]
  cases anyTo (pWa g n t) r <;> cases pWa g n t r <;> cases decide (g 366 ≤ 0) <;> rfl
def pX (g : Row) (n r t : Nat) : Nat := (if pWh g n (Int32.ofNat r) t = true then 1 else 0) + (if pMx g r t = true then 2 else 0)
theorem pX_c (i : Inv (zG σ) n) (hg : Hg B (zG σ) n) (hr : r < 4) (ht : t < 3) : (pMx (zG σ) r t = true ∧ pX (zG σ) n r t = 3) ∨ (pMx (zG σ) r t = false ∧ (pX (zG σ) n r t = 0 ∨ pX (zG σ) n r t = 1)) := by
  unfold pX
  cases hp : pMx (zG σ) r t
  · refine Or.inr ⟨rfl, ?_⟩
    split
    · exact Or.inr rfl
    · exact Or.inl rfl
  · refine Or.inl ⟨rfl, ?_⟩
    rw [if_pos (mw i hg hr ht hp)]
    rfl
theorem d3 {x : Nat} (h : x ≤ 3) {y : Nat} (hy : y ≤ 3) : (Int32.ofNat x = Int32.ofNat y) = (x = y) := of_inj (by omega) (by omega)
theorem h_948 (i : Inv (zG σ) n) (hg : Hg B (zG σ) n) (hr : r < 4) (ht : t < 3) (h1 : cc + 2 ≤ 4000) (h2 : ss + 12 ≤ 24000) (w : Wd X σ Z)
    (k : ∀ X1 c1 s1, Wd X1 σ Z → c1 ≤ cc + 2 → s1 ≤ ss + 12 → P798 1 l1 l2 1 (hz X0 + 1) (Int32.ofNat t) l6 l7 l8 l9 l10 l11 (b2i (rA (zG σ) n t (r + 1))) (Int32.ofNat (r + 1)) c1 s1 X1) :
    w_L_hangs_948 P84 P798 1 l1 l2 (hz X0 + 1) (Int32.ofNat t) l6 l7 l8 l9 l10 l11 (b2i (rA (zG σ) n t r)) (Int32.ofNat r) (vMx (zG σ) n r t) 1 cc ss X K := by
  rw [← of_s, rA_s] at k
  refine ⟨fun h => ?_, fun h => ⟨by omega, by omega, lg_reelAt i hr X Z _ w (fun X1 w1 => ?_)⟩⟩
  · rw [b2i_0] at h
    rw [h] at k
    exact k X _ _ w (by omega) (by omega)
  · rw [b2i_0, Bool.not_eq_false] at h
    rw [h, Bool.true_and] at k
    obtain ⟨m, q, hm, hq, e1, e2, h0⟩ := reel_n i (Int32.ofNat r)
    obtain ⟨M, Q, hM, hQ, e3, e4, e5⟩ := mx_n (g := zG σ) (n := n) (r := r) (t := t)
    have e6 := mx_d (g := zG σ) (n := n) (r := r) (t := t)
    have hc := pX_c i hg hr ht
    have hx : pX (zG σ) n r t ≤ 3 := by
      rcases hc with ⟨_, h⟩ | ⟨_, h | h⟩ <;> omega
    have e6' : vMx (zG σ) n r t - vMx (zG σ) n r t / (10 : Int32) * (10 : Int32) = Int32.ofNat (pX (zG σ) n r t) := e6
    have e5' : vMx (zG σ) n r t = Int32.ofNat (pX (zG σ) n r t + 10 * M + 100 * Q) := e5
    have q3 : (Int32.ofNat (pX (zG σ) n r t) = (3 : Int32)) = (pX (zG σ) n r t = 3) := d3 hx (by decide)
    have q4 : ((100 : Int32) ≤ Int32.ofNat (pX (zG σ) n r t + 10 * M + 100 * Q)) = (100 ≤ pX (zG σ) n r t + 10 * M + 100 * Q) := of_le (by decide) (by omega)
    have e7 : (sMany (zG σ) n (Int32.ofNat r) ≤ 0) = (m = 0) := by
      rw [e1, show (0 : Int32) = Int32.ofNat 0 from rfl, of_le (by omega) (by decide)]
      exact propext ⟨fun h => by omega, fun h => by omega⟩
    have e8 : (sMiss (zG σ) n r t = 0) = (Q = 0) := by
      rw [e4]
      exact of_inj (j := 0) (by omega) (by decide)
    have e9 : pWa (zG σ) n t r = (!(decide (m = 0)) && !(pMx (zG σ) r t && decide (Q = 0))) := by
      unfold pWa
      rw [show decide (sMany (zG σ) n (Int32.ofNat r) ≤ 0) = decide (m = 0) from decide_eq_decide.mpr (iff_of_eq e7), show decide (sMiss (zG σ) n r t = 0) = decide (Q = 0) from decide_eq_decide.mpr (iff_of_eq e8)]
    have e10 : (Int32.ofNat (m + 100 * q) = 0) = (m = 0) := by
      refine propext ⟨fun h => ?_, fun h => ?_⟩
      · have h9 := congrArg Int32.toInt h
        rw [Int32.toInt_ofNat_of_lt (by omega), t0] at h9
        omega
      · rw [h, h0 h]
        rfl
    rw [e2, e6', e5', q3, q4, e10]
    rw [e9] at k
    refine ⟨fun h3 => ?_, fun h3 => ⟨fun h4 => ?_, fun h4 => ⟨fun h5 => ?_, fun h5 => ?_⟩⟩⟩
    · rw [decide_eq_true h3] at k
      exact k X1 _ _ w1 (by omega) (by omega)
    · rw [decide_eq_false h3] at k
      rcases hc with ⟨_, h⟩ | ⟨h, _⟩
      · exact absurd h h4
      · rw [h] at k
        exact k X1 _ _ w1 (by omega) (by omega)
    · rw [decide_eq_false h3, decide_eq_false (show ¬ Q = 0 by omega), Bool.and_false] at k
      exact k X1 _ _ w1 (by omega) (by omega)
    · rcases hc with ⟨h, _⟩ | ⟨_, h⟩
      · rw [decide_eq_false h3, decide_eq_true (show Q = 0 by omega), h] at k
        exact k X1 _ _ w1 (by omega) (by omega)
      · omega
theorem h_929 (i : Inv (zG σ) n) (hg : Hg B (zG σ) n) (hr : r < 4) (ht : t < 3) (h1 : cc + 2 ≤ 4000) (h2 : ss + 12 ≤ 24000) (w : Wd X σ Z)
    (k : ∀ X1 c1 s1, Wd X1 σ Z → c1 ≤ cc + 2 → s1 ≤ ss + 12 → P798 1 l1 l2 1 (hz X0 + 1) (Int32.ofNat t) l6 l7 l8 l9 l10 l11 (b2i (rA (zG σ) n t (r + 1))) (Int32.ofNat (r + 1)) c1 s1 X1) :
    w_L_hangs_929 P84 P798 1 l1 l2 (hz X0 + 1) (Int32.ofNat t) l6 l7 l8 l9 l10 l11 (b2i (rA (zG σ) n t r)) (Int32.ofNat r) (vMx (zG σ) n r t) (sSigs (zG σ) r t) cc ss X K := by
  have fin := h_948 (P84 := P84) (K := K) i hg hr ht h1 h2 w k
  refine ⟨fun _ => fin, fun h => ⟨fun h3 => absurd ?_ h3, fun _ => fin⟩⟩
  have e6 : vMx (zG σ) n r t - vMx (zG σ) n r t / (10 : Int32) * (10 : Int32) = Int32.ofNat (pX (zG σ) n r t) := mx_d
  rcases pX_c i hg hr ht with ⟨_, h4⟩ | ⟨h4, _⟩
  · rw [e6, h4] at h
    exact absurd rfl h
  · have hz0 := (hg.2.2.1 r hr t ht).2.1 (fun h5 => nap h4 (decide_eq_true h5))
    have e1 : sSigs (zG σ) r t = Int32.ofNat (cntTo (fun s => pSg (zG σ) s r t) 5) := cnt_sum _ 5
    have e2 : cntTo (fun s => pSg (zG σ) s r t) 5 = 0 := by
      rw [cnt_0]
      intro s hs
      unfold pSg
      rw [hz0]
      revert s
      decide
    rw [e1, e2]
    rfl
end HR
