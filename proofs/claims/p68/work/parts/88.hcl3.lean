/-! hangs: all the clauses in one tongue -/
section HE
variable {P84 : PB84} {X0 X : XH} {σ : St} {n B t C S : Nat} {l2 : Int32} {K : Int32 → XH → Prop}
theorem fA_0 {g : Row} {f : Nat → Int32} (h0 : t = 0 → ∀ j, j < 4 → f j = 0) (h1 : t ≠ 0 → ∀ j, j < 4 → f j = sMany g n (Int32.ofNat j)) : ∀ j, j < 4 → f j = fA g n t 0 j := fun j hj => by
  unfold fA
  by_cases h : t = 0
  · rw [if_pos h, h0 h j hj]
    rfl
  · rw [if_neg h, h1 h j hj]
theorem l_c3 {l : Nat} (h1 : 4 ≤ l) (h2 : l ≤ 60) : ¬ (Int32.ofNat l ≤ 3) ∧ ¬ ((61 : Int32) ≤ Int32.ofNat l) := ⟨by
  rw [show (3 : Int32) = Int32.ofNat 3 from rfl, of_le (by omega) (by decide)]
  omega, by
  rw [show (61 : Int32) = Int32.ofNat 61 from rfl, of_le (by decide) (by omega)]
  omega⟩
set_option maxRecDepth 100000 in
theorem h_115 (hX : 122 ≤ hz X0) (i : Inv (zG σ) n) (hg : Hg B (zG σ) n) (ht : t < 3) (h1 : C + 1008 ≤ 4000) (h2 : S + 6048 ≤ 24000) (lw : LW X0 σ X (fA (zG σ) n t 0))
    (k : ∀ X1 cc1 ss1, LW X0 σ X1 (fA (zG σ) n t n) → cc1 ≤ C + 1008 → ss1 ≤ S + 6048 → w_L_hangs_651 P84 1 (Int32.ofNat n) l2 1 (hz X0 + 1) (Int32.ofNat t) (sAnnex (zG σ) n t) (sReady (zG σ) n t) (sMis (zG σ) n t) (sTaken (zG σ) n t) 0 (sFr (zG σ) n t) 0 cc1 ss1 X1 K) :
    w_L_hangs_115 P84 1 (Int32.ofNat n) l2 1 (hz X0 + 1) (Int32.ofNat t) 0 0 0 0 0 0 0 C S X K := by
  intro P115 hP
  have hn2 := i.1.2
  have main := dwn (n := n) (p := fun c => ∀ X1 cc ss, LW X0 σ X1 (fA (zG σ) n t c) → cc ≤ C + 42 * c → ss ≤ S + 252 * c → P115 1 (Int32.ofNat n) l2 1 (hz X0 + 1) (Int32.ofNat t) (sAnnex (zG σ) c t) (sReady (zG σ) c t) (sMis (zG σ) c t) (sTaken (zG σ) c t) 0 (sFr (zG σ) c t) (Int32.ofNat c) cc ss X1)
    (fun X1 cc ss l1 g1 g2 => hP _ _ _ _ _ _ _ _ _ _ _ _ _ _ _ _ ⟨fun _ => k X1 cc ss l1 (by omega) (by omega), fun h => absurd (by rw [lt_ hn2]; trivial) h⟩)
    (fun c hc ih X1 cc ss l1 g1 g2 => hP _ _ _ _ _ _ _ _ _ _ _ _ _ _ _ _ ⟨fun h => absurd h (by rw [lf hc hn2]; exact id), fun _ => ⟨fun h => absurd h (by
      rw [show (24 : Int32) = Int32.ofNat 24 from rfl, of_le (by decide) (by omega)]
      omega), fun _ => ⟨fun h => absurd h (by decide), fun _ => ?_⟩⟩⟩)
  · exact main X C S lw (by omega) (by omega)
  have ic := i.2.1 c hc
  have hk : EndC P115 X0 σ n c t (cc + 42) (ss + 252) (Int32.ofNat n) l2 := fun X2 c2 s2 l3 g3 g4 => ih X2 c2 s2 l3 (by omega) (by omega)
  obtain ⟨l, y, f9, a, k9, q1, q2, q3, q4, q5, hk9, e1, e2, e3, e4, e5, p1, p2, p3, p4, p5⟩ := nat_c ic ht
  have hL := l_c3 q1 q2
  have hy1 : ¬ (Int32.ofNat l < Int32.ofNat y) := by
    rw [of_lt (by omega) (by omega)]
    omega
  have hy2 : ¬ ((21 : Int32) ≤ Int32.ofNat y) := by
    rw [show (21 : Int32) = Int32.ofNat 21 from rfl, of_le (by decide) (by omega)]
    omega
  refine ⟨by omega, by omega, lg_clauseOf i hc X1 X1 _ l1.wd (fun X2 w2 => ⟨by omega, by omega, lg_clauseOf i hc X2 X1 _ w2 (fun X3 w3 => ⟨by omega, by omega, vl_f i hc ht X3 X1 _ w3 (fun X4 w4 => ⟨by omega, by omega, vl_r i hc ht X4 X1 _ w4 (fun X5 w5 => ⟨by omega, by omega, lg_reasonAgainst i hc ht X5 X1 _ w5 (fun X6 w6 => ⟨by omega, by omega, vl_s i hc ht X6 X1 _ w6 (fun X7 w7 => ⟨by omega, by omega, vl_l i hc ht X7 X1 _ w7 (fun X8 w8 => ?_)⟩)⟩)⟩)⟩)⟩)⟩)⟩
  rw [(vCl_l ic).1, (vCl_l ic).2]
  refine ⟨fun h => absurd h (by rw [e1]; exact hL.1), fun _ => ⟨fun h => absurd h (by rw [e1]; exact hL.2), fun _ => ⟨fun h => absurd h (by rw [e1, e2]; exact hy1), fun _ => ⟨fun h => absurd h (by rw [e2]; exact hy2), fun _ => ?_⟩⟩⟩⟩
  cases hp : pHas (zG σ) c t
  · have v1 : vIts (zG σ) c t = -4 := by
      unfold vIts
      rw [hp, if_neg (by decide)]
    have v2 : vRm (zG σ) c t = -904 := by
      unfold vRm
      rw [hp, if_neg (by decide)]
    have v3 : vLe (zG σ) c t = -4 := by
      unfold vLe
      rw [hp, if_neg (by decide)]
    have v4 : vSe (zG σ) c t = -4 := by
      unfold vSe
      rw [((hg.1 c hc t ht).1 hp).2, if_neg (by decide)]
    have v5 : pFit (zG σ) c t = false := by
      cases hq : pFit (zG σ) c t
      · rfl
      · exact nap hp (fit_has hq)
    refine ⟨fun h => absurd v1 h, fun _ => ⟨fun h => absurd v2 h, fun _ => ⟨fun h => absurd (rs_1 hp) h, fun _ => ⟨fun h => absurd v4 h, fun _ => ⟨fun h => absurd v3 h, fun _ => ⟨by omega, by omega, vl_h0 i hc ht hp X8 X1 _ w8 (fun X9 w9 => ⟨fun h => absurd rfl h, fun _ => ⟨by omega, by omega, lg_fits i hc ht X9 X1 _ w9 (fun X10 w10 => ⟨fun h => absurd (by rw [v5]; rfl) h, fun _ => ?_⟩)⟩⟩)⟩⟩⟩⟩⟩⟩
    exact h_v440 hX i hg hc ht (by omega) (by omega) l1 w10 hk
  · have v1 : vIts (zG σ) c t = gF (zG σ) c t := by
      unfold vIts
      rw [if_pos hp]
    have v2 : vRm (zG σ) c t = gRm (zG σ) c t := by
      unfold vRm
      rw [if_pos hp]
    have hf := p1.mp hp
    have n1 : ¬ (vIts (zG σ) c t = -4) := fun h => by
      have h9 := (its_1 ic ht).mpr hp
      rw [h] at h9
      exact absurd h9 (by decide)
    have n2 : ¬ (vIts (zG σ) c t ≤ 0) := Int32.not_le.mpr ((its_1 ic ht).mpr hp)
    have n3 : ¬ ((61 : Int32) ≤ vIts (zG σ) c t) := by
      rw [v1, e3, show (61 : Int32) = Int32.ofNat 61 from rfl, of_le (by decide) (by omega)]
      omega
    have n4 : vRm (zG σ) c t = gL (zG σ) c - gH (zG σ) c - vIts (zG σ) c t := by
      rw [v1, v2]
      unfold gRm gB
      rw [Int32.add_comm, Int32.sub_sub]
    have n5 : gP (zG σ) c t = 100 * (gH (zG σ) c + vIts (zG σ) c t) / gL (zG σ) c := by
      rw [v1]
      unfold gP gB
      rw [Int32.add_comm, Int32.mul_comm]
    have n6 : ¬ (gL (zG σ) c = 0) := fun h => by
      rw [e1] at h
      rw [h] at hL
      exact absurd (by decide) hL.1
    refine ⟨fun _ => ⟨fun h => absurd h n2, fun _ => ⟨fun h => absurd h n3, fun _ => ⟨fun h => absurd n4 h, fun _ => ⟨by omega, by omega, vl_h i hc ht hp X8 X1 _ w8 (fun X9 w9 => ⟨n6, fun h => absurd n5 h, fun _ => ?_⟩)⟩⟩⟩⟩, fun h => absurd h n1⟩
    have hs := se_lt ic ht
    have hr := rs_2 (g := zG σ) (c := c) (t := t) hp
    have fin : ∀ s0 s1 : Int32, s0 = s1 → _ := fun s0 s1 e => h_365 (P84 := P84) (K := K) (cc := cc + 26) (ss := ss + 156) hX i hg hc ht (by omega) (by omega) l1 w9 hk hp e
    refine ⟨fun h => ⟨fun _ => fin 0 0 rfl, fun h3 => ?_⟩, fun h => ⟨fun h3 => ?_, fun _ => fin 1 1 rfl⟩⟩
    · rw [hs] at h
      rw [hr, h] at h3
      exact nomatch h3
    · rw [hs, Bool.not_eq_false] at h
      rw [hr] at h3
      exact absurd h h3
end HE
