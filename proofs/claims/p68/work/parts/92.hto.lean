/-! hangs: one tongue; all the tongues -/
section HT
variable {P84 : PB84} {X0 X Z : XH} {σ : St} {n B t r C S cc ss : Nat} {f : Nat → Int32} {l2 l10 l11 : Int32} {K : Int32 → XH → Prop}
theorem h_1094 (i : Inv (zG σ) n) (ht : t < 3) (h1 : cc + 1 ≤ 4000) (h2 : ss + 6 ≤ 24000) (w : Wd X σ Z) {l1 l9 : Int32}
    (k : P84 1 l1 (l2 + l9) 1 (hz X0 + 1) (Int32.ofNat (t + 1)) (cc + 1) (ss + 6) X) :
    w_L_hangs_1094 P84 1 l1 l2 (hz X0 + 1) (Int32.ofNat t) l9 cc ss X K := by
  rw [← of_s] at k
  exact ⟨h1, h2, lg_meanFit i ht w ⟨fun h => absurd h (mean_ge i ht), fun _ => k⟩⟩
theorem an_n (i : Inv (zG σ) n) (ht : t < 3) : sAnnex (zG σ) n t = Int32.ofNat (nAn (zG σ) t n) := nAn_sum (fun c hc => by
  obtain ⟨⟨f, a, hf, -, e⟩, -⟩ := (i.2.1 c hc).2.2.2 t ht
  exact ⟨a, e, by omega⟩)
theorem h_1036 (i : Inv (zG σ) n) (hg : Hg B (zG σ) n) (ht : t < 3) (h1 : cc + 6 ≤ 4000) (h2 : ss + 36 ≤ 24000) (w : Wd X σ Z) {s0 s1 s2 : Int32} (e0 : s0 = s1 + s2) (e1 : l10 = l11)
    (k : ∀ X1 c1 s1, Wd X1 σ Z → c1 ≤ cc + 6 → s1 ≤ ss + 36 → P84 1 (Int32.ofNat n) (l2 + sTaken (zG σ) n t) 1 (hz X0 + 1) (Int32.ofNat (t + 1)) c1 s1 X1) :
    w_L_hangs_1036 P84 1 (Int32.ofNat n) l2 (hz X0 + 1) (Int32.ofNat t) (sAnnex (zG σ) n t) (sReady (zG σ) n t) (sTaken (zG σ) n t) l10 l11 (if encO (nxTo (zG σ) t n) = -1 then -4 else encO (nxTo (zG σ) t n)) s0 s1 s2 cc ss X K := by
  have ha := hg.2.1 t ht
  have hn2 := i.1.2
  refine ⟨fun h => absurd e0 h, fun _ => ⟨fun h => absurd h ?_, fun _ => ⟨by omega, by omega, lg_ready i ht X Z _ w (fun X1 w1 => ⟨fun h => absurd rfl h, fun _ => ⟨fun h => absurd e1 h, fun _ => ?_⟩⟩)⟩⟩⟩
  · rw [an_n i ht, show (100 : Int32) = Int32.ofNat 100 from rfl, of_le (by decide) (by omega)]
    omega
  cases e : nxTo (zG σ) t n with
  | none =>
    rw [show encO none = -1 from rfl, if_pos rfl]
    exact ⟨fun _ => h_1094 i ht (by omega) (by omega) w1 (k X1 _ _ w1 (by omega) (by omega)), fun h => absurd rfl h⟩
  | some j =>
    have hj := nxTo_lt e
    have hr : gRs (zG σ) j t = 0 := nx_rs e
    have h0 := not_lt0 (x := j) (by omega)
    have e2 : encO (some j) = Int32.ofNat j := rfl
    rw [e2, if_neg (fun h => by rw [h] at h0; exact absurd (by decide) h0)]
    refine ⟨fun h => by rw [h] at h0; exact absurd (by decide) h0, fun _ => ⟨fun h => absurd h h0, fun _ => ⟨fun h => absurd h (by rw [lf hj hn2]; exact id), fun _ => ⟨by omega, by omega, lg_reasonAgainst i hj ht X1 Z _ w1 (fun X2 w2 => ⟨fun h => absurd hr h, fun _ => h_1094 i ht (by omega) (by omega) w2 (k X2 _ _ w2 (by omega) (by omega))⟩)⟩⟩⟩⟩
theorem h_992 (i : Inv (zG σ) n) (hg : Hg B (zG σ) n) (ht : t < 3) (h1 : cc + 12 ≤ 4000) (h2 : ss + 72 ≤ 24000) (w : Wd X σ Z) (e1 : l10 = l11)
    (k : ∀ X1 c1 s1, Wd X1 σ Z → c1 ≤ cc + 12 → s1 ≤ ss + 72 → P84 1 (Int32.ofNat n) (l2 + sTaken (zG σ) n t) 1 (hz X0 + 1) (Int32.ofNat (t + 1)) c1 s1 X1) :
    w_L_hangs_992 P84 1 (Int32.ofNat n) l2 1 (hz X0 + 1) (Int32.ofNat t) (sAnnex (zG σ) n t) (sReady (zG σ) n t) (sMis (zG σ) n t) (sTaken (zG σ) n t) l10 l11 (b2i (pRat (zG σ) n t)) cc ss X K := by
  refine ⟨by omega, by omega, lg_nextClause i ht X Z _ w (fun X1 w1 => ⟨fun h => absurd h (by decide), fun _ => ⟨by omega, by omega, lg_tongueAt i ht X1 Z _ w1 (fun X2 w2 => ?_)⟩⟩)⟩
  have fin : ∀ s2, bi (pRat (zG σ) n t) 1000000 = s2 → w_L_hangs_1036 P84 1 (Int32.ofNat n) l2 (hz X0 + 1) (Int32.ofNat t) (sAnnex (zG σ) n t) (sReady (zG σ) n t) (sTaken (zG σ) n t) l10 l11 (if encO (nxTo (zG σ) t n) = -1 then -4 else encO (nxTo (zG σ) t n)) (vTo (zG σ) n t) (sAnnex (zG σ) n t + 100 * sTaken (zG σ) n t + 10000 * sMis (zG σ) n t) s2 (cc + 6) (ss + 36) X2 K := fun s2 e => h_1036 i hg ht (by omega) (by omega) w2 (by rw [← e]; rfl) e1 (fun X3 c3 s3 w3 g3 g4 => k X3 c3 s3 w3 (by omega) (by omega))
  refine ⟨fun h => fin 0 ?_, fun h => fin 1000000 ?_⟩
  · rw [b2i_0] at h
    rw [h]
    rfl
  · rw [b2i_0, Bool.not_eq_false] at h
    rw [h]
    rfl
/-- how many are taken in the first tongues -/
def sTk (g : Row) (n : Nat) : Nat → Int32 := sumTo (fun t => sTaken g n t)
def fE (g : Row) (n t : Nat) : Nat → Int32 := fun j => if t = 0 then 0 else sMany g n (Int32.ofNat j)
set_option maxRecDepth 100000 in
theorem h_84 (hX : 122 ≤ hz X0) (i : Inv (zG σ) n) (hg : Hg B (zG σ) n) (h1 : C + 3930 ≤ 4000) (h2 : S + 23580 ≤ 24000) (lw : LW X0 σ X (fun _ => 0))
    (k : ∀ X1 cc1 ss1, LW X0 σ X1 (fun j => sMany (zG σ) n (Int32.ofNat j)) → cc1 ≤ C + 3930 → ss1 ≤ S + 23580 → w_L_hangs_1125 1 (Int32.ofNat n) (sTk (zG σ) n 3) 1 (hz X0 + 1) 0 cc1 ss1 X1 K) :
    w_L_hangs_84 1 (Int32.ofNat n) 0 1 (hz X0 + 1) 0 C S X K := by
  intro P84 hP
  have main := dwn (n := 3) (p := fun t => ∀ X1 cc ss, LW X0 σ X1 (fE (zG σ) n t) → cc ≤ C + 1310 * t → ss ≤ S + 7860 * t → P84 1 (Int32.ofNat n) (sTk (zG σ) n t) 1 (hz X0 + 1) (Int32.ofNat t) cc ss X1)
    (fun X1 cc ss lv g1 g2 => hP _ _ _ _ _ _ _ _ _ ⟨fun _ => k X1 cc ss lv (by omega) (by omega), fun h => absurd (by decide) h⟩)
    (fun t ht ih X1 cc ss lv g1 g2 => hP _ _ _ _ _ _ _ _ _ ⟨fun h => absurd h (by
      rw [show (3 : Int32) = Int32.ofNat 3 from rfl, of_le (by decide) (by omega)]
      omega), fun _ => ⟨fun h => absurd h (by decide), fun _ => ?_⟩⟩)
  · exact main X C S (lw.cgf (fun j hj => rfl)) (by omega) (by omega)
  have l1 : LW X0 σ X1 (fA (zG σ) n t 0) := lv.cgf (fun j hj => by
    unfold fE fA
    by_cases h : t = 0
    · rw [if_pos h, if_pos h]
      rfl
    · rw [if_neg h, if_neg h])
  refine h_115 hX i hg ht (by omega) (by omega) l1 (fun X2 c2 s2 l2 g3 g4 => ?_)
  refine h_651 hX i ht (by omega) (by omega) l2 (fun X3 c3 s3 l3 g5 g6 => ?_)
  have f784 := h_784 (P84 := P84) (K := K) (l2 := sTk (zG σ) n t) (l6 := sAnnex (zG σ) n t) (l7 := sReady (zG σ) n t) (l8 := sMis (zG σ) n t) (l9 := sTaken (zG σ) n t) (l10 := sVo (zG σ) n t 5) (l11 := sFr (zG σ) n t) (C := c3) (S := s3) hX i hg ht (by omega) (by omega) l3
  rw [i.1.1] at f784
  refine f784 (fun X4 c4 s4 l4 g7 g8 => ?_)
  refine h_992 i hg ht (by omega) (by omega) l4.wd (voAll_eq i.S) (fun X5 c5 s5 w5 g9 g10 => ?_)
  refine ih X5 c5 s5 ((l4.mv hX w5).cgf (fun j hj => ?_)) (by omega) (by omega)
  unfold fE fA
  rw [if_neg (show ¬ (t + 1 = 0) by omega)]
  by_cases h : t = 0
  · rw [if_pos h]
  · rw [if_neg h]
end HT
