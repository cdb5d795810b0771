/-! hangs: one clause in one tongue -/
section HC
abbrev PB84 : Type := Nat → Int32 → Int32 → Int32 → Nat → Int32 → Nat → Nat → XH → Prop
abbrev PB115 : Type := Nat → Int32 → Int32 → Int32 → Nat → Int32 → Int32 → Int32 → Int32 → Int32 → Int32 → Int32 → Int32 → Nat → Nat → XH → Prop
variable {P84 : PB84} {P115 : PB115} {X0 X Z : XH} {σ : St} {f : Nat → Int32} {n B c t cc ss : Nat} {K : Int32 → XH → Prop}
/-- what many holds: clauses of reel j among the first k, in the first tongue; all of them later -/
def fA (g : Row) (n t k : Nat) : Nat → Int32 := fun j => if t = 0 then sMany g k (Int32.ofNat j) else sMany g n (Int32.ofNat j)
/-- the end of a round: the numbers of c + 1 clauses -/
def EndC (P115 : PB115) (X0 : XH) (σ : St) (n c t cc ss : Nat) (l1 l2 : Int32) : Prop := ∀ X1 cc1 ss1, LW X0 σ X1 (fA (zG σ) n t (c + 1)) → cc1 ≤ cc → ss1 ≤ ss → P115 1 l1 l2 1 (hz X0 + 1) (Int32.ofNat t) (sAnnex (zG σ) (c + 1) t) (sReady (zG σ) (c + 1) t) (sMis (zG σ) (c + 1) t) (sTaken (zG σ) (c + 1) t) 0 (sFr (zG σ) (c + 1) t) (Int32.ofNat (c + 1)) cc1 ss1 X1
theorem fA_s {g : Row} {r : Nat} (eR : gR g c = Int32.ofNat r) (hr : r < 4) (ht : t = 0) : ∀ j, j < 4 → (if j = r then fA g n t c r + 1 else fA g n t c j) = fA g n t (c + 1) j := fun j hj => by
  unfold fA
  rw [if_pos ht, if_pos ht, if_pos ht]
  have e2 : sMany g (c + 1) (Int32.ofNat j) = sMany g c (Int32.ofNat j) + bi (decide (gR g c = Int32.ofNat j)) 1 := rfl
  rw [e2, eR]
  by_cases h : j = r
  · subst h
    rw [if_pos rfl, decide_eq_true rfl]
    rfl
  · have hne : ¬ (Int32.ofNat r = Int32.ofNat j) := fun e => h ((of_inj (by omega) (by omega)).mp e).symm
    rw [if_neg h, decide_eq_false hne, bi_f, Int32.add_zero]
theorem h_615 {l1 l2 l6 l7 l8 l9 s0 s1 : Int32} (hX : 122 ≤ hz X0) (i : Inv (zG σ) n) (hc : c < n) (ht : t < 3) (h1 : cc + 4 ≤ 4000) (h2 : ss + 24 ≤ 24000) (lw : LW X0 σ Z (fA (zG σ) n t c)) (w : Wd X σ Z)
    (k : ∀ X1, LW X0 σ X1 (fA (zG σ) n t (c + 1)) → P115 1 l1 l2 1 (hz X0 + 1) (Int32.ofNat t) l6 l7 l8 l9 0 (s0 + s1) (Int32.ofNat c + 1) (cc + 4) (ss + 24) X1) :
    w_L_hangs_615 P84 P115 1 l1 l2 1 (hz X0 + 1) (Int32.ofNat t) l6 l7 l8 l9 0 (Int32.ofNat c) s0 s1 cc ss X K := by
  obtain ⟨r, hr, eR, e4⟩ := vCl_r (i.2.1 c hc)
  refine ⟨h1, h2, lg_clauseOf i hc X Z _ w (fun X1 w1 => ?_)⟩
  have lw1 := lw.mv hX w1
  rw [e4, nc (show r < 4096 by omega), lw1.2.2.2.2.2 r hr, lw1.2.2.2.2.1, lw1.2.2.2.1]
  refine ⟨rfl, by rw [vp_of hr (by decide)]; trivial, fun h => ?_, fun h => ?_⟩
  · have ht0 : t ≠ 0 := fun e => h (by rw [e]; rfl)
    refine k _ (LW.cgf (lw1.arr hX) (fun j hj => ?_))
    show (if j = r then fA (zG σ) n t c r + 0 else fA (zG σ) n t c j) = fA (zG σ) n t (c + 1) j
    unfold fA
    rw [if_neg ht0, if_neg ht0, if_neg ht0, Int32.add_zero]
    by_cases h : j = r
    · rw [if_pos h, h]
    · rw [if_neg h]
  · have ht0 : t = 0 := (of_inj (j := 0) (by omega) (by decide)).mp h
    exact k _ (LW.cgf (lw1.arr hX) (fun j hj => fA_s eR hr ht0 j hj))
theorem bs {p : Bool} {a x y : Int32} (h : p = true → x = y) : (if p = true then a + x else a + 0) = a + bi p y := by
  cases p
  · rfl
  · rw [if_pos rfl, h rfl]
    rfl
/-- taken, frames -/
theorem h_596 {l1 l2 l6 l7 l8 s0 s1 si it se : Int32} (hX : 122 ≤ hz X0) (i : Inv (zG σ) n) (hc : c < n) (ht : t < 3) (h1 : cc + 4 ≤ 4000) (h2 : ss + 24 ≤ 24000) (lw : LW X0 σ Z (fA (zG σ) n t c)) (w : Wd X σ Z)
    (eS : (se < 0) = (pTk (zG σ) c t = false)) (eV : pTk (zG σ) c t = true → it + si = gB (zG σ) c t) (e6 : l6 = sAnnex (zG σ) (c + 1) t) (e7 : l7 = sReady (zG σ) (c + 1) t) (e8 : l8 = sMis (zG σ) (c + 1) t) (e9 : s0 + s1 = sTaken (zG σ) (c + 1) t) (k : EndC P115 X0 σ n c t (cc + 4) (ss + 24) l1 l2) :
    w_L_hangs_596 P84 P115 1 l1 l2 1 (hz X0 + 1) (Int32.ofNat t) l6 l7 l8 0 (sFr (zG σ) c t) (Int32.ofNat c) si it se s0 s1 cc ss X K := by
  have e11 : sFr (zG σ) (c + 1) t = sFr (zG σ) c t + bi (pTk (zG σ) c t) (gB (zG σ) c t) := rfl
  rw [e6, e7, e8]
  refine ⟨fun h => ?_, fun h => ?_⟩
  · rw [eS] at h
    rw [h, bi_f] at e11
    rw [e9]
    refine h_615 hX i hc ht h1 h2 lw w (fun X1 l => ?_)
    rw [← e11, of_s]
    exact k X1 _ _ l (Nat.le_refl _) (Nat.le_refl _)
  · rw [eS, Bool.not_eq_false] at h
    rw [h, bi_t] at e11
    rw [e9, eV h]
    refine h_615 hX i hc ht h1 h2 lw w (fun X1 l => ?_)
    rw [← e11, of_s]
    exact k X1 _ _ l (Nat.le_refl _) (Nat.le_refl _)
/-- misfits; taken -/
theorem h_580 {l1 l2 l6 l7 s0 si it se : Int32} (hX : 122 ≤ hz X0) (i : Inv (zG σ) n) (hc : c < n) (ht : t < 3) (h1 : cc + 4 ≤ 4000) (h2 : ss + 24 ≤ 24000) (lw : LW X0 σ Z (fA (zG σ) n t c)) (w : Wd X σ Z)
    (eS : (se < 0) = (pTk (zG σ) c t = false)) (eV : pTk (zG σ) c t = true → it + si = gB (zG σ) c t) (e6 : l6 = sAnnex (zG σ) (c + 1) t) (e7 : l7 = sReady (zG σ) (c + 1) t) (e8 : s0 + 0 = sMis (zG σ) (c + 1) t) (k : EndC P115 X0 σ n c t (cc + 4) (ss + 24) l1 l2) :
    w_L_hangs_580 P84 P115 1 l1 l2 1 (hz X0 + 1) (Int32.ofNat t) l6 l7 (sTaken (zG σ) c t) 0 (sFr (zG σ) c t) (Int32.ofNat c) si it se s0 cc ss X K := by
  have e9 : sTaken (zG σ) (c + 1) t = sTaken (zG σ) c t + bi (pTk (zG σ) c t) 1 := rfl
  refine ⟨fun h => ?_, fun h => ?_⟩
  · have h' := h
    rw [eS] at h'
    rw [h', bi_f] at e9
    exact h_596 hX i hc ht h1 h2 lw w eS eV e6 e7 e8 e9.symm k
  · have h' := h
    rw [eS, Bool.not_eq_false] at h'
    rw [h', bi_t] at e9
    exact h_596 hX i hc ht h1 h2 lw w eS eV e6 e7 e8 e9.symm k
theorem h_561 {l1 l2 l6 s0 s1 si it rm se : Int32} (hX : 122 ≤ hz X0) (i : Inv (zG σ) n) (hc : c < n) (ht : t < 3) (h1 : cc + 4 ≤ 4000) (h2 : ss + 24 ≤ 24000) (lw : LW X0 σ Z (fA (zG σ) n t c)) (w : Wd X σ Z)
    (eI : (it ≤ 0) = (pHas (zG σ) c t = false)) (eR : (0 ≤ rm) = (pFit (zG σ) c t = true)) (eS : (se < 0) = (pTk (zG σ) c t = false)) (eV : pTk (zG σ) c t = true → it + si = gB (zG σ) c t) (e6 : l6 = sAnnex (zG σ) (c + 1) t) (e7 : s0 + s1 = sReady (zG σ) (c + 1) t) (k : EndC P115 X0 σ n c t (cc + 4) (ss + 24) l1 l2) :
    w_L_hangs_561 P84 P115 1 l1 l2 1 (hz X0 + 1) (Int32.ofNat t) l6 (sMis (zG σ) c t) (sTaken (zG σ) c t) 0 (sFr (zG σ) c t) (Int32.ofNat c) si it rm se s0 s1 cc ss X K := by
  have e8 : sMis (zG σ) (c + 1) t = sMis (zG σ) c t + bi (pHas (zG σ) c t && !(pFit (zG σ) c t)) 1 := rfl
  have e9 : sTaken (zG σ) (c + 1) t = sTaken (zG σ) c t + bi (pTk (zG σ) c t) 1 := rfl
  refine ⟨fun h => ?_, fun h => ⟨fun h3 => ?_, fun h3 => ?_⟩⟩
  · rw [eI] at h
    rw [h, Bool.false_and, bi_f] at e8
    exact h_580 hX i hc ht h1 h2 lw w eS eV e6 e7 e8.symm k
  · rw [eR] at h3
    rw [h3, Bool.not_true, Bool.and_false, bi_f] at e8
    exact h_580 hX i hc ht h1 h2 lw w eS eV e6 e7 e8.symm k
  · rw [eI, Bool.not_eq_false] at h
    rw [eR, Bool.not_eq_true] at h3
    rw [h, h3, Bool.not_false, Bool.true_and, bi_t] at e8
    refine ⟨fun h4 => ?_, fun h4 => ?_⟩
    · have h' := h4
      rw [eS] at h'
      rw [h', bi_f] at e9
      exact h_596 hX i hc ht h1 h2 lw w eS eV e6 e7 e8.symm e9.symm k
    · have h' := h4
      rw [eS, Bool.not_eq_false] at h'
      rw [h', bi_t] at e9
      exact h_596 hX i hc ht h1 h2 lw w eS eV e6 e7 e8.symm e9.symm k
theorem h_525 {l1 l2 si it rm wh se : Int32} (hX : 122 ≤ hz X0) (i : Inv (zG σ) n) (hc : c < n) (ht : t < 3) (h1 : cc + 6 ≤ 4000) (h2 : ss + 36 ≤ 24000) (lw : LW X0 σ Z (fA (zG σ) n t c)) (w : Wd X σ Z)
    (eI : (it ≤ 0) = (pHas (zG σ) c t = false)) (eR : (0 ≤ rm) = (pFit (zG σ) c t = true)) (eW : (wh = 0 ∨ wh = 4) ↔ pRd (zG σ) c t = true) (eS : (se < 0) = (pTk (zG σ) c t = false)) (eV : pTk (zG σ) c t = true ∨ pRd (zG σ) c t = true → it + si = gB (zG σ) c t) (k : EndC P115 X0 σ n c t (cc + 6) (ss + 36) l1 l2) :
    w_L_hangs_525 P84 P115 1 l1 l2 (hz X0 + 1) (Int32.ofNat t) (sAnnex (zG σ) c t) (sReady (zG σ) c t) (sMis (zG σ) c t) (sTaken (zG σ) c t) 0 (sFr (zG σ) c t) (Int32.ofNat c) si it rm wh se 1 cc ss X K := by
  have e6 : sAnnex (zG σ) c t + gAn (zG σ) c t = sAnnex (zG σ) (c + 1) t := rfl
  have e7 : sReady (zG σ) (c + 1) t = sReady (zG σ) c t + bi (pRd (zG σ) c t) (gB (zG σ) c t) := rfl
  have k' : EndC P115 X0 σ n c t (cc + 2 + 4) (ss + 12 + 24) l1 l2 := k
  refine ⟨by omega, by omega, lg_annexedOf i hc ht X Z _ w (fun X1 w1 => ⟨fun h => ?_, fun h => ⟨fun h3 => ?_, fun h3 => ?_⟩⟩)⟩
  · have hp := eW.mp (Or.inl h)
    rw [hp, bi_t, ← eV (Or.inr hp)] at e7
    exact h_561 hX i hc ht (by omega) (by omega) lw w1 eI eR eS (fun h => eV (Or.inl h)) e6 e7.symm k'
  · have hp : pRd (zG σ) c t = false := by
      cases hq : pRd (zG σ) c t
      · rfl
      · rcases eW.mpr hq with h9 | h9
        · exact absurd h9 h
        · exact absurd h9 h3
    rw [hp, bi_f] at e7
    exact h_561 hX i hc ht (by omega) (by omega) lw w1 eI eR eS (fun h => eV (Or.inl h)) e6 e7.symm k'
  · have hp := eW.mp (Or.inr h3)
    rw [hp, bi_t, ← eV (Or.inr hp)] at e7
    exact h_561 hX i hc ht (by omega) (by omega) lw w1 eI eR eS (fun h => eV (Or.inl h)) e6 e7.symm k'
/-- translated, recorded, annexed -/
theorem h_440 {l1 l2 si it rm wh se : Int32} (hX : 122 ≤ hz X0) (i : Inv (zG σ) n) (hg : Hg B (zG σ) n) (hc : c < n) (ht : t < 3) (h1 : cc + 14 ≤ 4000) (h2 : ss + 84 ≤ 24000) (lw : LW X0 σ Z (fA (zG σ) n t c)) (w : Wd X σ Z)
    (eI : (it ≤ 0) = (pHas (zG σ) c t = false)) (eR : (0 ≤ rm) = (pFit (zG σ) c t = true)) (eW : (wh = 0 ∨ wh = 4) ↔ pRd (zG σ) c t = true) (eW1 : ¬ (wh < 0)) (eW2 : ¬ ((5 : Int32) ≤ wh)) (eS : (se < 0) = (pTk (zG σ) c t = false)) (eV : pTk (zG σ) c t = true ∨ pRd (zG σ) c t = true → it + si = gB (zG σ) c t) (k : EndC P115 X0 σ n c t (cc + 14) (ss + 84) l1 l2) :
    w_L_hangs_440 P84 P115 1 l1 l2 (hz X0 + 1) (Int32.ofNat t) (sAnnex (zG σ) c t) (sReady (zG σ) c t) (sMis (zG σ) c t) (sTaken (zG σ) c t) 0 (sFr (zG σ) c t) (Int32.ofNat c) si it rm wh se cc ss X K := by
  obtain ⟨l, y, f9, a, k9, -, -, -, -, hf, hk, -, -, -, eA, -⟩ := nat_c (i.2.1 c hc) ht
  have ea : ¬ (gAn (zG σ) c t < 0) := by
    rw [eA]
    exact not_lt0 (by omega)
  have e490 : ∀ X1 cc1 ss1 (x : Int32), Wd X1 σ Z → cc1 ≤ cc + 4 → ss1 ≤ ss + 24 → w_L_hangs_490 P84 P115 1 l1 l2 (hz X0 + 1) (Int32.ofNat t) (sAnnex (zG σ) c t) (sReady (zG σ) c t) (sMis (zG σ) c t) (sTaken (zG σ) c t) 0 (sFr (zG σ) c t) (Int32.ofNat c) si it rm wh se x x cc1 ss1 X1 K := fun X1 cc1 ss1 x w1 g1 g2 => by
    have fin : ∀ X2 cc2 ss2, Wd X2 σ Z → cc2 ≤ cc + 8 → ss2 ≤ ss + 48 → w_L_hangs_525 P84 P115 1 l1 l2 (hz X0 + 1) (Int32.ofNat t) (sAnnex (zG σ) c t) (sReady (zG σ) c t) (sMis (zG σ) c t) (sTaken (zG σ) c t) 0 (sFr (zG σ) c t) (Int32.ofNat c) si it rm wh se 1 cc2 ss2 X2 K := fun X2 cc2 ss2 w2 g3 g4 => h_525 hX i hc ht (by omega) (by omega) lw w2 eI eR eW eS eV (fun X3 c3 s3 l3 g5 g6 => k X3 c3 s3 l3 (by omega) (by omega))
    refine ⟨fun h => absurd rfl h, fun _ => ⟨by omega, by omega, lg_annexedOf i hc ht X1 Z _ w1 (fun X2 w2 => ⟨fun h => absurd h ea, fun _ => ⟨fun h => fin X2 _ _ w2 (by omega) (by omega), fun h => ⟨by omega, by omega, lg_annexedOf i hc ht X2 Z _ w2 (fun X3 w3 => ⟨fun h3 => absurd ?_ h3, fun _ => fin X3 _ _ w3 (by omega) (by omega)⟩)⟩⟩⟩)⟩⟩
    have hp : pHas (zG σ) c t = false := by
      rw [← eI]
      exact Int32.not_lt.mp h
    exact ((hg.1 c hc t ht).1 hp).1
  have e469 : ∀ X1 cc1 ss1 (x : Int32), Wd X1 σ Z → cc1 ≤ cc + 2 → ss1 ≤ ss + 12 → w_L_hangs_469 P84 P115 1 l1 l2 (hz X0 + 1) (Int32.ofNat t) (sAnnex (zG σ) c t) (sReady (zG σ) c t) (sMis (zG σ) c t) (sTaken (zG σ) c t) 0 (sFr (zG σ) c t) (Int32.ofNat c) si it rm wh se x x cc1 ss1 X1 K := fun X1 cc1 ss1 x w1 g1 g2 => by
    refine ⟨fun h => absurd rfl h, fun _ => ⟨by omega, by omega, lg_isRecorded i hc ht X1 Z _ w1 (fun X2 w2 => ⟨fun h => ?_, fun h => ?_⟩)⟩⟩
    · rw [eS] at h
      rw [h]
      exact e490 X2 _ _ 0 w2 (by omega) (by omega)
    · rw [eS, Bool.not_eq_false] at h
      rw [h]
      exact e490 X2 _ _ 1 w2 (by omega) (by omega)
  refine ⟨fun h => absurd h eW1, fun _ => ⟨fun h => absurd h eW2, fun _ => ⟨by omega, by omega, lg_isTranslated i hc ht X Z _ w (fun X1 w1 => ⟨fun h => ?_, fun h => ?_⟩)⟩⟩⟩
  · rw [eI] at h
    rw [h]
    exact e469 X1 _ _ 0 w1 (by omega) (by omega)
  · rw [eI, Bool.not_eq_false] at h
    rw [h]
    exact e469 X1 _ _ 1 w1 (by omega) (by omega)
end HC
