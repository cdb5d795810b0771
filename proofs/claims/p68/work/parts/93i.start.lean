/-! the state at the start; the law -/
section PA2
def g00 : Row := fun n => if 312 ≤ n ∧ n < 327 then stm (n - 312) else 0
def s00 : St := (g00, 0, fun _ => g00, fun _ => 0, fun _ => g00, 0, fun _ => 0)
def fF : Nat → Nat → Int32 := f4q (f4 (fun _ _ => 0))
def LF : List (Nat × Nat) := L4q (L4 [])
theorem LF_b : ∀ a, a < 123 → ∀ k, k < 12 → (!(rfO a k) || ((LF.any (fun p => p.1 == a && p.2 == k) && decide (rT a k = (rfL.getD a []).getD k 0)) && (LF.any (fun p => p.1 == a + 122 && p.2 == k) && decide (rT (a + 122) k = (rfL.getD a []).getD k 0 + 122)))) = true := by decide +kernel
theorem LF_m {a k : Nat} (h : LF.any (fun p => p.1 == a && p.2 == k) = true) : (a, k) ∈ LF := by
  simp only [List.any_eq_true, Bool.and_eq_true, beq_iff_eq] at h
  obtain ⟨p, h1, h2, h3⟩ := h
  have : p = (a, k) := Prod.ext h2 h3
  rw [← this]
  exact h1
theorem LF_ok {a k : Nat} (ha : a < 123) (hk : k < 12) (h : rfO a k = true) : ((a, k) ∈ LF ∧ rT a k = (rfL.getD a []).getD k 0) ∧ (a + 122, k) ∈ LF ∧ rT (a + 122) k = (rfL.getD a []).getD k 0 + 122 := by
  have e := LF_b a ha k hk
  rw [h] at e
  simp only [Bool.not_true, Bool.false_or, Bool.and_eq_true, decide_eq_true_eq] at e
  obtain ⟨⟨h1, h2⟩, h3, h4⟩ := e
  exact ⟨⟨LF_m h1, h2⟩, LF_m h3, h4⟩
theorem rfL_n : rfL.length ≤ 123 ∧ ∀ l, l ∈ rfL → l.length ≤ 12 ∧ ∀ x, x ∈ l → x ≤ 122 := by decide +kernel
theorem rfO_b {a k : Nat} (h : rfO a k = true) : a < 123 ∧ k < 12 ∧ (rfL.getD a []).getD k 0 ≠ 0 ∧ (rfL.getD a []).getD k 0 ≤ 122 := by
  unfold rfO at h
  simp only [decide_eq_true_eq] at h
  have ha : a < rfL.length := by
    refine Decidable.byContradiction fun hx => ?_
    rw [List.getD_eq_getElem?_getD (l := rfL), List.getElem?_eq_none (by omega)] at h
    exact h rfl
  have hm : rfL.getD a [] ∈ rfL := by
    rw [List.getD_eq_getElem?_getD, List.getElem?_eq_getElem ha]
    exact List.getElem_mem ha
  obtain ⟨hl, hx⟩ := rfL_n.2 _ hm
  have hk : k < (rfL.getD a []).length := by
    refine Decidable.byContradiction fun hx => ?_
    rw [List.getD_eq_getElem?_getD (i := k), List.getElem?_eq_none (by omega)] at h
    exact h rfl
  refine ⟨by have := rfL_n.1; omega, by omega, h, hx _ ?_⟩
  rw [List.getD_eq_getElem?_getD (i := k), List.getElem?_eq_getElem hk]
  exact List.getElem_mem hk
theorem fF_tr : ∀ j, j < 12 → ∀ k, k < 72 → okT j k = true → fF (2 + j) k = g00 (posT j k) ∧ fF (124 + j) k = g00 (posT j k) := by decide +kernel
theorem LF_15 : ∀ k, k < 6 → (15, k) ∈ LF ∧ (137, k) ∈ LF := by decide +kernel
variable {X : XH}
theorem i_CS (h1 : ∀ j k, okT j k = true → hI X (2 + j) k = g00 (posT j k)) (h2 : hI X 14 1 = 0) (h3 : ∀ k, k < 6 → hR X 15 k = 16 + 12 * k) (h4 : ∀ k, k < 2 → hI X 113 k = 0) (h5 : hI X 114 1 = 0) : CS X s00 :=
  ⟨fun j k h => h1 j k h, ⟨h2, by decide, fun k => k, fun k hk => ⟨h3 k hk, hk⟩, fun i _ j _ e => e, fun k hk => absurd hk (Nat.not_lt_zero k)⟩, fun k hk => ⟨h4 k hk, Or.inl rfl, fun e => absurd e (by show ¬ ((0 : Int32) = 1); decide)⟩, ⟨h5, by decide, fun k hk => absurd hk (Nat.not_lt_zero k)⟩⟩
theorem tb_2 : ∀ a, a < 123 → a ≠ 0 → tyF (a + 122) = tyL.getD a 0 ∧ lnF (a + 122) = lnL.getD a 0 := by decide +kernel
theorem tb_1 : ∀ a, a < 123 → tyF a = tyL.getD a 0 ∧ lnF a = lnL.getD a 0 := by decide +kernel
theorem i_W2 (B : BI X 244 fF LF) : W2 X s00 s00 := by
  have hi : ∀ a, a ≤ 244 → ∀ k, hI X a k = fF a k := fun a ha k => (B.2.1 a ha).2.2 k
  have rr : ∀ {a k : Nat}, (a, k) ∈ LF → hR X a k = rT a k := fun h => (B.2.2.2 _ h).2
  refine ⟨⟨⟨by rw [B.1]; decide, fun a ha => ?_, fun a ha => ?_, fun a k h => ?_⟩, i_CS (fun j k h => ?_) ?_ (fun k hk => ?_) (fun k hk => ?_) ?_⟩, ⟨⟨by rw [swX_z, B.1]; decide, fun a ha => ?_, fun a ha => ?_, fun a k h => ?_⟩, i_CS (fun j k h => ?_) ?_ (fun k hk => ?_) (fun k hk => ?_) ?_⟩, by rw [B.1]; decide⟩
  · exact (B.2.1 a (by omega)).1.trans (tb_1 a (by omega)).1
  · exact (B.2.1 a (by omega)).2.1.trans (tb_1 a (by omega)).2
  · obtain ⟨g1, g2, -, -⟩ := rfO_b h
    obtain ⟨⟨m1, m2⟩, -⟩ := LF_ok g1 g2 h
    exact (rr m1).trans m2
  · obtain ⟨g1, g2⟩ := okT_j h
    rw [hi _ (by omega)]
    exact (fF_tr j g1 k g2 h).1
  · rw [hi _ (by decide)]
    decide +kernel
  · exact (rr (LF_15 k hk).1).trans rfl
  · rw [hi _ (by decide)]
    have : ∀ k, k < 2 → fF 113 k = 0 := by decide +kernel
    exact this k hk
  · rw [hi _ (by decide)]
    decide +kernel
  · by_cases h0 : a = 0
    · subst h0
      exact (B.2.1 0 (by decide)).1.trans (tb_1 0 (by decide)).1
    · rw [swX_ty, sw_lo h0 ha]
      exact (B.2.1 _ (by omega)).1.trans (tb_2 a (by omega) h0).1
  · by_cases h0 : a = 0
    · subst h0
      exact (B.2.1 0 (by decide)).2.1.trans (tb_1 0 (by decide)).2
    · rw [swX_ln, sw_lo h0 ha]
      exact (B.2.1 _ (by omega)).2.1.trans (tb_2 a (by omega) h0).2
  · obtain ⟨g1, g2, g3, g4⟩ := rfO_b h
    obtain ⟨-, m1, m2⟩ := LF_ok g1 g2 h
    have h0 : a ≠ 0 := fun e => by
      subst e
      exact g3 rfl
    rw [swX_R, sw_lo h0 (by omega), (rr m1).trans m2, sw_mid (by omega) (by omega)]
    omega
  · obtain ⟨g1, g2⟩ := okT_j h
    rw [swX_I, sw_lo (by omega) (by omega), hi _ (by omega), show 2 + j + 122 = 124 + j by omega]
    exact (fF_tr j g1 k g2 h).2
  · rw [swX_I, hi _ (by decide)]
    decide +kernel
  · rw [swX_R]
    have e : hR X (sw 15) k = 138 + 12 * k := (rr (LF_15 k hk).2).trans (by
      have : ∀ k, k < 6 → rT 137 k = 138 + 12 * k := by decide
      exact this k hk)
    rw [e, sw_mid (by omega) (by omega)]
    omega
  · rw [swX_I, hi _ (by decide)]
    have : ∀ k, k < 2 → fF (sw 113) k = 0 := by decide +kernel
    exact this k hk
  · rw [swX_I, hi _ (by decide)]
    decide +kernel
theorem i_Inv : Inv g00 0 := by
  refine ⟨⟨by decide, by decide⟩, fun c hc => absurd hc (Nat.not_lt_zero c), fun k hk _ => ?_, fun s hs t ht => ?_, fun r hr t ht => ?_, 0, by decide, by decide⟩
  · unfold g00
    rw [if_neg (by omega)]
  · have e : ∀ s, s < 5 → ∀ t, t < 3 → gSt g00 s t = Int32.ofNat (60 + 10 * t) ∧ gU g00 s t = Int32.ofNat 0 := by decide
    obtain ⟨e1, e2⟩ := e s hs t ht
    exact ⟨60 + 10 * t, 0, by omega, by omega, by omega, e1, e2⟩
  · have e : ∀ r, r < 4 → ∀ t, t < 3 → gM g00 r t = 0 ∧ gZ g00 r t = Int32.ofNat 0 := by decide
    obtain ⟨e1, e2⟩ := e r hr t ht
    exact ⟨Or.inl e1, 0, by decide, e2⟩
theorem i_Hg : Hg 0 g00 0 := by
  refine ⟨fun c hc => absurd hc (Nat.not_lt_zero c), fun t _ => Nat.zero_le 99, fun r hr t ht => ?_, by decide, 0, Nat.le_refl 0, by decide⟩
  have e : ∀ r, r < 4 → ∀ t, t < 3 → gM g00 r t = 0 ∧ gZ g00 r t = 0 := by decide
  obtain ⟨e1, e2⟩ := e r hr t ht
  refine ⟨fun h => absurd (e1.symm.trans h) (by decide), fun _ => e2, fun s hs h => ?_⟩
  unfold pSg at h
  rw [e2] at h
  exact absurd h (by revert s; decide)
theorem i_InvS : InvS 0 s00 := ⟨⟨0, i_Inv, i_Hg⟩, fun j hj => absurd hj (Nat.not_lt_zero j), fun k hk e => absurd e (by show ¬ ((0 : Int32) = 1); decide), fun k hk => absurd hk (Nat.not_lt_zero k)⟩
set_option maxRecDepth 20000 in
theorem i_law {G : GG} {K : Int32 → XH → Prop} (hG : G.1.stackTraces = false) (hM : G.2.2.1 ≤ 2048) (hK : ∀ X, K 1 X) (B : BI X 0 (fun _ _ => 0) []) : w_L_law G 0 X K := by
  unfold w_L_law
  simp only [B.1]
  refine i_X4 (B.N (by decide) (by decide)) (fun X1 B1 => ?_)
  simp only [B1.1]
  refine i_X4q (B1.N (by decide) (by decide)) (fun X2 B2 => ?_)
  have w := i_W2 B2
  have hw : (whR (zN s00) (uT s00) 61 0).2 = none := by decide +kernel
  have of1 := ok_firstError i_InvS
  rw [show Int32.ofNat (fErr s00) = 0 by decide +kernel] at of1
  refine oI (fun X K => am_L_undo hG) (rf_undo_0 rfl) w (fun X3 w3 => ⟨fun h => absurd rfl h, fun _ => ?_⟩)
  refine oI (fun X K => am_L_goBack hG) (rf_goBack_1 (σ := s00) (x := 0) (by decide) (show ¬ ((0 : Int32) = 1) by decide)) w3 (fun X4 w4 => ⟨fun h => absurd rfl h, fun _ => ⟨w4.t1, ?_⟩⟩)
  refine oI (fun X K => am_X4_firstError hG) of1 w4 (fun X5 w5 => ⟨fun h => absurd rfl h, fun _ => ?_⟩)
  refine oI (fun X K => am_L_load hG) (rf_load_0 (n := 0) i_InvS hw) w5 (fun X6 w6 => ⟨fun h => absurd rfl h, fun _ => ?_⟩)
  refine oHangs hG i_InvS (by decide) w6 (fun X7 w7 => ⟨fun h => absurd h (by decide), fun _ => ?_⟩)
  exact l_67 hG hM i_InvS w7 (fun X8 σ1 c1 s1 w8 i8 g1 g2 => l_185 hG hM hK i8 (by decide) w8 (by omega) (by omega))
end PA2
