/-! what hangs together stays so -/
section HV
theorem anyTo_iff {p : Nat → Bool} : ∀ {n : Nat}, anyTo p n = true ↔ ∃ i, i < n ∧ p i = true
  | 0 => ⟨fun h => (nomatch h), fun h => by obtain ⟨i, h, -⟩ := h; exact absurd h (Nat.not_lt_zero i)⟩
  | n + 1 => by
    show (anyTo p n || p n) = true ↔ _
    rw [Bool.or_eq_true, anyTo_iff]
    constructor
    · rintro (⟨i, hi, h⟩ | h)
      · exact ⟨i, by omega, h⟩
      · exact ⟨n, by omega, h⟩
    · rintro ⟨i, hi, h⟩
      by_cases e : i = n
      · subst e
        exact Or.inr h
      · exact Or.inl ⟨i, by omega, h⟩
def cntTo (p : Nat → Bool) : Nat → Nat
  | 0 => 0
  | i + 1 => cntTo p i + (if p i = true then 1 else 0)
theorem cnt_le (p : Nat → Bool) : ∀ i, cntTo p i ≤ i
  | 0 => Nat.le_refl 0
  | i + 1 => by
    have := cnt_le p i
    unfold cntTo
    split <;> omega
theorem cnt_sum (p : Nat → Bool) : ∀ i, sumTo (fun c => bi (p c) 1) i = Int32.ofNat (cntTo p i)
  | 0 => rfl
  | i + 1 => by
    unfold sumTo cntTo
    rw [cnt_sum p i]
    cases p i
    · exact Int32.add_zero _
    · exact of_s _
theorem cnt_0 {p : Nat → Bool} : ∀ {i : Nat}, cntTo p i = 0 ↔ ∀ k, k < i → p k = false
  | 0 => ⟨fun _ k hk => absurd hk (Nat.not_lt_zero k), fun _ => rfl⟩
  | i + 1 => by
    have ih := cnt_0 (p := p) (i := i)
    unfold cntTo
    constructor
    · intro h k hk
      by_cases e : k = i
      · subst e
        cases hp : p k
        · rfl
        · rw [hp, if_pos rfl] at h
          omega
      · exact ih.mp (by omega) k (by omega)
    · intro h
      rw [ih.mpr (fun k hk => h k (by omega)), h i (by omega)]
      rfl
theorem sum_cg {f f' : Nat → Int32} : ∀ {n : Nat}, (∀ i, i < n → f' i = f i) → sumTo f' n = sumTo f n
  | 0, _ => rfl
  | n + 1, h => by
    unfold sumTo
    rw [sum_cg (fun i hi => h i (by omega)), h n (by omega)]
theorem ad3 (a x y : Int32) : a + x + y = a + y + x := by ac_rfl
theorem sum_up {f f' : Nat → Int32} {c : Nat} : ∀ {n : Nat}, c < n → (∀ i, i < n → i ≠ c → f' i = f i) → sumTo f' n + f c = sumTo f n + f' c
  | 0, h, _ => absurd h (Nat.not_lt_zero c)
  | n + 1, hc, h => by
    unfold sumTo
    by_cases e : c = n
    · subst e
      rw [sum_cg (n := c) (f := f) (f' := f') (fun i hi => h i (by omega) (by omega))]
      exact ad3 _ _ _
    · rw [h n (by omega) (by omega), ad3, sum_up (n := n) (by omega) (fun i hi he => h i (by omega) he), ad3]
theorem nAn_cg {g g' : Row} {t : Nat} : ∀ {n : Nat}, (∀ i, i < n → gAn g' i t = gAn g i t) → nAn g' t n = nAn g t n
  | 0, _ => rfl
  | n + 1, h => by
    unfold nAn
    rw [nAn_cg (fun i hi => h i (by omega)), h n (by omega)]
theorem nAn_up {g g' : Row} {t c : Nat} : ∀ {n : Nat}, c < n → (∀ i, i < n → i ≠ c → gAn g' i t = gAn g i t) → nAn g' t n + (gAn g c t).toNatClampNeg = nAn g t n + (gAn g' c t).toNatClampNeg
  | 0, h, _ => absurd h (Nat.not_lt_zero c)
  | n + 1, hc, h => by
    unfold nAn
    by_cases e : c = n
    · subst e
      rw [nAn_cg (n := c) (g := g) (g' := g') (fun i hi => h i (by omega) (by omega))]
      omega
    · have := nAn_up (n := n) (g := g) (g' := g') (t := t) (c := c) (by omega) (fun i hi he => h i (by omega) he)
      rw [h n (by omega) (by omega)]
      omega
theorem nAn_sum {g : Row} {t : Nat} : ∀ {n : Nat}, (∀ c, c < n → ∃ a, gAn g c t = Int32.ofNat a ∧ a < 4096) → sAnnex g n t = Int32.ofNat (nAn g t n)
  | 0, _ => rfl
  | n + 1, h => by
    have e : sAnnex g (n + 1) t = sAnnex g n t + gAn g n t := rfl
    obtain ⟨a, ha, hb⟩ := h n (by omega)
    have e2 : nAn g t (n + 1) = nAn g t n + (gAn g n t).toNatClampNeg := rfl
    rw [e, e2, nAn_sum (n := n) (fun c hc => h c (by omega)), ha, nc hb, Int32.ofNat_add]
theorem Inv.an {g : Row} {n t : Nat} (i : Inv g n) (ht : t < 3) : ∀ c, c < n → ∃ a, gAn g c t = Int32.ofNat a ∧ a < 4096 := fun c hc => by
  obtain ⟨⟨f, a, hf, -, e⟩, -⟩ := (i.2.1 c hc).2.2.2 t ht
  exact ⟨a, e, by omega⟩
variable {g g' : Row} {n B r t c s : Nat}
theorem pHas_cg (e : gF g' c t = gF g c t) : pHas g' c t = pHas g c t := by
  unfold pHas
  rw [e]
theorem pTk_cg (e : gT g' c t = gT g c t) : pTk g' c t = pTk g c t := by
  unfold pTk
  rw [e]
theorem pFit_cg (e : gF g' c t = gF g c t) (eL : gL g' c = gL g c) (eH : gH g' c = gH g c) : pFit g' c t = pFit g c t := by
  unfold pFit
  rw [e, eL, eH]
theorem pSg_cg (e : gZ g' r t = gZ g r t) : pSg g' s r t = pSg g s r t := by
  unfold pSg
  rw [e]
theorem HgC.cg (h : HgC g c t) (eF : gF g' c t = gF g c t) (eA : gAn g' c t = gAn g c t) (eT : gT g' c t = gT g c t) (eL : pTk g c t = true → gL g' c = gL g c) (eH : pTk g c t = true → gH g' c = gH g c) (e7 : (g 367).toNatClampNeg ≤ (g' 367).toNatClampNeg) : HgC g' c t := by
  refine ⟨fun hp => ?_, fun hp => ?_⟩
  · rw [pHas_cg eF] at hp
    rw [eA, pTk_cg eT]
    exact h.1 hp
  · rw [pTk_cg eT] at hp
    rw [pFit_cg eF (eL hp) (eH hp), eT]
    exact ⟨(h.2 hp).1, Nat.le_trans (h.2 hp).2 (by omega)⟩
theorem HgR.cg {n' : Nat} (h : HgR g n r t) (eM : gM g' r t = gM g r t) (eZ : gZ g' r t = gZ g r t) (hn : n ≤ n') (eC : ∀ c, c < n → gR g' c = gR g c ∧ gS g' c = gS g c ∧ (pTk g c t = true → pTk g' c t = true)) (eN : ∀ c, c < n' → n ≤ c → gR g' c ≠ Int32.ofNat r) : HgR g' n' r t := by
  obtain ⟨a, b, d⟩ := h
  refine ⟨fun hm => ?_, fun hm => eZ.trans (b (fun e => hm (eM.trans e))), fun s hs hb => ?_⟩
  · obtain ⟨x, c, hc, e⟩ := a (eM.symm.trans hm)
    refine ⟨fun c hc e => ?_, c, by omega, (eC c hc).1.trans e⟩
    by_cases h9 : c < n
    · exact (eC c h9).2.2 (x c h9 ((eC c h9).1.symm.trans e))
    · exact absurd e (eN c hc (by omega))
  · rw [pSg_cg eZ] at hb
    obtain ⟨c, hc, e1, e2⟩ := d s hs hb
    exact ⟨c, by omega, (eC c hc).1.trans e1, (eC c hc).2.1.trans e2⟩
theorem sgn_0 : ∀ s, s < 5 → ¬ ((0 : Int32) >>> (Int32.ofNat s &&& 31)) &&& 1 = 1 := by decide
theorem HgR.nil (hm : gM g r t = 0) (hz : gZ g r t = 0) : HgR g n r t := by
  refine ⟨fun h => absurd (hm.symm.trans h) (by decide), fun _ => hz, fun s hs hb => ?_⟩
  unfold pSg at hb
  rw [hz] at hb
  exact absurd (of_decide_eq_true hb) (sgn_0 s hs)
theorem unmA_o {k : Nat} (hr : r < 4) (hk : k < 342 ∨ 366 ≤ k) : unmA g r k = g k := by
  unfold unmA unm upr
  repeat' split
  all_goals first | rfl | (exfalso; omega)
theorem unmA_r (hr : r < 4) (ht : t < 3) : gM (unmA g r) r t = 0 ∧ gZ (unmA g r) r t = 0 := by
  unfold gM gZ unmA unm upr
  constructor
  · repeat' split
    all_goals first | rfl | (exfalso; omega)
  · repeat' split
    all_goals first | rfl | (exfalso; omega)
theorem unmA_n {r' : Nat} (hr : r < 4) (hr' : r' < 4) (ne : r' ≠ r) (ht : t < 3) : gM (unmA g r) r' t = gM g r' t ∧ gZ (unmA g r) r' t = gZ g r' t := by
  unfold gM gZ unmA unm upr
  constructor
  · repeat' split
    all_goals first | rfl | (exfalso; omega)
  · repeat' split
    all_goals first | rfl | (exfalso; omega)
theorem ofr_ne {r r' : Nat} (hr : r < 4) (hr' : r' < 4) (ne : r' ≠ r) : Int32.ofNat r ≠ Int32.ofNat r' := fun e => ne ((of_inj (by omega) (by omega)).mp e).symm
/-- one clause has changed, not its reel, not its speaker, not what is recorded of it -/
theorem Hg.cl (i : Inv g n) (h : Hg B g n) (hc : c < n) (e : ∀ k, k < 13 * c ∨ 13 * c + 13 ≤ k → g' k = g k) (hC : ∀ t, t < 3 → HgC g' c t) (hA : ∀ t, t < 3 → nAn g' t n ≤ 99) (eR : gR g' c = gR g c) (eS : gS g' c = gS g c) (eT : ∀ t, t < 3 → gT g' c t = gT g c t) : Hg B g' n := by
  have hn2 := i.1.2
  obtain ⟨h1, h2, h3, h4, m, h5, h6⟩ := h
  have tk : ∀ c' t, c' < n → t < 3 → pTk g' c' t = pTk g c' t := fun c' t hc' ht => by
    by_cases hx : c' = c
    · rw [hx]
      exact pTk_cg (eT t ht)
    · exact pTk_cg (e _ (by omega))
  have tot : ∀ t, t < 3 → sTaken g' n t = sTaken g n t := fun t ht => sum_cg (fun c' hc' => by rw [tk c' t hc' ht])
  refine ⟨fun c' hc' t ht => ?_, hA, fun r hr t ht => (h3 r hr t ht).cg (e _ (by omega)) (e _ (by omega)) (Nat.le_refl n) (fun c' hc' => ?_) (fun c' hc' h9 => by omega), ?_, m, h5, (e _ (by omega)).trans h6⟩
  · by_cases hx : c' = c
    · rw [hx]
      exact hC t ht
    · exact (h1 c' hc' t ht).cg (e _ (by omega)) (e _ (by omega)) (e _ (by omega)) (fun _ => e _ (by omega)) (fun _ => e _ (by omega)) (by rw [e 367 (by omega)]; omega)
  · refine ⟨?_, ?_, fun hp => by rw [tk c' t hc' ht]; exact hp⟩
    · by_cases hx : c' = c
      · rw [hx]
        exact eR
      · exact e _ (by omega)
    · by_cases hx : c' = c
      · rw [hx]
        exact eS
      · exact e _ (by omega)
  · rw [tot 0 (by decide), tot 1 (by decide), tot 2 (by decide), e 368 (by omega), e 369 (by omega)]
    exact h4
/-- no clause has changed, nor a reel -/
theorem Hg.vo (i : Inv g n) (h : Hg B g n) (e : ∀ k, k < 312 ∨ (342 ≤ k ∧ k ≠ 367) → g' k = g k) (e7 : (g 367).toNatClampNeg ≤ (g' 367).toNatClampNeg) : Hg B g' n := by
  have hn2 := i.1.2
  obtain ⟨h1, h2, h3, h4, m, h5, h6⟩ := h
  have tot : ∀ t, t < 3 → sTaken g' n t = sTaken g n t := fun t ht => sum_cg (fun c' hc' => by rw [pTk_cg (e _ (by omega))])
  refine ⟨fun c' hc' t ht => (h1 c' hc' t ht).cg (e _ (by omega)) (e _ (by omega)) (e _ (by omega)) (fun _ => e _ (by omega)) (fun _ => e _ (by omega)) e7, fun t ht => ?_, fun r hr t ht => (h3 r hr t ht).cg (e _ (by omega)) (e _ (by omega)) (Nat.le_refl n) (fun c' hc' => ⟨e _ (by omega), e _ (by omega), fun hp => by rw [pTk_cg (e _ (by omega))]; exact hp⟩) (fun c' hc' h9 => by omega), ?_, m, h5, (e _ (by omega)).trans h6⟩
  · rw [nAn_cg (g := g) (fun c' hc' => e _ (by omega))]
    exact h2 t ht
  · rw [tot 0 (by decide), tot 1 (by decide), tot 2 (by decide), e 368 (by omega), e 369 (by omega)]
    exact h4
/-- reels alone have changed, and how many were mixed -/
theorem Hg.re {B' : Nat} (i : Inv g n) (h : Hg B g n) (e : ∀ k, k < 342 ∨ (366 ≤ k ∧ k < 370) → g' k = g k) (hR : ∀ r, r < 4 → ∀ t, t < 3 → HgR g' n r t) (hm : ∃ m, m ≤ B' ∧ g' 370 = Int32.ofNat m) : Hg B' g' n := by
  have hn2 := i.1.2
  obtain ⟨h1, h2, h3, h4, m, h5, h6⟩ := h
  have tot : ∀ t, t < 3 → sTaken g' n t = sTaken g n t := fun t ht => sum_cg (fun c' hc' => by rw [pTk_cg (e _ (by omega))])
  refine ⟨fun c' hc' t ht => (h1 c' hc' t ht).cg (e _ (by omega)) (e _ (by omega)) (e _ (by omega)) (fun _ => e _ (by omega)) (fun _ => e _ (by omega)) (by rw [e 367 (by omega)]; omega), fun t ht => ?_, hR, ?_, hm⟩
  · rw [nAn_cg (g := g) (fun c' hc' => e _ (by omega))]
    exact h2 t ht
  · rw [tot 0 (by decide), tot 1 (by decide), tot 2 (by decide), e 368 (by omega), e 369 (by omega)]
    exact h4
theorem Hg.add {S L Y : Int32} (i : Inv g n) (h : Hg B g n) (h24 : n < 24) (hr : r < 4) : Hg B (addG g n r S L Y) (n + 1) := by
  obtain ⟨h1, h2, h3, h4, m, h5, h6⟩ := h
  have e : ∀ k, k < 342 ∨ 366 < k → k ≠ 13 * n → k ≠ 13 * n + 1 → k ≠ 13 * n + 2 → k ≠ 13 * n + 3 → addG g n r S L Y k = g k := fun k hk e1 e2 e3 e4 => by
    unfold addG
    rw [unmA_o hr (by omega), upr_ne (by omega), upr_ne e4, upr_ne e3, upr_ne e2, upr_ne e1]
  have z : ∀ j, 4 ≤ j → j < 13 → addG g n r S L Y (13 * n + j) = 0 := fun j h4 h13 => (e _ (by omega) (by omega) (by omega) (by omega) (by omega)).trans (i.2.2.1 _ (by omega) (by omega))
  have eRn : gR (addG g n r S L Y) n = Int32.ofNat r := by
    unfold gR addG
    rw [unmA_o hr (by omega), upr_ne (by omega), upr_ne (by omega), upr_ne (by omega), upr_ne (by omega), upr_eq]
  have zF : ∀ t, t < 3 → gF (addG g n r S L Y) n t = 0 := fun t ht => by
    have := z (4 + t) (by omega) (by omega)
    rw [← Nat.add_assoc] at this
    exact this
  have zA : ∀ t, t < 3 → gAn (addG g n r S L Y) n t = 0 := fun t ht => by
    have := z (7 + t) (by omega) (by omega)
    rw [← Nat.add_assoc] at this
    exact this
  have zT : ∀ t, t < 3 → pTk (addG g n r S L Y) n t = false := fun t ht => by
    have := z (10 + t) (by omega) (by omega)
    rw [← Nat.add_assoc] at this
    unfold pTk
    rw [show gT (addG g n r S L Y) n t = 0 from this]
    decide
  have tk : ∀ c t, c < n → t < 3 → pTk (addG g n r S L Y) c t = pTk g c t := fun c t hc ht => pTk_cg (e _ (by omega) (by omega) (by omega) (by omega) (by omega))
  have tot : ∀ t, t < 3 → sTaken (addG g n r S L Y) (n + 1) t = sTaken g n t := fun t ht => by
    have e1 : sTaken (addG g n r S L Y) (n + 1) t = sTaken (addG g n r S L Y) n t + bi (pTk (addG g n r S L Y) n t) 1 := rfl
    rw [e1, zT t ht, bi_f, Int32.add_zero]
    exact sum_cg (fun c hc => by rw [tk c t hc ht])
  refine ⟨fun c hc t ht => ?_, fun t ht => ?_, fun r' hr' t ht => ?_, ?_, m, h5, (e _ (by omega) (by omega) (by omega) (by omega) (by omega)).trans h6⟩
  · by_cases hx : c = n
    · rw [hx]
      exact ⟨fun _ => ⟨zA t ht, zT t ht⟩, fun hp => absurd (hp.symm.trans (zT t ht)) (by decide)⟩
    · exact (h1 c (by omega) t ht).cg (e _ (by omega) (by omega) (by omega) (by omega) (by omega)) (e _ (by omega) (by omega) (by omega) (by omega) (by omega)) (e _ (by omega) (by omega) (by omega) (by omega) (by omega)) (fun _ => e _ (by omega) (by omega) (by omega) (by omega) (by omega)) (fun _ => e _ (by omega) (by omega) (by omega) (by omega) (by omega)) (by rw [e 367 (by omega) (by omega) (by omega) (by omega) (by omega)]; omega)
  · have e2 : nAn (addG g n r S L Y) t (n + 1) = nAn (addG g n r S L Y) t n + (gAn (addG g n r S L Y) n t).toNatClampNeg := rfl
    have e3 : nAn (addG g n r S L Y) t n = nAn g t n := nAn_cg (fun c hc => e _ (by omega) (by omega) (by omega) (by omega) (by omega))
    rw [e2, e3, zA t ht]
    exact h2 t ht
  · by_cases hx : r' = r
    · rw [hx]
      exact HgR.nil (unmA_r hr ht).1 (unmA_r hr ht).2
    · have eM : gM (addG g n r S L Y) r' t = gM g r' t := by
        unfold addG
        rw [(unmA_n hr hr' hx ht).1]
        exact (upr_ne (by omega)).trans ((upr_ne (by omega)).trans ((upr_ne (by omega)).trans ((upr_ne (by omega)).trans (upr_ne (by omega)))))
      have eZ : gZ (addG g n r S L Y) r' t = gZ g r' t := by
        unfold addG
        rw [(unmA_n hr hr' hx ht).2]
        exact (upr_ne (by omega)).trans ((upr_ne (by omega)).trans ((upr_ne (by omega)).trans ((upr_ne (by omega)).trans (upr_ne (by omega)))))
      refine (h3 r' hr' t ht).cg eM eZ (by omega) (fun c hc => ⟨e _ (by omega) (by omega) (by omega) (by omega) (by omega), e _ (by omega) (by omega) (by omega) (by omega) (by omega), fun hp => by rw [tk c t hc ht]; exact hp⟩) (fun c hc h9 => ?_)
      rw [show c = n by omega, eRn]
      exact ofr_ne hr hr' hx
  · rw [tot 0 (by decide), tot 1 (by decide), tot 2 (by decide), e 368 (by omega) (by omega) (by omega) (by omega) (by omega), e 369 (by omega) (by omega) (by omega) (by omega) (by omega)]
    exact h4
theorem Hg.addL : ∀ (l : List R4) (g : Row) (n : Nat), Inv g n → Hg B g n → n + l.length ≤ 24 → okL l → sgOk l = true → Hg B (addL g n l) (n + l.length)
  | [], _, _, _, h, _, _, _ => h
  | x :: l, g, n, i, h, hl, ho, hs => by
    rw [List.length_cons] at hl ⊢
    simp only [sgOk, Bool.and_eq_true, decide_eq_true_eq] at hs
    obtain ⟨⟨o1, o2, o3, o4, o5⟩, o6⟩ := ho
    have i1 := i.add (by omega) o1 o2 o3 o4 o5 hs.1
    have := Hg.addL l _ (n + 1) i1 (h.add i (by omega) o1) (by omega) o6 hs.2
    rw [show n + (l.length + 1) = n + 1 + l.length by omega]
    exact this
end HV
