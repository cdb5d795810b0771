/-! what hangs together stays so: call by call -/
section HW
variable {g g' : Row} {n B r t c s l : Nat} {σ : St}
theorem nAn_le (h : nAn g t n ≤ 99) (he : ∀ i, i < n → gAn g' i t = gAn g i t) : nAn g' t n ≤ 99 := by
  rw [nAn_cg he]
  exact h
theorem pWh_iff {a : Int32} (hn : n ≤ 24) : pWh g n a t = true ↔ (∀ c, c < n → gR g c = a → pTk g c t = true) ∧ ∃ c, c < n ∧ gR g c = a := by
  have e1 : sMany g n a = Int32.ofNat (cntTo (fun c => decide (gR g c = a)) n) := cnt_sum _ n
  have h24 := cnt_le (fun c => decide (gR g c = a)) n
  have e2 : (sMany g n a ≤ 0) = (cntTo (fun c => decide (gR g c = a)) n = 0) := by
    rw [e1, show (0 : Int32) = Int32.ofNat 0 from rfl, of_le (by omega) (by omega)]
    exact propext ⟨fun h => by omega, fun h => by omega⟩
  unfold pWh
  rw [Bool.and_eq_true, Bool.not_eq_true', Bool.not_eq_true', decide_eq_false_iff_not, e2, cnt_0]
  constructor
  · rintro ⟨h1, h2⟩
    refine ⟨fun c hc e => ?_, ?_⟩
    · cases hp : pTk g c t
      · have := (anyTo_iff (p := fun c => decide (gR g c = a) && !(pTk g c t))).mpr ⟨c, hc, by simp [e, hp]⟩
        rw [this] at h1
        exact nomatch h1
      · rfl
    · refine Decidable.byContradiction fun hx => h2 fun k hk => ?_
      exact decide_eq_false fun e => hx ⟨k, hk, e⟩
  · rintro ⟨h1, c, hc, e⟩
    refine ⟨?_, fun hx => ?_⟩
    · cases hp : anyTo (fun c => decide (gR g c = a) && !(pTk g c t)) n
      · rfl
      · obtain ⟨i, hi, h3⟩ := anyTo_iff.mp hp
        rw [Bool.and_eq_true, decide_eq_true_eq, Bool.not_eq_true'] at h3
        rw [h1 i hi h3.1] at h3
        exact nomatch h3.2
    · have := hx c hc
      rw [decide_eq_true e] at this
      exact nomatch this
theorem pHd_iff {a b : Int32} : pHd g n a b = true ↔ ∃ c, c < n ∧ gR g c = b ∧ gS g c = a := by
  unfold pHd
  rw [anyTo_iff]
  constructor
  · rintro ⟨i, hi, h⟩
    rw [Bool.and_eq_true, decide_eq_true_eq, decide_eq_true_eq] at h
    exact ⟨i, hi, h.1, h.2⟩
  · rintro ⟨i, hi, h1, h2⟩
    exact ⟨i, hi, by simp [h1, h2]⟩
theorem pTA_f (h : pTA g c = false) : ∀ t, t < 3 → pTk g c t = false := fun t ht => by
  unfold pTA at h
  rw [Bool.or_eq_false_iff, Bool.or_eq_false_iff] at h
  rcases (show t = 0 ∨ t = 1 ∨ t = 2 by omega) with rfl | rfl | rfl
  · exact h.1
  · exact h.2.1
  · exact h.2.2
theorem nap {b : Bool} {P : Prop} (h1 : b = false) (h2 : b = true) : P := absurd (h1.symm.trans h2) (by decide)
theorem gRs0 (h : gRs g c t = 0) : pHas g c t = true ∧ pTk g c t = false ∧ pFit g c t = true := by
  unfold gRs at h
  cases h1 : pHas g c t
  · rw [h1, if_pos rfl] at h
    exact absurd h (by decide)
  · rw [h1, if_neg (by decide)] at h
    cases h2 : pTk g c t
    · rw [h2, if_neg (by decide)] at h
      cases h3 : pFit g c t
      · rw [h3, if_pos rfl] at h
        exact absurd h (by decide)
      · exact ⟨rfl, rfl, rfl⟩
    · rw [h2, if_pos rfl] at h
      exact absurd h (by decide)
theorem Hg.lips (i : Inv g n) (h : Hg B g n) (hc : c < n) (hp : pTA g c = false) {v : Int32} : Hg B (upr g (13 * c + 2) v) n := by
  refine Hg.cl i h hc (fun k hk => upr_ne (by omega)) (fun t ht => ?_) (fun t ht => ?_) (upr_ne (by omega)) (upr_ne (by omega)) (fun t ht => upr_ne (by omega))
  · have hn := pTA_f hp t ht
    exact (h.1 c hc t ht).cg (upr_ne (by omega)) (upr_ne (by omega)) (upr_ne (by omega)) (fun hx => nap hn hx) (fun hx => nap hn hx) (by rw [upr_ne (by have := i.1.2; omega)]; omega)
  · exact nAn_le (h.2.1 t ht) (fun c' hc' => upr_ne (by omega))
theorem Hg.sigh (i : Inv g n) (h : Hg B g n) (hc : c < n) (hp : pTA g c = false) {v : Int32} : Hg B (upr g (13 * c + 3) v) n := by
  refine Hg.cl i h hc (fun k hk => upr_ne (by omega)) (fun t ht => ?_) (fun t ht => ?_) (upr_ne (by omega)) (upr_ne (by omega)) (fun t ht => upr_ne (by omega))
  · have hn := pTA_f hp t ht
    exact (h.1 c hc t ht).cg (upr_ne (by omega)) (upr_ne (by omega)) (upr_ne (by omega)) (fun hx => nap hn hx) (fun hx => nap hn hx) (by rw [upr_ne (by have := i.1.2; omega)]; omega)
  · exact nAn_le (h.2.1 t ht) (fun c' hc' => upr_ne (by omega))
theorem Hg.move (i : Inv g n) (h : Hg B g n) (hc : c < n) (hr : r < 4) (hp : pTA g c = false) : Hg B (unmA (upr g (13 * c) (Int32.ofNat r)) r) n := by
  have hn2 := i.1.2
  obtain ⟨h1, h2, h3, h4, m, h5, h6⟩ := h
  have e : ∀ k, k < 342 ∨ 366 ≤ k → k ≠ 13 * c → unmA (upr g (13 * c) (Int32.ofNat r)) r k = g k := fun k hk e1 => (unmA_o hr hk).trans (upr_ne e1)
  have eRc : gR (unmA (upr g (13 * c) (Int32.ofNat r)) r) c = Int32.ofNat r := (unmA_o hr (by omega)).trans upr_eq
  have tk : ∀ c' t, c' < n → t < 3 → pTk (unmA (upr g (13 * c) (Int32.ofNat r)) r) c' t = pTk g c' t := fun c' t hc' ht => pTk_cg (e _ (by omega) (by omega))
  have tot : ∀ t, t < 3 → sTaken (unmA (upr g (13 * c) (Int32.ofNat r)) r) n t = sTaken g n t := fun t ht => sum_cg (fun c' hc' => by rw [tk c' t hc' ht])
  refine ⟨fun c' hc' t ht => (h1 c' hc' t ht).cg (e _ (by omega) (by omega)) (e _ (by omega) (by omega)) (e _ (by omega) (by omega)) (fun _ => e _ (by omega) (by omega)) (fun _ => e _ (by omega) (by omega)) (by rw [e 367 (by omega) (by omega)]; omega), fun t ht => ?_, fun r' hr' t ht => ?_, ?_, m, h5, (e _ (by omega) (by omega)).trans h6⟩
  · exact nAn_le (h2 t ht) (fun c' hc' => e _ (by omega) (by omega))
  · by_cases hx : r' = r
    · rw [hx]
      exact HgR.nil (unmA_r hr ht).1 (unmA_r hr ht).2
    · have eM : gM (unmA (upr g (13 * c) (Int32.ofNat r)) r) r' t = gM g r' t := (unmA_n hr hr' hx ht).1.trans (upr_ne (by omega))
      have eZ : gZ (unmA (upr g (13 * c) (Int32.ofNat r)) r) r' t = gZ g r' t := (unmA_n hr hr' hx ht).2.trans (upr_ne (by omega))
      obtain ⟨a, b, d⟩ := h3 r' hr' t ht
      have eo : ∀ c', c' < n → c' ≠ c → gR (unmA (upr g (13 * c) (Int32.ofNat r)) r) c' = gR g c' := fun c' hc' hne => e _ (by omega) (by omega)
      have nc' : ∀ c', c' < n → gR (unmA (upr g (13 * c) (Int32.ofNat r)) r) c' = Int32.ofNat r' → c' ≠ c := fun c' hc' e1 e2 => by
        rw [e2, eRc] at e1
        exact ofr_ne hr hr' hx e1
      have nt : ∀ c', pTk g c' t = true → c' ≠ c := fun c' h9 e2 => by
        rw [e2] at h9
        exact nap (pTA_f hp t ht) h9
      refine ⟨fun hm => ?_, fun hm => eZ.trans (b (fun e1 => hm (eM.trans e1))), fun s hs hb => ?_⟩
      · obtain ⟨x, c0, hc0, e0⟩ := a (eM.symm.trans hm)
        refine ⟨fun c' hc' e1 => ?_, c0, hc0, (eo c0 hc0 (nt c0 (x c0 hc0 e0))).trans e0⟩
        rw [tk c' t hc' ht]
        exact x c' hc' ((eo c' hc' (nc' c' hc' e1)).symm.trans e1)
      · rw [pSg_cg eZ] at hb
        obtain ⟨c0, hc0, e0, e9⟩ := d s hs hb
        have hm : gM g r' t = 1 := Decidable.byContradiction fun hx => by
          have hz := b hx
          unfold pSg at hb
          rw [hz] at hb
          exact absurd (of_decide_eq_true hb) (sgn_0 s hs)
        exact ⟨c0, hc0, (eo c0 hc0 (nt c0 ((a hm).1 c0 hc0 e0))).trans e0, (e _ (by omega) (by omega)).trans e9⟩
  · rw [tot 0 (by decide), tot 1 (by decide), tot 2 (by decide), e 368 (by omega) (by omega), e 369 (by omega) (by omega)]
    exact h4
/-- frames and annex of one clause in one tongue have changed -/
theorem Hg.fa {f a : Nat} (i : Inv g n) (h : Hg B g n) (hc : c < n) (ht : t < 3) (hp : pTk g c t = false) (hf : 1 ≤ f) (hf2 : f < 4096) (ha : nAn g t n + a ≤ 99 + (gAn g c t).toNatClampNeg) (ha2 : a < 4096) : Hg B (upr (upr g (13 * c + 4 + t) (Int32.ofNat f)) (13 * c + 7 + t) (Int32.ofNat a)) n := by
  obtain ⟨g', hG⟩ : ∃ g', g' = upr (upr g (13 * c + 4 + t) (Int32.ofNat f)) (13 * c + 7 + t) (Int32.ofNat a) := ⟨_, rfl⟩
  rw [← hG]
  have hn2 := i.1.2
  have e : ∀ k, k ≠ 13 * c + 4 + t → k ≠ 13 * c + 7 + t → g' k = g k := fun k e1 e2 => by
    rw [hG]
    exact (upr_ne e2).trans (upr_ne e1)
  refine Hg.cl i h hc (fun k hk => e k (by omega) (by omega)) (fun t' ht' => ?_) (fun t' ht' => ?_) (e _ (by omega) (by omega)) (e _ (by omega) (by omega)) (fun t' ht' => e _ (by omega) (by omega))
  · by_cases hx : t' = t
    · rw [hx]
      have eT : pTk g' c t = false := (pTk_cg (e _ (by omega) (by omega))).trans hp
      have eF : gF g' c t = Int32.ofNat f := by
        rw [hG]
        exact (upr_ne (by omega)).trans upr_eq
      have eP : pHas g' c t = true := by
        unfold pHas
        rw [eF]
        have : ¬ (Int32.ofNat f ≤ 0) := by
          rw [show (0 : Int32) = Int32.ofNat 0 from rfl, of_le hf2 (by decide)]
          omega
        simp [this]
      exact ⟨fun hx => nap hx eP, fun hx => nap eT hx⟩
    · exact (h.1 c hc t' ht').cg (e _ (by omega) (by omega)) (e _ (by omega) (by omega)) (e _ (by omega) (by omega)) (fun _ => e _ (by omega) (by omega)) (fun _ => e _ (by omega) (by omega)) (by rw [e 367 (by omega) (by omega)]; omega)
  · by_cases hx : t' = t
    · rw [hx]
      have e1 := nAn_up (g := g) (g' := g') (t := t) hc (fun c' hc' hne => e _ (by omega) (by omega))
      have e2 : gAn g' c t = Int32.ofNat a := by
        rw [hG]
        exact upr_eq
      rw [e2, nc ha2] at e1
      omega
    · exact nAn_le (h.2.1 t' ht') (fun c' hc' => e _ (by omega) (by omega))
theorem Hg.rec (i : Inv g n) (h : Hg B g n) (hc : c < n) (ht : t < 3) (hs : s < 5) (h0 : gRs g c t = 0) : Hg B (takeG g c t s) n := by
  obtain ⟨g', hG⟩ : ∃ g', g' = takeG g c t s := ⟨_, rfl⟩
  rw [← hG]
  have hn2 := i.1.2
  obtain ⟨p1, p2, p3⟩ := gRs0 h0
  obtain ⟨e9, he9, eE⟩ := i.2.2.2.2.2
  obtain ⟨h1, h2, h3, h4, m, h5, h6⟩ := h
  have e : ∀ k, k ≠ 13 * c + 10 + t → k < 312 ∨ 342 ≤ k → k ≠ 368 → g' k = g k := fun k e1 e2 e3 => by
    rw [hG]
    unfold takeG
    rw [upr_ne e3, upr_ne e1, upr_ne (by omega)]
  have eT : gT g' c t = Int32.ofNat (e9 + 1) := by
    rw [hG]
    unfold takeG
    refine (upr_ne (by omega)).trans (upr_eq.trans ?_)
    rw [eE, of_s]
  have eK : pTk g' c t = true := by
    unfold pTk
    rw [eT]
    have : ¬ (Int32.ofNat (e9 + 1) ≤ 0) := by
      rw [show (0 : Int32) = Int32.ofNat 0 from rfl, of_le (by omega) (by decide)]
      omega
    rw [decide_eq_false this]
    rfl
  have tk : ∀ c' t', c' < n → t' < 3 → ¬ (c' = c ∧ t' = t) → pTk g' c' t' = pTk g c' t' := fun c' t' hc' ht' hne => pTk_cg (e _ (by omega) (by omega) (by omega))
  have up : sTaken g' n t = sTaken g n t + 1 := by
    have := sum_up (f := fun c => bi (pTk g c t) 1) (f' := fun c' => bi (pTk g' c' t) 1) hc (fun c' hc' hne => by rw [tk c' t hc' ht (by omega)])
    simp only [p2, eK, bi_f, bi_t, Int32.add_zero] at this
    exact this
  have ot : ∀ t', t' < 3 → t' ≠ t → sTaken g' n t' = sTaken g n t' := fun t' ht' hne => sum_cg (fun c' hc' => by rw [tk c' t' hc' ht' (by omega)])
  have e68 : g' 368 = g 368 + 1 := by
    rw [hG]
    exact upr_eq
  refine ⟨fun c' hc' t' ht' => ?_, fun t' ht' => ?_, fun r hr t' ht' => (h3 r hr t' ht').cg (e _ (by omega) (by omega) (by omega)) (e _ (by omega) (by omega) (by omega)) (Nat.le_refl n) (fun c' hc' => ⟨e _ (by omega) (by omega) (by omega), e _ (by omega) (by omega) (by omega), fun hp => ?_⟩) (fun c' hc' h9 => by omega), ?_, m, h5, (e _ (by omega) (by omega) (by omega)).trans h6⟩
  · by_cases hx : c' = c ∧ t' = t
    · rw [hx.1, hx.2]
      refine ⟨fun hp => ?_, fun _ => ⟨?_, ?_⟩⟩
      · rw [pHas_cg (e _ (by omega) (by omega) (by omega))] at hp
        exact nap hp p1
      · rw [pFit_cg (e _ (by omega) (by omega) (by omega)) (e _ (by omega) (by omega) (by omega)) (e _ (by omega) (by omega) (by omega))]
        exact p3
      · rw [eT, e 367 (by omega) (by omega) (by omega), eE, nc (by omega), nc (by omega)]
        omega
    · exact (h1 c' hc' t' ht').cg (e _ (by omega) (by omega) (by omega)) (e _ (by omega) (by omega) (by omega)) (e _ (by omega) (by omega) (by omega)) (fun _ => e _ (by omega) (by omega) (by omega)) (fun _ => e _ (by omega) (by omega) (by omega)) (by rw [e 367 (by omega) (by omega) (by omega)]; omega)
  · exact nAn_le (h2 t' ht') (fun c' hc' => e _ (by omega) (by omega) (by omega))
  · by_cases hx : c' = c ∧ t' = t
    · rw [hx.1, hx.2]
      exact eK
    · rw [tk c' t' hc' ht' hx]
      exact hp
  · rw [e68, e 369 (by omega) (by omega) (by omega), Int32.eq_sub_iff_add_eq]
    have h4' := Int32.eq_sub_iff_add_eq.mp h4
    rw [← h4']
    rcases (show t = 0 ∨ t = 1 ∨ t = 2 by omega) with rfl | rfl | rfl
    · rw [up, ot 1 (by decide) (by decide), ot 2 (by decide) (by decide)]
      ac_rfl
    · rw [up, ot 0 (by decide) (by decide), ot 2 (by decide) (by decide)]
      ac_rfl
    · rw [up, ot 0 (by decide) (by decide), ot 1 (by decide) (by decide)]
      ac_rfl
theorem Hg.wipe (i : Inv g n) (h : Hg B g n) (hc : c < n) (ht : t < 3) (hr : r < 4) (eR : gR g c = Int32.ofNat r) (p : pTk g c t = true) : Hg B (unm (upr (upr g (13 * c + 10 + t) 0) 369 (g 369 + 1)) r t) n := by
  obtain ⟨g', hG⟩ : ∃ g', g' = unm (upr (upr g (13 * c + 10 + t) 0) 369 (g 369 + 1)) r t := ⟨_, rfl⟩
  rw [← hG]
  have hn2 := i.1.2
  obtain ⟨h1, h2, h3, h4, m, h5, h6⟩ := h
  have e : ∀ k, k ≠ 13 * c + 10 + t → k ≠ 369 → k ≠ 342 + (3 * r + t) → k ≠ 354 + (3 * r + t) → g' k = g k := fun k e1 e2 e3 e4 => by
    rw [hG]
    unfold unm
    rw [upr_ne e4, upr_ne e3, upr_ne e2, upr_ne e1]
  have eK : pTk g' c t = false := by
    have : gT g' c t = 0 := by
      rw [hG]
      exact (upr_ne (by omega)).trans ((upr_ne (by omega)).trans ((upr_ne (by omega)).trans upr_eq))
    unfold pTk
    rw [this]
    decide
  have e69 : g' 369 = g 369 + 1 := by
    rw [hG]
    exact (upr_ne (by omega)).trans ((upr_ne (by omega)).trans upr_eq)
  have tk : ∀ c' t', c' < n → t' < 3 → ¬ (c' = c ∧ t' = t) → pTk g' c' t' = pTk g c' t' := fun c' t' hc' ht' hne => pTk_cg (e _ (by omega) (by omega) (by omega) (by omega))
  have up : sTaken g' n t + 1 = sTaken g n t := by
    have := sum_up (f := fun c => bi (pTk g c t) 1) (f' := fun c' => bi (pTk g' c' t) 1) hc (fun c' hc' hne => by rw [tk c' t hc' ht (by omega)])
    simp only [p, eK, bi_f, bi_t, Int32.add_zero] at this
    exact this
  have ot : ∀ t', t' < 3 → t' ≠ t → sTaken g' n t' = sTaken g n t' := fun t' ht' hne => sum_cg (fun c' hc' => by rw [tk c' t' hc' ht' (by omega)])
  refine ⟨fun c' hc' t' ht' => ?_, fun t' ht' => ?_, fun r' hr' t' ht' => ?_, ?_, m, h5, (e _ (by omega) (by omega) (by omega) (by omega)).trans h6⟩
  · by_cases hx : c' = c ∧ t' = t
    · rw [hx.1, hx.2]
      refine ⟨fun hp => ?_, fun hp => nap eK hp⟩
      rw [pHas_cg (e _ (by omega) (by omega) (by omega) (by omega))] at hp
      exact nap ((h1 c hc t ht).1 hp).2 p
    · exact (h1 c' hc' t' ht').cg (e _ (by omega) (by omega) (by omega) (by omega)) (e _ (by omega) (by omega) (by omega) (by omega)) (e _ (by omega) (by omega) (by omega) (by omega)) (fun _ => e _ (by omega) (by omega) (by omega) (by omega)) (fun _ => e _ (by omega) (by omega) (by omega) (by omega)) (by rw [e 367 (by omega) (by omega) (by omega) (by omega)]; omega)
  · exact nAn_le (h2 t' ht') (fun c' hc' => e _ (by omega) (by omega) (by omega) (by omega))
  · by_cases hx : r' = r ∧ t' = t
    · rw [hx.1, hx.2]
      refine HgR.nil ?_ ?_
      · rw [hG]
        exact (upr_ne (by omega)).trans upr_eq
      · rw [hG]
        exact upr_eq
    · have eM : gM g' r' t' = gM g r' t' := e _ (by omega) (by omega) (by omega) (by omega)
      have eZ : gZ g' r' t' = gZ g r' t' := e _ (by omega) (by omega) (by omega) (by omega)
      have eo : ∀ c', c' < n → gR g' c' = gR g c' := fun c' hc' => e _ (by omega) (by omega) (by omega) (by omega)
      obtain ⟨a, b, d⟩ := h3 r' hr' t' ht'
      refine ⟨fun hm => ?_, fun hm => eZ.trans (b (fun e1 => hm (eM.trans e1))), fun s hs hb => ?_⟩
      · obtain ⟨x, c0, hc0, e0⟩ := a (eM.symm.trans hm)
        refine ⟨fun c' hc' e1 => ?_, c0, hc0, (eo c0 hc0).trans e0⟩
        have e1' := (eo c' hc').symm.trans e1
        rw [tk c' t' hc' ht' (fun hy => ?_)]
        · exact x c' hc' e1'
        · rw [hy.1, eR] at e1'
          exact hx ⟨((of_inj (by omega) (by omega)).mp e1').symm, hy.2⟩
      · rw [pSg_cg eZ] at hb
        obtain ⟨c0, hc0, e0, e9⟩ := d s hs hb
        exact ⟨c0, hc0, (eo c0 hc0).trans e0, (e _ (by omega) (by omega) (by omega) (by omega)).trans e9⟩
  · rw [e69, e 368 (by omega) (by omega) (by omega) (by omega), Int32.eq_sub_iff_add_eq]
    have h4' := Int32.eq_sub_iff_add_eq.mp h4
    rw [← h4']
    rcases (show t = 0 ∨ t = 1 ∨ t = 2 by omega) with rfl | rfl | rfl
    · rw [← up, ot 1 (by decide) (by decide), ot 2 (by decide) (by decide)]
      ac_rfl
    · rw [← up, ot 0 (by decide) (by decide), ot 2 (by decide) (by decide)]
      ac_rfl
    · rw [← up, ot 0 (by decide) (by decide), ot 1 (by decide) (by decide)]
      ac_rfl
theorem Hg.mix (i : Inv g n) (h : Hg B g n) (hr : r < 4) (ht : t < 3) (p1 : pMx g r t = false) (p2 : pWh g n (Int32.ofNat r) t = true) : Hg (B + 1) (upr (upr g (342 + (3 * r + t)) 1) 370 (g 370 + 1)) n := by
  obtain ⟨g', hG⟩ : ∃ g', g' = upr (upr g (342 + (3 * r + t)) 1) 370 (g 370 + 1) := ⟨_, rfl⟩
  rw [← hG]
  have e : ∀ k, k ≠ 342 + (3 * r + t) → k ≠ 370 → g' k = g k := fun k e1 e2 => by
    rw [hG]
    exact (upr_ne e2).trans (upr_ne e1)
  have hn2 := i.1.2
  have h3 := h.2.2.1
  have hz : gZ g r t = 0 := (h3 r hr t ht).2.1 (of_decide_eq_false p1)
  obtain ⟨m, h5, h6⟩ := h.2.2.2.2
  refine Hg.re i h (fun k hk => e k (by omega) (by omega)) (fun r' hr' t' ht' => ?_) ⟨m + 1, by omega, by rw [hG, upr_eq, h6, of_s]⟩
  by_cases hx : r' = r ∧ t' = t
  · rw [hx.1, hx.2]
    have hw := (pWh_iff hn2).mp p2
    have eZ : gZ g' r t = gZ g r t := e _ (by omega) (by omega)
    refine ⟨fun _ => ⟨fun c hc e1 => ?_, ?_⟩, fun _ => eZ.trans hz, fun s hs hb => ?_⟩
    · rw [pTk_cg (e _ (by omega) (by omega))]
      exact hw.1 c hc ((e _ (by omega) (by omega)).symm.trans e1)
    · obtain ⟨c, hc, e1⟩ := hw.2
      exact ⟨c, hc, (e _ (by omega) (by omega)).trans e1⟩
    · rw [pSg_cg eZ] at hb
      unfold pSg at hb
      rw [hz] at hb
      exact absurd (of_decide_eq_true hb) (sgn_0 s hs)
  · exact (h3 r' hr' t' ht').cg (e _ (by omega) (by omega)) (e _ (by omega) (by omega)) (Nat.le_refl n) (fun c hc => ⟨e _ (by omega) (by omega), e _ (by omega) (by omega), fun hp => by rw [pTk_cg (e _ (by omega) (by omega))]; exact hp⟩) (fun c hc h9 => by omega)
theorem sgn_bit : ∀ z, z < 32 → ∀ s0, s0 < 5 → ∀ s, s < 5 → ((Int32.ofNat z ||| (1 <<< (Int32.ofNat s0 &&& 31))) >>> (Int32.ofNat s &&& 31)) &&& 1 = 1 → s = s0 ∨ (Int32.ofNat z >>> (Int32.ofNat s &&& 31)) &&& 1 = 1 := by decide +kernel
theorem Hg.sign (i : Inv g n) (h : Hg B g n) (hs : s < 5) (hr : r < 4) (ht : t < 3) (p1 : pMx g r t = true) (p2 : pHd g n (Int32.ofNat s) (Int32.ofNat r) = true) : Hg B (upr g (354 + (3 * r + t)) (gZ g r t ||| (1 <<< (Int32.ofNat s &&& 31)))) n := by
  obtain ⟨g', hG⟩ : ∃ g', g' = upr g (354 + (3 * r + t)) (gZ g r t ||| (1 <<< (Int32.ofNat s &&& 31))) := ⟨_, rfl⟩
  rw [← hG]
  have e : ∀ k, k ≠ 354 + (3 * r + t) → g' k = g k := fun k e1 => by
    rw [hG]
    exact upr_ne e1
  have hn2 := i.1.2
  have h3 := h.2.2.1
  obtain ⟨m, h5, h6⟩ := h.2.2.2.2
  obtain ⟨z, hz, eZ⟩ := (i.2.2.2.2.1 r hr t ht).2
  have hm : gM g r t = 1 := of_decide_eq_true p1
  refine Hg.re i h (fun k hk => e k (by omega)) (fun r' hr' t' ht' => ?_) ⟨m, h5, (e _ (by omega)).trans h6⟩
  by_cases hx : r' = r ∧ t' = t
  · rw [hx.1, hx.2]
    obtain ⟨a, b, d⟩ := h3 r hr t ht
    have eM : gM g' r t = gM g r t := e _ (by omega)
    have eZ' : gZ g' r t = Int32.ofNat z ||| (1 <<< (Int32.ofNat s &&& 31)) := by
      rw [hG, ← eZ]
      exact upr_eq
    refine ⟨fun _ => ⟨fun c hc e1 => ?_, ?_⟩, fun hx => absurd (eM.trans hm) hx, fun s' hs' hb => ?_⟩
    · rw [pTk_cg (e _ (by omega))]
      exact (a hm).1 c hc ((e _ (by omega)).symm.trans e1)
    · obtain ⟨c, hc, e1⟩ := (a hm).2
      exact ⟨c, hc, (e _ (by omega)).trans e1⟩
    · unfold pSg at hb
      rw [eZ'] at hb
      rcases sgn_bit z hz s hs s' hs' (of_decide_eq_true hb) with h9 | h9
      · obtain ⟨c, hc, e1, e2⟩ := pHd_iff.mp p2
        rw [h9]
        exact ⟨c, hc, (e _ (by omega)).trans e1, (e _ (by omega)).trans e2⟩
      · have hb' : pSg g s' r t = true := by
          unfold pSg
          rw [eZ]
          exact decide_eq_true h9
        obtain ⟨c, hc, e1, e2⟩ := d s' hs' hb'
        exact ⟨c, hc, (e _ (by omega)).trans e1, (e _ (by omega)).trans e2⟩
  · exact (h3 r' hr' t' ht').cg (e _ (by omega)) (e _ (by omega)) (Nat.le_refl n) (fun c hc => ⟨e _ (by omega), e _ (by omega), fun hp => by rw [pTk_cg (e _ (by omega))]; exact hp⟩) (fun c hc h9 => by omega)
end HW
