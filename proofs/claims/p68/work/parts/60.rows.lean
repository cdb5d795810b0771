/-! rows that change: one cell, what still holds of them, what the heap then holds -/
section PL
theorem upr_eq {g : Row} {i : Nat} {v : Int32} : upr g i v i = v := if_pos rfl
theorem upr_ne {g : Row} {i k : Nat} {v : Int32} (h : k ≠ i) : upr g i v k = g k := if_neg h
theorem upr_comm {g : Row} {i j : Nat} {v w : Int32} (h : i ≠ j) : upr (upr g i v) j w = upr (upr g j w) i v := by
  funext k
  unfold upr
  by_cases h1 : k = i <;> by_cases h2 : k = j <;> simp_all
theorem upr_id {g : Row} {i : Nat} {v : Int32} (h : g i = v) : upr g i v = g := by
  funext k
  unfold upr
  split
  · rename_i e
    rw [e, h]
  · rfl
theorem Inc.cong {g g' : Row} {c : Nat} (e : ∀ j, j < 13 → g' (13 * c + j) = g (13 * c + j)) (i : Inc g c) : Inc g' c := by
  obtain ⟨⟨r, hr, e1⟩, ⟨s, hs, e2⟩, ⟨l, y, h1, h2, h3, h4, e3, e4⟩, hF⟩ := i
  refine ⟨⟨r, hr, (e 0 (by decide)).trans e1⟩, ⟨s, hs, (e 1 (by decide)).trans e2⟩, ⟨l, y, h1, h2, h3, h4, (e 2 (by decide)).trans e3, (e 3 (by decide)).trans e4⟩, fun t ht => ?_⟩
  obtain ⟨⟨f, a, hf, e5, e6⟩, ⟨k, hk, e7⟩⟩ := hF t ht
  refine ⟨⟨f, a, hf, ?_, ?_⟩, ⟨k, hk, ?_⟩⟩
  · exact (show g' (13 * c + 4 + t) = g (13 * c + 4 + t) by rw [Nat.add_assoc]; exact e (4 + t) (by omega)).trans e5
  · exact (show g' (13 * c + 7 + t) = g (13 * c + 7 + t) by rw [Nat.add_assoc]; exact e (7 + t) (by omega)).trans e6
  · exact (show g' (13 * c + 10 + t) = g (13 * c + 10 + t) by rw [Nat.add_assoc]; exact e (10 + t) (by omega)).trans e7
theorem Inc.setFA {g : Row} {c t f a : Nat} (i : Inc g c) (ht : t < 3) (hf : f + a ≤ 60) : Inc (upr (upr g (13 * c + 4 + t) (Int32.ofNat f)) (13 * c + 7 + t) (Int32.ofNat a)) c := by
  obtain ⟨⟨r, hr, e1⟩, ⟨s, hs, e2⟩, ⟨l, y, h1, h2, h3, h4, e3, e4⟩, hF⟩ := i
  have n2 : ∀ k, k ≠ 13 * c + 4 + t → k ≠ 13 * c + 7 + t → upr (upr g (13 * c + 4 + t) (Int32.ofNat f)) (13 * c + 7 + t) (Int32.ofNat a) k = g k := fun k h5 h6 => (upr_ne h6).trans (upr_ne h5)
  refine ⟨⟨r, hr, (n2 _ (by omega) (by omega)).trans e1⟩, ⟨s, hs, (n2 _ (by omega) (by omega)).trans e2⟩, ⟨l, y, h1, h2, h3, h4, (n2 _ (by omega) (by omega)).trans e3, (n2 _ (by omega) (by omega)).trans e4⟩, fun t' ht' => ?_⟩
  obtain ⟨⟨f', a', hf', e5, e6⟩, ⟨k, hk, e7⟩⟩ := hF t' ht'
  refine ⟨?_, ⟨k, hk, (n2 _ (by omega) (by omega)).trans e7⟩⟩
  by_cases h : t' = t
  · subst h
    exact ⟨f, a, hf, (upr_ne (by omega)).trans upr_eq, upr_eq⟩
  · exact ⟨f', a', hf', (n2 _ (by omega) (by omega)).trans e5, (n2 _ (by omega) (by omega)).trans e6⟩
theorem Inc.setT {g : Row} {c t f : Nat} (i : Inc g c) (ht : t < 3) (hf : f ≤ 1000) : Inc (upr g (13 * c + 10 + t) (Int32.ofNat f)) c := by
  obtain ⟨⟨r, hr, e1⟩, ⟨s, hs, e2⟩, ⟨l, y, h1, h2, h3, h4, e3, e4⟩, hF⟩ := i
  refine ⟨⟨r, hr, (upr_ne (by omega)).trans e1⟩, ⟨s, hs, (upr_ne (by omega)).trans e2⟩, ⟨l, y, h1, h2, h3, h4, (upr_ne (by omega)).trans e3, (upr_ne (by omega)).trans e4⟩, fun t' ht' => ?_⟩
  obtain ⟨⟨f', a', hf', e5, e6⟩, ⟨k, hk, e7⟩⟩ := hF t' ht'
  refine ⟨⟨f', a', hf', (upr_ne (by omega)).trans e5, (upr_ne (by omega)).trans e6⟩, ?_⟩
  by_cases h : t' = t
  · subst h
    exact ⟨f, hf, upr_eq⟩
  · exact ⟨k, hk, (upr_ne (by omega)).trans e7⟩
theorem Inc.setR {g : Row} {c r : Nat} (i : Inc g c) (hr : r < 4) : Inc (upr g (13 * c) (Int32.ofNat r)) c := by
  obtain ⟨-, ⟨s, hs, e2⟩, ⟨l, y, h1, h2, h3, h4, e3, e4⟩, hF⟩ := i
  exact ⟨⟨r, hr, upr_eq⟩, ⟨s, hs, (upr_ne (by omega)).trans e2⟩, ⟨l, y, h1, h2, h3, h4, (upr_ne (by omega)).trans e3, (upr_ne (by omega)).trans e4⟩, fun t ht => by
    obtain ⟨⟨f, a, hf, e5, e6⟩, ⟨k, hk, e7⟩⟩ := hF t ht
    exact ⟨⟨f, a, hf, (upr_ne (by omega)).trans e5, (upr_ne (by omega)).trans e6⟩, ⟨k, hk, (upr_ne (by omega)).trans e7⟩⟩⟩
theorem Inc.setL {g : Row} {c l y : Nat} (i : Inc g c) (h1 : 4 ≤ l) (h2 : l ≤ 60) (hy : gH g c = Int32.ofNat y) (h3 : y ≤ 20) (h4 : y ≤ l) : Inc (upr g (13 * c + 2) (Int32.ofNat l)) c := by
  obtain ⟨⟨r, hr, e1⟩, ⟨s, hs, e2⟩, -, hF⟩ := i
  exact ⟨⟨r, hr, (upr_ne (by omega)).trans e1⟩, ⟨s, hs, (upr_ne (by omega)).trans e2⟩, ⟨l, y, h1, h2, h3, h4, upr_eq, (upr_ne (by omega)).trans hy⟩, fun t ht => by
    obtain ⟨⟨f, a, hf, e5, e6⟩, ⟨k, hk, e7⟩⟩ := hF t ht
    exact ⟨⟨f, a, hf, (upr_ne (by omega)).trans e5, (upr_ne (by omega)).trans e6⟩, ⟨k, hk, (upr_ne (by omega)).trans e7⟩⟩⟩
theorem Inc.setH {g : Row} {c l y : Nat} (i : Inc g c) (h1 : 4 ≤ l) (h2 : l ≤ 60) (hl : gL g c = Int32.ofNat l) (h3 : y ≤ 20) (h4 : y ≤ l) : Inc (upr g (13 * c + 3) (Int32.ofNat y)) c := by
  obtain ⟨⟨r, hr, e1⟩, ⟨s, hs, e2⟩, -, hF⟩ := i
  exact ⟨⟨r, hr, (upr_ne (by omega)).trans e1⟩, ⟨s, hs, (upr_ne (by omega)).trans e2⟩, ⟨l, y, h1, h2, h3, h4, (upr_ne (by omega)).trans hl, upr_eq⟩, fun t ht => by
    obtain ⟨⟨f, a, hf, e5, e6⟩, ⟨k, hk, e7⟩⟩ := hF t ht
    exact ⟨⟨f, a, hf, (upr_ne (by omega)).trans e5, (upr_ne (by omega)).trans e6⟩, ⟨k, hk, (upr_ne (by omega)).trans e7⟩⟩⟩
theorem Inv.clause {g g' : Row} {n c : Nat} (i : Inv g n) (hc : c < n) (e : ∀ k, k < 13 * c ∨ 13 * c + 13 ≤ k → g' k = g k) (ic : Inc g' c) : Inv g' n := by
  obtain ⟨hn, h1, h2, h3, h4, h5⟩ := i
  have hn2 := hn.2
  refine ⟨⟨(e 366 (by omega)).trans hn.1, hn.2⟩, fun c' hc' => ?_, fun k hk hk' => (e k (by omega)).trans (h2 k hk hk'), fun s hs t ht => ?_, fun r hr t ht => ?_, ?_⟩
  · by_cases h : c' = c
    · rw [h]
      exact ic
    · exact Inc.cong (fun j hj => e _ (by omega)) (h1 c' hc')
  · obtain ⟨a, u, g1, g2, g3, e1, e2⟩ := h3 s hs t ht
    exact ⟨a, u, g1, g2, g3, (e _ (by omega)).trans e1, (e _ (by omega)).trans e2⟩
  · obtain ⟨e1, z, hz, e2⟩ := h4 r hr t ht
    refine ⟨?_, z, hz, (e _ (by omega)).trans e2⟩
    unfold gM at e1 ⊢
    rw [e _ (by omega)]
    exact e1
  · obtain ⟨z, hz, e1⟩ := h5
    exact ⟨z, hz, (e _ (by omega)).trans e1⟩
theorem Inv.voices {g g' : Row} {n : Nat} (i : Inv g n) (e : ∀ k, k < 312 ∨ 342 ≤ k → g' k = g k) (hv : ∀ s, s < 5 → ∀ t, t < 3 → ∃ a u, 20 ≤ a ∧ a ≤ 120 ∧ u ≤ a ∧ gSt g' s t = Int32.ofNat a ∧ gU g' s t = Int32.ofNat u) : Inv g' n := by
  obtain ⟨hn, h1, h2, h3, h4, h5⟩ := i
  have hn2 := hn.2
  refine ⟨⟨(e 366 (by omega)).trans hn.1, hn.2⟩, fun c' hc' => Inc.cong (fun j hj => e _ (by omega)) (h1 c' hc'), fun k hk hk' => (e k (by omega)).trans (h2 k hk hk'), hv, fun r hr t ht => ?_, ?_⟩
  · obtain ⟨e1, z, hz, e2⟩ := h4 r hr t ht
    refine ⟨?_, z, hz, (e _ (by omega)).trans e2⟩
    unfold gM at e1 ⊢
    rw [e _ (by omega)]
    exact e1
  · obtain ⟨z, hz, e1⟩ := h5
    exact ⟨z, hz, (e _ (by omega)).trans e1⟩
theorem Inv.reels {g g' : Row} {n : Nat} (i : Inv g n) (e : ∀ k, k < 342 ∨ 366 ≤ k → g' k = g k) (hv : ∀ r, r < 4 → ∀ t, t < 3 → (gM g' r t = 0 ∨ gM g' r t = 1) ∧ ∃ z, z < 32 ∧ gZ g' r t = Int32.ofNat z) : Inv g' n := by
  obtain ⟨hn, h1, h2, h3, h4, h5⟩ := i
  have hn2 := hn.2
  refine ⟨⟨(e 366 (by omega)).trans hn.1, hn.2⟩, fun c' hc' => Inc.cong (fun j hj => e _ (by omega)) (h1 c' hc'), fun k hk hk' => (e k (by omega)).trans (h2 k hk hk'), fun s hs t ht => ?_, hv, ?_⟩
  · obtain ⟨a, u, g1, g2, g3, e1, e2⟩ := h3 s hs t ht
    exact ⟨a, u, g1, g2, g3, (e _ (by omega)).trans e1, (e _ (by omega)).trans e2⟩
  · obtain ⟨z, hz, e1⟩ := h5
    exact ⟨z, hz, (e _ (by omega)).trans e1⟩
theorem Inv.acc {g g' : Row} {n : Nat} (i : Inv g n) (e : ∀ k, k < 367 → g' k = g k) (hv : ∃ z, z ≤ 999 ∧ g' 367 = Int32.ofNat z) : Inv g' n := by
  obtain ⟨hn, h1, h2, h3, h4, h5⟩ := i
  have hn2 := hn.2
  refine ⟨⟨(e 366 (by omega)).trans hn.1, hn.2⟩, fun c' hc' => Inc.cong (fun j hj => e _ (by omega)) (h1 c' hc'), fun k hk hk' => (e k (by omega)).trans (h2 k hk hk'), fun s hs t ht => ?_, fun r hr t ht => ?_, hv⟩
  · obtain ⟨a, u, g1, g2, g3, e1, e2⟩ := h3 s hs t ht
    exact ⟨a, u, g1, g2, g3, (e _ (by omega)).trans e1, (e _ (by omega)).trans e2⟩
  · obtain ⟨e1, z, hz, e2⟩ := h4 r hr t ht
    refine ⟨?_, z, hz, (e _ (by omega)).trans e2⟩
    unfold gM at e1 ⊢
    rw [e _ (by omega)]
    exact e1
theorem Inv.acc8 {g : Row} {n k : Nat} {v : Int32} (i : Inv g n) (hk : 368 ≤ k) : Inv (upr g k v) n := by
  obtain ⟨z, hz, e⟩ := i.2.2.2.2.2
  exact i.acc (fun j hj => upr_ne (by omega)) ⟨z, hz, (upr_ne (by omega)).trans e⟩
/-- a reel is no longer mixed, nor signed -/
def unm (g : Row) (r t : Nat) : Row := upr (upr g (342 + (3 * r + t)) 0) (354 + (3 * r + t)) 0
def unmA (g : Row) (r : Nat) : Row := unm (unm (unm g r 0) r 1) r 2
theorem Inv.setM {g : Row} {n r t : Nat} {v : Int32} (i : Inv g n) (hr : r < 4) (ht : t < 3) (hv : v = 0 ∨ v = 1) : Inv (upr g (342 + (3 * r + t)) v) n := by
  refine i.reels (fun k hk => upr_ne (by omega)) (fun r' hr' t' ht' => ?_)
  obtain ⟨e1, z, hz, e2⟩ := i.2.2.2.2.1 r' hr' t' ht'
  refine ⟨?_, z, hz, (upr_ne (by omega)).trans e2⟩
  by_cases h : 3 * r' + t' = 3 * r + t
  · unfold gM
    rw [h, upr_eq]
    exact hv
  · unfold gM at e1 ⊢
    rw [upr_ne (by omega)]
    exact e1
theorem Inv.setZ {g : Row} {n r t z : Nat} (i : Inv g n) (hr : r < 4) (ht : t < 3) (hz : z < 32) : Inv (upr g (354 + (3 * r + t)) (Int32.ofNat z)) n := by
  refine i.reels (fun k hk => upr_ne (by omega)) (fun r' hr' t' ht' => ?_)
  obtain ⟨e1, z', hz', e2⟩ := i.2.2.2.2.1 r' hr' t' ht'
  refine ⟨?_, ?_⟩
  · unfold gM at e1 ⊢
    rw [upr_ne (by omega)]
    exact e1
  · by_cases h : 3 * r' + t' = 3 * r + t
    · refine ⟨z, hz, ?_⟩
      unfold gZ
      rw [h, upr_eq]
    · exact ⟨z', hz', (upr_ne (by omega)).trans e2⟩
theorem Inv.unm {g : Row} {n r t : Nat} (i : Inv g n) (hr : r < 4) (ht : t < 3) : Inv (unm g r t) n := Inv.setZ (z := 0) (i.setM hr ht (Or.inl rfl)) hr ht (by decide)
theorem Inv.unmA {g : Row} {n r : Nat} (i : Inv g n) (hr : r < 4) : Inv (unmA g r) n := ((i.unm hr (by decide)).unm hr (by decide)).unm hr (by decide)
theorem Inv.setSt {g : Row} {n s t a u : Nat} (i : Inv g n) (hs : s < 5) (ht : t < 3) (h1 : 20 ≤ a) (h2 : a ≤ 120) (h3 : u ≤ a) (hu : gU g s t = Int32.ofNat u) : Inv (upr g (312 + (3 * s + t)) (Int32.ofNat a)) n := by
  refine i.voices (fun k hk => upr_ne (by omega)) (fun s' hs' t' ht' => ?_)
  obtain ⟨a', u', g1, g2, g3, e1, e2⟩ := i.2.2.2.1 s' hs' t' ht'
  by_cases h : 3 * s' + t' = 3 * s + t
  · refine ⟨a, u, h1, h2, h3, ?_, ?_⟩
    · unfold gSt
      rw [h, upr_eq]
    · refine (upr_ne (by omega)).trans ?_
      unfold gU at hu
      rw [h]
      exact hu
  · exact ⟨a', u', g1, g2, g3, (upr_ne (by omega)).trans e1, (upr_ne (by omega)).trans e2⟩
theorem Inv.setU {g : Row} {n s t a u : Nat} (i : Inv g n) (hs : s < 5) (ht : t < 3) (h1 : 20 ≤ a) (h2 : a ≤ 120) (h3 : u ≤ a) (hu : gSt g s t = Int32.ofNat a) : Inv (upr g (327 + (3 * s + t)) (Int32.ofNat u)) n := by
  refine i.voices (fun k hk => upr_ne (by omega)) (fun s' hs' t' ht' => ?_)
  obtain ⟨a', u', g1, g2, g3, e1, e2⟩ := i.2.2.2.1 s' hs' t' ht'
  by_cases h : 3 * s' + t' = 3 * s + t
  · refine ⟨a, u, h1, h2, h3, ?_, ?_⟩
    · refine (upr_ne (by omega)).trans ?_
      unfold gSt at hu
      rw [h]
      exact hu
    · unfold gU
      rw [h, upr_eq]
  · exact ⟨a', u', g1, g2, g3, (upr_ne (by omega)).trans e1, (upr_ne (by omega)).trans e2⟩
theorem TR.put {X : XH} {b j k : Nat} {g : Row} {v : Int32} (h : TR X b g) (hj : okT j k = true) : TR (sI X (b + j) k v) b (upr g (posT j k) v) := fun j' k' h' => by
  by_cases e : j' = j
  · subst e
    by_cases e2 : k' = k
    · subst e2
      rw [sI_at, upr_eq]
    · rw [sI_nk e2, upr_ne (fun e3 => e2 (posT_inj h' hj e3).2)]
      exact h _ _ h'
  · rw [sI_ne (by omega), upr_ne (fun e3 => e (posT_inj h' hj e3).1)]
    exact h _ _ h'
theorem Wd.put {X : XH} {c : St} {Zz : XH} {v : Int32} (j k : Nat) (w : Wd X c Zz) (hj : okT j k = true) : Wd (sI X (2 + j) k v) (upr (zG c) (posT j k) v, c.2) Zz := by
  have h12 := (okT_j hj).1
  refine w.now ⟨w.1, rfl, rfl, fun a ha => ⟨sI_ne (fun e => ?_), rfl⟩⟩ (TR.put w.2.1.1 hj)
  have := dRg_f ha
  omega
variable {X : XH} {c : St} {Zz : XH} {v : Int32} {k t s r : Nat}
theorem Wd.pR (w : Wd X c Zz) (hk : k < 24) : Wd (sI X 3 k v) (upr (zG c) (13 * k) v, c.2) Zz := w.put 1 k (ok1 hk rfl)
theorem Wd.pS (w : Wd X c Zz) (hk : k < 24) : Wd (sI X 4 k v) (upr (zG c) (13 * k + 1) v, c.2) Zz := w.put 2 k (ok1 hk rfl)
theorem Wd.pL (w : Wd X c Zz) (hk : k < 24) : Wd (sI X 5 k v) (upr (zG c) (13 * k + 2) v, c.2) Zz := w.put 3 k (ok1 hk rfl)
theorem Wd.pH (w : Wd X c Zz) (hk : k < 24) : Wd (sI X 6 k v) (upr (zG c) (13 * k + 3) v, c.2) Zz := w.put 4 k (ok1 hk rfl)
theorem Wd.pF (w : Wd X c Zz) (hk : k < 24) (ht : t < 3) : Wd (sI X 7 (3 * k + t) v) (upr (zG c) (13 * k + 4 + t) v, c.2) Zz := by
  have h1 := w.put (v := v) 5 (3 * k + t) (ok1 (show 3 * k + t < 72 by omega) rfl)
  rw [show posT 5 (3 * k + t) = 13 * k + 4 + t by show 13 * ((3 * k + t) / 3) + 4 + (3 * k + t) % 3 = _; omega] at h1
  exact h1
theorem Wd.pA (w : Wd X c Zz) (hk : k < 24) (ht : t < 3) : Wd (sI X 8 (3 * k + t) v) (upr (zG c) (13 * k + 7 + t) v, c.2) Zz := by
  have h1 := w.put (v := v) 6 (3 * k + t) (ok1 (show 3 * k + t < 72 by omega) rfl)
  rw [show posT 6 (3 * k + t) = 13 * k + 7 + t by show 13 * ((3 * k + t) / 3) + 7 + (3 * k + t) % 3 = _; omega] at h1
  exact h1
theorem Wd.pT (w : Wd X c Zz) (hk : k < 24) (ht : t < 3) : Wd (sI X 9 (3 * k + t) v) (upr (zG c) (13 * k + 10 + t) v, c.2) Zz := by
  have h1 := w.put (v := v) 7 (3 * k + t) (ok1 (show 3 * k + t < 72 by omega) rfl)
  rw [show posT 7 (3 * k + t) = 13 * k + 10 + t by show 13 * ((3 * k + t) / 3) + 10 + (3 * k + t) % 3 = _; omega] at h1
  exact h1
theorem Wd.pSt (w : Wd X c Zz) (hs : s < 5) (ht : t < 3) : Wd (sI X 10 (3 * s + t) v) (upr (zG c) (312 + (3 * s + t)) v, c.2) Zz := w.put 8 (3 * s + t) (ok1 (show 3 * s + t < 15 by omega) rfl)
theorem Wd.pU (w : Wd X c Zz) (hs : s < 5) (ht : t < 3) : Wd (sI X 11 (3 * s + t) v) (upr (zG c) (327 + (3 * s + t)) v, c.2) Zz := w.put 9 (3 * s + t) (ok1 (show 3 * s + t < 15 by omega) rfl)
theorem Wd.pU1 (w : Wd X c Zz) (hs : s < 15) : Wd (sI X 11 s v) (upr (zG c) (327 + s) v, c.2) Zz := w.put 9 s (ok1 (show s < 15 by omega) rfl)
theorem Wd.pM (w : Wd X c Zz) (hs : s < 4) (ht : t < 3) : Wd (sI X 12 (3 * s + t) v) (upr (zG c) (342 + (3 * s + t)) v, c.2) Zz := w.put 10 (3 * s + t) (ok1 (show 3 * s + t < 12 by omega) rfl)
theorem Wd.pZ (w : Wd X c Zz) (hs : s < 4) (ht : t < 3) : Wd (sI X 13 (3 * s + t) v) (upr (zG c) (354 + (3 * s + t)) v, c.2) Zz := w.put 11 (3 * s + t) (ok1 (show 3 * s + t < 12 by omega) rfl)
theorem Wd.p0 (w : Wd X c Zz) : Wd (sI X 2 0 v) (upr (zG c) 366 v, c.2) Zz := w.put 0 0 rfl
theorem Wd.p12 (w : Wd X c Zz) : Wd (sI X 2 12 v) (upr (zG c) 367 v, c.2) Zz := w.put 0 12 rfl
theorem Wd.p13 (w : Wd X c Zz) : Wd (sI X 2 13 v) (upr (zG c) 368 v, c.2) Zz := w.put 0 13 rfl
theorem Wd.p14 (w : Wd X c Zz) : Wd (sI X 2 14 v) (upr (zG c) 369 v, c.2) Zz := w.put 0 14 rfl
theorem Wd.p15 (w : Wd X c Zz) : Wd (sI X 2 15 v) (upr (zG c) 370 v, c.2) Zz := w.put 0 15 rfl
theorem Wd.rowE {g' : Row} (w : Wd X c Zz) (e : zG c = g') : Wd X (g', c.2) Zz := by
  rw [← e]
  exact w
end PL
