/-! hangs: the loop over the clauses -/
section HD
variable {P84 : PB84} {P115 : PB115} {X0 X Z : XH} {σ : St} {n B c t cc ss : Nat} {K : Int32 → XH → Prop}
theorem vl_f (i : Inv (zG σ) n) (hc : c < n) (ht : t < 3) : Op (fun X K => w_L_framesOf 1 (Int32.ofNat c) (Int32.ofNat t) X K) σ (vIts (zG σ) c t) σ := lg_framesOf i hc ht
theorem vl_r (i : Inv (zG σ) n) (hc : c < n) (ht : t < 3) : Op (fun X K => w_L_roomFor 1 (Int32.ofNat c) (Int32.ofNat t) X K) σ (vRm (zG σ) c t) σ := lg_roomFor i hc ht
theorem vl_s (i : Inv (zG σ) n) (hc : c < n) (ht : t < 3) : Op (fun X K => w_L_sessionOf 1 (Int32.ofNat c) (Int32.ofNat t) X K) σ (vSe (zG σ) c t) σ := lg_sessionOf i hc ht
theorem vl_l (i : Inv (zG σ) n) (hc : c < n) (ht : t < 3) : Op (fun X K => w_L_leastAnnex 1 (Int32.ofNat c) (Int32.ofNat t) X K) σ (vLe (zG σ) c t) σ := lg_leastAnnex i hc ht
theorem vl_h (i : Inv (zG σ) n) (hc : c < n) (ht : t < 3) (hp : pHas (zG σ) c t = true) : Op (fun X K => w_L_hundredthsOf 1 (Int32.ofNat c) (Int32.ofNat t) X K) σ (gP (zG σ) c t) σ := by
  have h := lg_hundredthsOf i hc ht
  rw [if_pos hp] at h
  exact h
theorem vl_h0 (i : Inv (zG σ) n) (hc : c < n) (ht : t < 3) (hp : pHas (zG σ) c t = false) : Op (fun X K => w_L_hundredthsOf 1 (Int32.ofNat c) (Int32.ofNat t) X K) σ (-4) σ := by
  have h := lg_hundredthsOf i hc ht
  rw [hp] at h
  rw [if_neg (by decide)] at h
  exact h
theorem h_v440 {l1 l2 : Int32} (hX : 122 ≤ hz X0) (i : Inv (zG σ) n) (hg : Hg B (zG σ) n) (hc : c < n) (ht : t < 3) (h1 : cc + 14 ≤ 4000) (h2 : ss + 84 ≤ 24000) (lw : LW X0 σ Z (fA (zG σ) n t c)) (w : Wd X σ Z) (k : EndC P115 X0 σ n c t (cc + 14) (ss + 84) l1 l2) :
    w_L_hangs_440 P84 P115 1 l1 l2 (hz X0 + 1) (Int32.ofNat t) (sAnnex (zG σ) c t) (sReady (zG σ) c t) (sMis (zG σ) c t) (sTaken (zG σ) c t) 0 (sFr (zG σ) c t) (Int32.ofNat c) (gH (zG σ) c) (vIts (zG σ) c t) (vRm (zG σ) c t) (gRs (zG σ) c t) (vSe (zG σ) c t) cc ss X K := by
  have ic := i.2.1 c hc
  refine h_440 hX i hg hc ht h1 h2 lw w (its_0 ic ht) (rm_le ic ht) rs_rd rs_in.1 rs_in.2 (se_lt ic ht) (fun h => ?_) k
  have hp : pHas (zG σ) c t = true := by
    rcases h with h | h
    · exact fit_has ((hg.1 c hc t ht).2 h).1
    · unfold pRd at h
      rw [Bool.and_eq_true] at h
      exact fit_has h.1
  unfold vIts
  rw [if_pos hp]
  rfl
theorem h_427 {l1 l2 : Int32} (hX : 122 ≤ hz X0) (i : Inv (zG σ) n) (hg : Hg B (zG σ) n) (hc : c < n) (ht : t < 3) (h1 : cc + 14 ≤ 4000) (h2 : ss + 84 ≤ 24000) (lw : LW X0 σ Z (fA (zG σ) n t c)) (w : Wd X σ Z) (k : EndC P115 X0 σ n c t (cc + 14) (ss + 84) l1 l2) {s0 : Int32} (e0 : s0 = b2i (pFit (zG σ) c t)) :
    w_L_hangs_427 P84 P115 1 l1 l2 (hz X0 + 1) (Int32.ofNat t) (sAnnex (zG σ) c t) (sReady (zG σ) c t) (sMis (zG σ) c t) (sTaken (zG σ) c t) 0 (sFr (zG σ) c t) (Int32.ofNat c) (gH (zG σ) c) (vIts (zG σ) c t) (vRm (zG σ) c t) (gRs (zG σ) c t) (vSe (zG σ) c t) s0 cc ss X K := by
  have ic := i.2.1 c hc
  have fin := h_v440 (P84 := P84) (K := K) hX i hg hc ht h1 h2 lw w k
  have hr := rm_lt ic ht
  cases hf : pFit (zG σ) c t
  · rw [hf] at e0 hr
    exact ⟨fun _ => ⟨fun h => absurd e0 h, fun _ => fin⟩, fun h => absurd (hr.mpr rfl) h⟩
  · rw [hf] at e0 hr
    exact ⟨fun h => absurd (hr.mp h) (by decide), fun _ => ⟨fun h => absurd e0 h, fun _ => fin⟩⟩
theorem h_407 {l1 l2 : Int32} (hX : 122 ≤ hz X0) (i : Inv (zG σ) n) (hg : Hg B (zG σ) n) (hc : c < n) (ht : t < 3) (h1 : cc + 16 ≤ 4000) (h2 : ss + 96 ≤ 24000) (lw : LW X0 σ Z (fA (zG σ) n t c)) (w : Wd X σ Z) (k : EndC P115 X0 σ n c t (cc + 16) (ss + 96) l1 l2) {s0 s1 : Int32} (e0 : s0 = s1) :
    w_L_hangs_407 P84 P115 1 l1 l2 (hz X0 + 1) (Int32.ofNat t) (sAnnex (zG σ) c t) (sReady (zG σ) c t) (sMis (zG σ) c t) (sTaken (zG σ) c t) 0 (sFr (zG σ) c t) (Int32.ofNat c) (gH (zG σ) c) (vIts (zG σ) c t) (vRm (zG σ) c t) (gRs (zG σ) c t) (vSe (zG σ) c t) s0 s1 cc ss X K := by
  refine ⟨fun h => absurd e0 h, fun _ => ⟨by omega, by omega, lg_fits i hc ht X Z _ w (fun X1 w1 => ⟨fun h => ?_, fun h => ?_⟩)⟩⟩
  · refine h_427 hX i hg hc ht (by omega) (by omega) lw w1 k ?_
    cases hf : pFit (zG σ) c t
    · rfl
    · rw [hf] at h
      exact absurd rfl h
  · refine h_427 hX i hg hc ht (by omega) (by omega) lw w1 k ?_
    cases hf : pFit (zG σ) c t
    · rw [hf] at h
      exact absurd h (by decide)
    · rfl
theorem h_387 {l1 l2 : Int32} (hX : 122 ≤ hz X0) (i : Inv (zG σ) n) (hg : Hg B (zG σ) n) (hc : c < n) (ht : t < 3) (h1 : cc + 16 ≤ 4000) (h2 : ss + 96 ≤ 24000) (lw : LW X0 σ Z (fA (zG σ) n t c)) (w : Wd X σ Z) (k : EndC P115 X0 σ n c t (cc + 16) (ss + 96) l1 l2) (hp : pHas (zG σ) c t = true) :
    w_L_hangs_387 P84 P115 1 l1 l2 (hz X0 + 1) (Int32.ofNat t) (sAnnex (zG σ) c t) (sReady (zG σ) c t) (sMis (zG σ) c t) (sTaken (zG σ) c t) 0 (sFr (zG σ) c t) (Int32.ofNat c) (gH (zG σ) c) (vIts (zG σ) c t) (vRm (zG σ) c t) (gRs (zG σ) c t) (vSe (zG σ) c t) (vLe (zG σ) c t) cc ss X K := by
  have ic := i.2.1 c hc
  have hr := rm_lt ic ht
  have hl := le_0 ic ht hp
  have fin : ∀ s0 s1 : Int32, s0 = s1 → _ := fun s0 s1 e => h_407 (P84 := P84) (K := K) hX i hg hc ht h1 h2 lw w k e
  refine ⟨fun h => ⟨fun h3 => fin 0 0 rfl, fun h3 => ?_⟩, fun h => ⟨fun h3 => ?_, fun h3 => fin 1 1 rfl⟩⟩
  · rw [hr] at h
    rw [hl, h] at h3
    exact nomatch h3
  · rw [hr, Bool.not_eq_false] at h
    rw [hl] at h3
    exact absurd h h3
theorem h_365 {l1 l2 : Int32} (hX : 122 ≤ hz X0) (i : Inv (zG σ) n) (hg : Hg B (zG σ) n) (hc : c < n) (ht : t < 3) (h1 : cc + 16 ≤ 4000) (h2 : ss + 96 ≤ 24000) (lw : LW X0 σ Z (fA (zG σ) n t c)) (w : Wd X σ Z) (k : EndC P115 X0 σ n c t (cc + 16) (ss + 96) l1 l2) (hp : pHas (zG σ) c t = true) {s0 s1 : Int32} (e0 : s0 = s1) :
    w_L_hangs_365 P84 P115 1 l1 l2 (hz X0 + 1) (Int32.ofNat t) (sAnnex (zG σ) c t) (sReady (zG σ) c t) (sMis (zG σ) c t) (sTaken (zG σ) c t) 0 (sFr (zG σ) c t) (Int32.ofNat c) (gH (zG σ) c) (vIts (zG σ) c t) (vRm (zG σ) c t) (gRs (zG σ) c t) (vSe (zG σ) c t) (vLe (zG σ) c t) s0 s1 cc ss X K := by
  have ic := i.2.1 c hc
  have hs := se_lt ic ht
  refine ⟨fun h => absurd e0 h, fun _ => ⟨fun _ => h_387 hX i hg hc ht h1 h2 lw w k hp, fun h => ?_⟩⟩
  rw [hs, Bool.not_eq_false] at h
  obtain ⟨hf, hT⟩ := (hg.1 c hc t ht).2 h
  refine ⟨fun h3 => ?_, fun _ => ⟨by omega, by omega, w.1.t1, ok_session X Z _ w (fun X1 w1 => ⟨fun h3 => absurd h3 ?_, fun _ => h_387 hX i hg hc ht h1 h2 lw w1 k hp⟩)⟩⟩
  · rw [rm_lt ic ht, hf] at h3
    exact nomatch h3
  · obtain ⟨l, y, f9, a, k9, -, -, -, -, -, hk9, -, -, -, -, e5, -, p2, -⟩ := nat_c ic ht
    obtain ⟨e9, he9, ee⟩ := i.2.2.2.2.2
    have hk1 := p2.mp h
    rw [e5, ee, nc (by omega), nc (by omega)] at hT
    unfold vSe
    rw [if_pos h, e5, ee]
    have e6 : Int32.ofNat k9 - 1 = Int32.ofNat (k9 - 1) := (Int32.ofNat_sub k9 1 hk1).symm
    rw [e6, of_lt (by omega) (by omega)]
    omega
end HD
