/-! refuses: every call that must be refused is, and nothing changes -/
section RF
theorem st {w : XH → (Int32 → XH → Prop) → Prop} {σ : St} {v : Int32} (op : Op w σ v σ) {X Zz : XH} (wd : Wd X σ Zz) {F R : XH → Prop} (k : ∀ X1, Wd X1 σ Zz → R X1) : w X (fun u X1 => (¬ u = v → F X1) ∧ (u = v → R X1)) := op X Zz _ wd (fun X1 w1 => ⟨fun h => absurd rfl h, fun _ => k X1 w1⟩)
theorem st' {w : XH → (Int32 → XH → Prop) → Prop} {σ : St} {v c : Int32} (op : Op w σ v σ) (e : v = c) {X Zz : XH} (wd : Wd X σ Zz) {F R : XH → Prop} (k : ∀ X1, Wd X1 σ Zz → R X1) : w X (fun u X1 => (¬ u = c → F X1) ∧ (u = c → R X1)) := op X Zz _ wd (fun X1 w1 => ⟨fun h => absurd e h, fun _ => k X1 w1⟩)
theorem a_f {p q : Bool} (h : p = false) : (p && q) = false := by rw [h]; rfl
theorem a_f2 {p q : Bool} (h : q = false) : (p && q) = false := by rw [h, Bool.and_false]
theorem z0 : inT (0 : Int32) = true := rfl
theorem z1 : inR (0 : Int32) = true := rfl
theorem z2 : inS (0 : Int32) = true := rfl
variable {σ : St} {n B Y : Nat} {X Zz : XH} {K : Int32 → XH → Prop}
theorem ipl {k lo hi : Nat} (hY : Y < 100000) (hk : hi < k + 0 ∨ hi < k) (hh : k < 2048) : inG (Int32.ofNat k + Int32.ofNat Y) (Int32.ofNat lo) (Int32.ofNat hi) = false := by
  rw [la]
  exact inG_big (by omega) (by omega) (by omega)
theorem r_70 {l3 l4 l5 s0 : Int32} (i : Inv (zG σ) n) (hY : Y < 100000) (hC : inC (zG σ 366) l3 = false) (hR : inR l4 = false) (hS : inS l5 = false) (hT : inT s0 = false) (w : Wd X σ Zz) (k : ∀ X1, Wd X1 σ Zz → w_L_refuses_648 1 (Int32.ofNat Y) (zG σ 366) l4 s0 1 0 144 864 X1 K) : w_L_refuses_70 1 (Int32.ofNat Y) (zG σ 366) l3 l4 l5 s0 0 0 X K := by
  refine ⟨by omega, by omega, st (rf_addClause_0 (n := n) hR) w (fun X0 w0 => ?_)⟩
  refine ⟨by omega, by omega, st (rf_addClause_1 (n := n) z1 hS) w0 (fun X1 w1 => ?_)⟩
  refine ⟨by omega, by omega, st (rf_addClause_2 (r := 0) (s := 0) i (by decide) (by decide) (ipl (k := 61) hY (lo := 4) (by decide) (by decide))) w1 (fun X2 w2 => ?_)⟩
  refine ⟨by omega, by omega, st (rf_changeLips_0 i.cn hC) w2 (fun X3 w3 => ?_)⟩
  refine ⟨by omega, by omega, st (rf_changeSigh_0 i.cn hC) w3 (fun X4 w4 => ?_)⟩
  refine ⟨by omega, by omega, st (rf_moveClause_0 i.cn hC) w4 (fun X5 w5 => ?_)⟩
  refine ⟨by omega, by omega, st (rf_translate_0 i.cn hC) w5 (fun X6 w6 => ?_)⟩
  refine ⟨by omega, by omega, st (rf_annex_0 i.cn hC) w6 (fun X7 w7 => ?_)⟩
  refine ⟨by omega, by omega, st (rf_bringBack_0 i.cn hC) w7 (fun X8 w8 => ?_)⟩
  refine ⟨by omega, by omega, st (rf_cast_0 (n := n) hS) w8 (fun X9 w9 => ?_)⟩
  refine ⟨by omega, by omega, st (rf_cast_1 (n := n) z2 hT) w9 (fun X10 w10 => ?_)⟩
  refine ⟨by omega, by omega, st (rf_cast_2 (s := 0) (t := 0) i (by decide) (by decide) (ipl (k := 121) hY (lo := 20) (by decide) (by decide))) w10 (fun X11 w11 => ?_)⟩
  refine ⟨by omega, by omega, st (rf_cast_2 (s := 4) (t := 2) i (by decide) (by decide) (inG_lo (lo := 20) (sub_lo (k := 19) hY (by decide) (by decide)))) w11 (fun X12 w12 => ?_)⟩
  refine ⟨by omega, by omega, st (rf_recordIt_0 i.cn hC) w12 (fun X13 w13 => ?_)⟩
  refine ⟨by omega, by omega, st (rf_wipe_0 i.cn hC) w13 (fun X14 w14 => ?_)⟩
  refine ⟨by omega, by omega, st (rf_mix_0 (n := n) hR) w14 (fun X15 w15 => ?_)⟩
  refine ⟨by omega, by omega, st (rf_mix_1 (n := n) z1 hT) w15 (fun X16 w16 => ?_)⟩
  refine ⟨by omega, by omega, st (rf_sign_0 (n := n) hS) w16 (fun X17 w17 => ?_)⟩
  refine ⟨by omega, by omega, st (rf_sign_1 (n := n) z2 hR) w17 (fun X18 w18 => ?_)⟩
  refine ⟨by omega, by omega, st (rf_sign_2 (n := n) z2 z1 hT) w18 (fun X19 w19 => ?_)⟩
  refine ⟨by omega, by omega, st (rf_append_0 (inG_lo (lo := 33) (sub_lo (k := 32) hY (by decide) (by decide)))) w19 (fun X20 w20 => ?_)⟩
  refine ⟨by omega, by omega, st (rf_append_0 (ipl (k := 127) hY (lo := 33) (by decide) (by decide))) w20 (fun X21 w21 => ?_)⟩
  refine ⟨by omega, by omega, st (rf_keep_0 (ipl (k := 2) hY (lo := 0) (by decide) (by decide))) w21 (fun X22 w22 => ?_)⟩
  refine ⟨by omega, by omega, st (rf_goBack_0 (inG_lo (lo := 0) (neg_y hY))) w22 (fun X23 w23 => ?_)⟩
  refine ⟨by omega, by omega, st (lb_clauseOf hC) w23 (fun X24 w24 => ?_)⟩
  refine ⟨by omega, by omega, st (lb_framesOf (a_f hC)) w24 (fun X25 w25 => ?_)⟩
  refine ⟨by omega, by omega, st (lb_annexedOf (a_f hC)) w25 (fun X26 w26 => ?_)⟩
  refine ⟨by omega, by omega, st (lb_sessionOf (a_f hC)) w26 (fun X27 w27 => ?_)⟩
  refine ⟨by omega, by omega, st (lb_roomFor (a_f hC)) w27 (fun X28 w28 => ?_)⟩
  refine ⟨by omega, by omega, st (lb_fits (a_f hC)) w28 (fun X29 w29 => ?_)⟩
  refine ⟨by omega, by omega, st (lb_hundredthsOf (a_f hC)) w29 (fun X30 w30 => ?_)⟩
  refine ⟨by omega, by omega, st (lb_reasonAgainst (a_f hC)) w30 (fun X31 w31 => ?_)⟩
  refine ⟨by omega, by omega, st (lb_staminaOf (a_f hS)) w31 (fun X32 w32 => ?_)⟩
  refine ⟨by omega, by omega, st (lb_strengthLeft (a_f2 hT)) w32 (fun X33 w33 => ?_)⟩
  refine ⟨by omega, by omega, st (lb_framesOfVoice (a_f hS)) w33 (fun X34 w34 => ?_)⟩
  refine ⟨by omega, by omega, st (lb_sessionsByGoing (a_f2 hT)) w34 (fun X35 w35 => ?_)⟩
  refine ⟨by omega, by omega, st (lb_sessionsByTable (a_f hS)) w35 (fun X36 w36 => ?_)⟩
  refine ⟨by omega, by omega, st (lb_reelAt hR) w36 (fun X37 w37 => ?_)⟩
  refine ⟨by omega, by omega, st (lb_speaksIn (a_f2 hR)) w37 (fun X38 w38 => ?_)⟩
  refine ⟨by omega, by omega, st (lb_mixOf (a_f hR)) w38 (fun X39 w39 => ?_)⟩
  refine ⟨by omega, by omega, st (lb_hasSigned (a_f2 (a_f2 hT))) w39 (fun X40 w40 => ?_)⟩
  refine ⟨by omega, by omega, st (lb_ready hT) w40 (fun X41 w41 => ?_)⟩
  refine ⟨by omega, by omega, st (lb_tongueAt hT) w41 (fun X42 w42 => ?_)⟩
  refine ⟨by omega, by omega, st (lb_leastAnnex (a_f hC)) w42 (fun X43 w43 => ?_)⟩
  refine ⟨by omega, by omega, st (lb_longestSigh hC) w43 (fun X44 w44 => ?_)⟩
  refine ⟨by omega, by omega, st (lb_nextClause hT) w44 (fun X45 w45 => ?_)⟩
  refine ⟨by omega, by omega, lb_meanFit hT w45 ?_⟩
  exact ⟨fun h => absurd (by decide +kernel) h, fun _ => k _ w45⟩
theorem ses_nn {g : Row} {c t : Nat} (i : Inc g c) (ht : t < 3) : (0 ≤ (if pTk g c t = true then gT g c t - 1 else -4)) = (pTk g c t = true) := by
  obtain ⟨-, k, hk, e⟩ := i.2.2.2 t ht
  cases hp : pTk g c t
  · rw [if_neg (by decide)]
    exact propext ⟨fun h => absurd h (by decide), fun h => absurd h (by decide)⟩
  · rw [if_pos rfl]
    refine propext ⟨fun _ => rfl, fun _ => ?_⟩
    have h1 : 1 ≤ k := by
      refine Decidable.byContradiction fun hx => ?_
      have e0 : k = 0 := by omega
      unfold pTk at hp
      rw [e, e0] at hp
      exact absurd hp (by decide)
    rw [e, show (1 : Int32) = Int32.ofNat 1 from rfl, ← Int32.ofNat_sub _ _ h1]
    exact nn_of (by omega)
theorem ses_lt {g : Row} {c t : Nat} (i : Inc g c) (ht : t < 3) : ((if pTk g c t = true then gT g c t - 1 else -4) < 0) = (pTk g c t = false) := by
  have h := ses_nn i ht
  rw [← Int32.not_le, h]
  cases pTk g c t <;> simp
section
variable {P : Nat → Int32 → Int32 → Int32 → Int32 → Int32 → Int32 → Nat → Nat → XH → Prop} {l1 l2 l4 l6 : Int32} {c t cc ss : Nat}
theorem r_922 (i : Inv (zG σ) n) (hc : c < n) (ht : t < 3) (h1 : cc + 5 ≤ 2000) (h2 : ss + 30 ≤ 12000) (w : Wd X σ Zz) (k : ∀ X1 cc1 ss1, Wd X1 σ Zz → cc1 ≤ cc + 5 → ss1 ≤ ss + 30 → P 1 l1 l2 l4 l6 1 (Int32.ofNat c + 1) cc1 ss1 X1) : w_L_refuses_922 P 1 l1 l2 l4 l6 (Int32.ofNat c) (Int32.ofNat t) cc ss X K := by
  refine ⟨by omega, by omega, lg_reasonAgainst i hc ht X Zz _ w (fun X1 w1 => ⟨fun _ => k X1 _ _ w1 (by omega) (by omega), fun h => ⟨by omega, by omega, st (rf_recordIt_2 i hc ht h) w1 (fun X2 w2 => k X2 _ _ w2 (by omega) (by omega))⟩⟩)⟩
theorem r_853 (i : Inv (zG σ) n) (hc : c < n) (ht : t < 3) (h1 : cc + 19 ≤ 2000) (h2 : ss + 114 ≤ 12000) (w : Wd X σ Zz) (k : ∀ X1 cc1 ss1, Wd X1 σ Zz → cc1 ≤ cc + 19 → ss1 ≤ ss + 114 → P 1 l1 l2 l4 l6 1 (Int32.ofNat c + 1) cc1 ss1 X1) : w_L_refuses_853 P 1 l1 l2 l4 l6 (Int32.ofNat c) (Int32.ofNat t) cc ss X K := by
  refine ⟨by omega, by omega, lg_sessionOf i hc ht X Zz _ w (fun X1 w1 => ?_)⟩
  have e := ses_nn (i.2.1 c hc) ht
  refine ⟨fun h => ?_, fun h => ?_⟩
  · rw [e] at h
    have hb : Op (fun X K => w_L_bringBack 1 (Int32.ofNat c) (Int32.ofNat t) X K) σ (-4) σ := by
      by_cases p : gAn (zG σ) c t = 0
      · exact rf_bringBack_2 i hc ht p
      · exact rf_bringBack_3 i hc ht p h
    have ha : pCA (zG σ) n c t (Int32.ofNat 1) = false := by
      unfold pCA
      rw [h]
      simp
    refine ⟨by omega, by omega, st (rf_translate_3 (l := 5) i hc ht (by decide) (by decide) h) w1 (fun X2 w2 => ⟨by omega, by omega, st (rf_annex_3 (l := 1) i hc ht (by decide) (by decide) ha) w2 (fun X3 w3 => ⟨by omega, by omega, st hb w3 (fun X4 w4 => r_922 i hc ht (by omega) (by omega) w4 (fun X5 c5 s5 w5 h3 h4 => k X5 c5 s5 w5 (by omega) (by omega)))⟩)⟩)⟩
  · rw [e, Bool.not_eq_true] at h
    refine ⟨by omega, by omega, st (rf_wipe_2 i hc ht h) w1 (fun X2 w2 => r_922 i hc ht (by omega) (by omega) w2 (fun X5 c5 s5 w5 h3 h4 => k X5 c5 s5 w5 (by omega) (by omega)))⟩
theorem r_709 (i : Inv (zG σ) n) (hY : Y < 100000) (hR : inR l4 = false) (hT : inT l6 = false) (hc : c < n) (ht : t < 3) (h1 : cc + 53 ≤ 2000) (h2 : ss + 318 ≤ 12000) (w : Wd X σ Zz) (k : ∀ X1 cc1 ss1, Wd X1 σ Zz → cc1 ≤ cc + 53 → ss1 ≤ ss + 318 → P 1 (Int32.ofNat Y) l2 l4 l6 1 (Int32.ofNat c + 1) cc1 ss1 X1) : w_L_refuses_709 P 1 (Int32.ofNat Y) l2 l4 l6 (Int32.ofNat c) (Int32.ofNat t) (b2i (pTA (zG σ) c)) cc ss X K := by
  obtain ⟨r, hr, eR, e4⟩ := vCl_r (i.2.1 c hc)
  have hm : Op (fun X K => w_L_moveClause 1 (Int32.ofNat c) (Int32.ofNat r) X K) σ (-4) σ := by
    cases p : pTA (zG σ) c
    · exact rf_moveClause_3 i hc hr p eR
    · exact rf_moveClause_2 i hc hr p
  have hC := inC_of i.cn hc
  refine ⟨by omega, by omega, st (rf_changeLips_1 i hc (ipl (k := 61) hY (lo := 4) (by decide) (by decide))) w (fun X1 w1 => ?_)⟩
  refine ⟨by omega, by omega, st (rf_changeSigh_1 i hc (ipl (k := 21) hY (lo := 0) (by decide) (by decide))) w1 (fun X2 w2 => ?_)⟩
  refine ⟨by omega, by omega, st (rf_moveClause_1 i.cn hC hR) w2 (fun X3 w3 => ?_)⟩
  refine ⟨by omega, by omega, lg_clauseOf i hc X3 Zz _ w3 (fun X4 w4 => ?_)⟩
  simp only [e4]
  refine ⟨by omega, by omega, st hm w4 (fun X5 w5 => ?_)⟩
  refine ⟨by omega, by omega, st (rf_translate_1 i.cn hC hT) w5 (fun X6 w6 => ?_)⟩
  refine ⟨by omega, by omega, st (rf_translate_2 i hc ht (ipl (k := 61) hY (lo := 1) (by decide) (by decide))) w6 (fun X7 w7 => ?_)⟩
  refine ⟨by omega, by omega, st (rf_annex_2 i hc ht (ipl (k := 60) hY (lo := 1) (by decide) (by decide))) w7 (fun X8 w8 => ?_)⟩
  cases p : pTA (zG σ) c
  · exact ⟨fun _ => r_853 i hc ht (by omega) (by omega) w8 (fun X5 c5 s5 w5 h3 h4 => k X5 c5 s5 w5 (by omega) (by omega)), fun h => absurd rfl h⟩
  · refine ⟨fun h => absurd h (by decide), fun _ => ?_⟩
    refine ⟨by omega, by omega, st (rf_changeLips_2 (l := 60) i hc (by decide) (by decide) p) w8 (fun X9 w9 => ?_)⟩
    refine ⟨by omega, by omega, st (rf_changeSigh_2 (l := 0) i hc (by decide) (by decide) p) w9 (fun X10 w10 => ?_)⟩
    exact r_853 i hc ht (by omega) (by omega) w10 (fun X5 c5 s5 w5 h3 h4 => k X5 c5 s5 w5 (by omega) (by omega))
end
theorem r_1011 (i : Inv (zG σ) n) (h : Hg B (zG σ) n) (hY : Y < 100000) {cc ss : Nat} (h1 : cc + 12 ≤ 2000) (h2 : ss + 72 ≤ 12000) (w : Wd X σ Zz) (k : ∀ X1, Wd X1 σ Zz → K 1 X1) : w_L_refuses_1011 1 (Int32.ofNat Y) cc ss X K := by
  have e4 : Int32.ofNat Y - Int32.ofNat Y / (4 : Int32) * (4 : Int32) = Int32.ofNat (Y % 4) := nr (b := 4) (by omega) (by decide)
  have e5 : Int32.ofNat Y - Int32.ofNat Y / (5 : Int32) * (5 : Int32) = Int32.ofNat (Y % 5) := nr (b := 5) (by omega) (by decide)
  unfold w_L_refuses_1011
  rw [e4, e5]
  have hr : Y % 4 < 4 := by omega
  have hs : Y % 5 < 5 := by omega
  refine ⟨by omega, by omega, lg_mixOf (t := 1) i hr (by decide) X Zz _ w (fun X1 w1 => ?_)⟩
  rw [mx_d]
  refine ⟨fun _ => ⟨by omega, by omega, k X1 w1⟩, fun hx => ?_⟩
  cases p : pMx (zG σ) (Y % 4) 1
  · refine ⟨by omega, by omega, rf_sign_3 (t := 1) i hs hr (by decide) p X1 Zz _ w1 (fun X2 w2 => ⟨fun h => absurd rfl h, fun _ => ⟨by omega, by omega, k X2 w2⟩⟩)⟩
  · have q := mw i h hr (show 1 < 3 by decide) p
    rw [p, q] at hx
    exact absurd (by decide) hx
theorem r_983 (i : Inv (zG σ) n) (h : Hg B (zG σ) n) (hY : Y < 100000) {cc ss : Nat} (h1 : cc + 23 ≤ 2000) (h2 : ss + 138 ≤ 12000) (w : Wd X σ Zz) (k : ∀ X1, Wd X1 σ Zz → K 1 X1) : w_L_refuses_983 1 (Int32.ofNat Y) cc ss X K := by
  have e4 : Int32.ofNat Y - Int32.ofNat Y / (4 : Int32) * (4 : Int32) = Int32.ofNat (Y % 4) := nr (b := 4) (by omega) (by decide)
  unfold w_L_refuses_983
  rw [e4]
  have hr : Y % 4 < 4 := by omega
  refine ⟨by omega, by omega, lg_mixOf (t := 0) i hr (by decide) X Zz _ w (fun X1 w1 => ?_)⟩
  rw [mx_d]
  refine ⟨fun _ => r_1011 i h hY (by omega) (by omega) w1 k, fun hx => ?_⟩
  have hm : Op (fun X K => w_L_mix 1 (Int32.ofNat (Y % 4)) (Int32.ofNat 0) X K) σ (-4) σ := by
    cases p : pMx (zG σ) (Y % 4) 0
    · cases q : pWh (zG σ) n (Int32.ofNat (Y % 4)) 0
      · exact rf_mix_3 (t := 0) i hr (by decide) p q
      · rw [p, q] at hx
        exact absurd (by decide) hx
    · exact rf_mix_2 (t := 0) i hr (by decide) p
  exact ⟨by omega, by omega, st hm w1 (fun X2 w2 => r_1011 i h hY (by omega) (by omega) w2 k)⟩
theorem r_959 (i : Inv (zG σ) n) (h : Hg B (zG σ) n) (hY : Y < 100000) {cc ss : Nat} (h1 : cc + 27 ≤ 2000) (h2 : ss + 162 ≤ 12000) (w : Wd X σ Zz) (k : ∀ X1, Wd X1 σ Zz → K 1 X1) : w_L_refuses_959 1 (Int32.ofNat Y) (zG σ 366) 1 cc ss X K := by
  have hn := i.cn
  have hn2 := hn.2
  have e : (zG σ 366 < (24 : Int32)) = (n < 24) := by
    rw [hn.1]
    exact ltk (k := 24) (by omega) (by decide)
  refine ⟨fun hx => absurd hx (by decide), fun _ => ⟨fun _ => r_983 i h hY (by omega) (by omega) w k, fun hx => ?_⟩⟩
  rw [e] at hx
  exact ⟨by omega, by omega, st (rf_addClause_3 (r := 0) (s := 0) (l := 9) i (by decide) (by decide) (by decide) (by decide) hx) w (fun X2 w2 => r_983 i h hY (by omega) (by omega) w2 k)⟩
set_option maxRecDepth 100000 in
theorem r_648 {l4 l6 : Int32} (i : Inv (zG σ) n) (h : Hg B (zG σ) n) (hY : Y < 100000) (hR : inR l4 = false) (hT : inT l6 = false) (w : Wd X σ Zz) (k : ∀ X1, Wd X1 σ Zz → K 1 X1) : w_L_refuses_648 1 (Int32.ofNat Y) (zG σ 366) l4 l6 1 0 144 864 X K := by
  have hn := i.cn
  have hn2 := hn.2
  intro P hP
  have := dwn (n := n) (p := fun j => ∀ X1 cc ss, Wd X1 σ Zz → cc ≤ 144 + 62 * j → ss ≤ 864 + 372 * j → P 1 (Int32.ofNat Y) (zG σ 366) l4 l6 1 (Int32.ofNat j) cc ss X1) (fun X1 cc ss w1 h1 h2 => hP _ _ _ _ _ _ _ _ _ _ ?_) (fun j hj ih X1 cc ss w1 h1 h2 => hP _ _ _ _ _ _ _ _ _ _ ?_)
  · exact this X 144 864 w (by omega) (by omega)
  · clear hP
    refine ⟨fun _ => r_959 i h hY (by omega) (by omega) w1 k, fun hx => absurd (by rw [hn.1]; exact Int32.le_refl _) hx⟩
  · clear hP
    have e1 : ¬ (zG σ 366 ≤ Int32.ofNat j) := by
      rw [hn.1, of_le (by omega) (by omega)]
      omega
    have e2 : ¬ ((24 : Int32) ≤ Int32.ofNat j) := by
      rw [show (24 : Int32) = Int32.ofNat 24 from rfl, of_le (by omega) (by omega)]
      omega
    have e3 : (Int32.ofNat Y + Int32.ofNat j) - (Int32.ofNat Y + Int32.ofNat j) / (3 : Int32) * (3 : Int32) = Int32.ofNat ((Y + j) % 3) := by
      rw [la]
      exact nr (b := 3) (by omega) (by decide)
    have ht : (Y + j) % 3 < 3 := by omega
    have ic := i.2.1 j hj
    have fin : ∀ X2 cc2 ss2, Wd X2 σ Zz → cc2 ≤ 144 + 62 * j + 9 → ss2 ≤ 864 + 372 * j + 54 → w_L_refuses_709 P 1 (Int32.ofNat Y) (zG σ 366) l4 l6 (Int32.ofNat j) (Int32.ofNat ((Y + j) % 3)) (b2i (pTA (zG σ) j)) cc2 ss2 X2 K := fun X2 cc2 ss2 w2 h3 h4 => r_709 i hY hR hT hj ht (by omega) (by omega) w2 (fun X3 c3 s3 w3 h5 h6 => by
      have h7 : c3 ≤ 144 + 62 * (j + 1) := by omega
      have h8 : s3 ≤ 864 + 372 * (j + 1) := by omega
      have h9 := ih X3 c3 s3 w3 h7 h8
      rw [← of_s] at h9
      exact h9)
    refine ⟨fun hx => absurd hx e1, fun _ => ⟨fun hx => absurd hx e2, fun _ => ⟨fun hx => absurd hx (by decide), fun _ => ⟨by omega, by omega, lg_sessionOf (t := 0) i hj (by decide) X1 Zz _ w1 (fun X2 w2 => ?_)⟩⟩⟩⟩
    rw [e3]
    rw [ses_nn ic (show 0 < 3 by decide)]
    refine ⟨fun hx => ?_, fun hx => ⟨by omega, by omega, lg_sessionOf (t := 1) i hj (by decide) X2 Zz _ w2 (fun X3 w3 => ?_)⟩⟩
    · have hp : pTA (zG σ) j = true := by unfold pTA; rw [hx]; rfl
      have := fin X2 (cc + 3) (ss + 18) w2 (by omega) (by omega)
      rw [hp] at this
      exact this
    rw [ses_nn ic (show 1 < 3 by decide)]
    refine ⟨fun hy => ?_, fun hy => ⟨by omega, by omega, lg_sessionOf (t := 2) i hj (by decide) X3 Zz _ w3 (fun X4 w4 => ?_)⟩⟩
    · have hp : pTA (zG σ) j = true := by unfold pTA; rw [hy]; simp
      have := fin X3 (cc + 6) (ss + 36) w3 (by omega) (by omega)
      rw [hp] at this
      exact this
    rw [ses_lt ic (show 2 < 3 by decide)]
    rw [Bool.not_eq_true] at hx hy
    refine ⟨fun hz => ?_, fun hz => ?_⟩
    · have hp : pTA (zG σ) j = false := by unfold pTA; rw [hx, hy, hz]; rfl
      have := fin X4 (cc + 9) (ss + 54) w4 (by omega) (by omega)
      rw [hp] at this
      exact this
    · have hp : pTA (zG σ) j = true := by
        rw [Bool.not_eq_false] at hz
        unfold pTA
        rw [hz]
        simp
      have := fin X4 (cc + 9) (ss + 54) w4 (by omega) (by omega)
      rw [hp] at this
      exact this
theorem ok_refuses (iS : InvS B σ) (hY : Y < 100000) : Op (fun X K => w_L_refuses 1 (Int32.ofNat Y) X K) σ 1 σ := by
  intro X Zz K w k
  obtain ⟨n, i, h⟩ := iS.1
  have hn := i.cn
  have hn2 := hn.2
  have e2 : Int32.ofNat Y - Int32.ofNat Y / (2 : Int32) * (2 : Int32) = Int32.ofNat (Y % 2) := nr (b := 2) (by omega) (by decide)
  have go : ∀ (l3 l4 l5 s0 : Int32) X1, inC (zG σ 366) l3 = false → inR l4 = false → inS l5 = false → inT s0 = false → Wd X1 σ Zz → w_L_refuses_70 1 (Int32.ofNat Y) (zG σ 366) l3 l4 l5 s0 0 0 X1 K := fun l3 l4 l5 s0 X1 hC hR hS hT w1 => r_70 i hY hC hR hS hT w1 (fun X2 w2 => r_648 i h hY hR hT w2 k)
  refine ⟨w.1.t1, ok_clauses X Zz _ w (fun X1 w1 => ?_)⟩
  unfold w_L_refuses_20 w_L_refuses_36 w_L_refuses_53
  simp only [e2]
  by_cases hp : Int32.ofNat (Y % 2) = 0
  · refine ⟨fun h => absurd hp h, fun _ => ⟨fun h => absurd hp h, fun _ => ⟨fun h => absurd hp h, fun _ => ⟨fun h => absurd hp h, fun _ => ?_⟩⟩⟩⟩
    refine go _ _ _ _ X1 ?_ ?_ ?_ ?_ w1
    · rw [hn.1, la, ← hn.1]
      exact inC_big (by omega) hn (by omega)
    · rw [show (4 : Int32) = Int32.ofNat 4 from rfl, la]
      exact inR_big (by omega) (by omega)
    · rw [show (5 : Int32) = Int32.ofNat 5 from rfl, la]
      exact inS_big (by omega) (by omega)
    · rw [show (3 : Int32) = Int32.ofNat 3 from rfl, la]
      exact inT_big (by omega) (by omega)
  · refine ⟨fun _ => ⟨fun _ => ⟨fun _ => ⟨fun _ => ?_, fun h => absurd h hp⟩, fun h => absurd h hp⟩, fun h => absurd h hp⟩, fun h => absurd h hp⟩
    obtain ⟨g1, g2, g3, g4⟩ := in_neg (neg_y hY)
    exact go _ _ _ _ X1 (g4 _) g2 g3 g1 w1
end RF
