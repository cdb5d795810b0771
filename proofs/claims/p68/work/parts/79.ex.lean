/-! every call that the law makes: an answer, a state that hangs together -/
section EX
def Ex (B : Nat) (w : XH → (Int32 → XH → Prop) → Prop) (σ : St) : Prop := ∃ v σ', InvS (B + 1) σ' ∧ Op w σ v σ'
variable {B : Nat} {σ σ' : St} {w : XH → (Int32 → XH → Prop) → Prop} {v : Int32} {g' : Row} {n' : Nat}
theorem Ex.rf (iS : InvS B σ) (h : Op w σ v σ) : Ex B w σ := ⟨v, σ, iS.up (Nat.le_succ B), h⟩
theorem Ex.to (iS : InvS B σ') (h : Op w σ v σ') : Ex B w σ := ⟨v, σ', iS.up (Nat.le_succ B), h⟩
theorem Ex.ok (iS : InvS B σ) (i' : Inv g' n') (h' : Hg (B + 1) g' n') (h : Op w σ v (g', (pushS σ).2)) : Ex B w σ := ⟨v, _, (iS.up (Nat.le_succ B)).push ⟨n', i', h'⟩, h⟩
theorem Hg.s {g : Row} {n : Nat} (h : Hg B g n) : Hg (B + 1) g n := h.up (Nat.le_succ B)
theorem ex_addClause (iS : InvS B σ) (a b e : Int32) : Ex B (fun X K => w_L_addClause 1 a b e X K) σ := by
  obtain ⟨n, i, h⟩ := iS.1
  cases h0 : inR a
  · exact Ex.rf iS (rf_addClause_0 (n := n) h0)
  cases h1 : inS b
  · exact Ex.rf iS (rf_addClause_1 (n := n) h0 h1)
  obtain ⟨r, hr, rfl⟩ := inR_ex h0
  obtain ⟨s, hs, rfl⟩ := inS_ex h1
  cases p0 : inG e 4 60
  · exact Ex.rf iS (rf_addClause_2 i hr hs p0)
  obtain ⟨l, hl1, hl2, rfl⟩ := inG_ex (lo := 4) (hi := 60) (by decide) (by decide) p0
  by_cases p1 : n < 24
  · exact Ex.ok iS (iv_addClause i hr hs hl1 hl2 p1) (h.s.add i p1 hr) (ok_addClause i hr hs hl1 hl2 p1)
  · exact Ex.rf iS (rf_addClause_3 i hr hs hl1 hl2 p1)
theorem ex_changeLips (iS : InvS B σ) (a b : Int32) : Ex B (fun X K => w_L_changeLips 1 a b X K) σ := by
  obtain ⟨n, i, h⟩ := iS.1
  cases h0 : inC (zG σ 366) a
  · exact Ex.rf iS (rf_changeLips_0 i.cn h0)
  obtain ⟨c, hc, rfl⟩ := inC_ex i.cn h0
  cases p0 : inG b 4 60
  · exact Ex.rf iS (rf_changeLips_1 i hc p0)
  obtain ⟨l, hl1, hl2, rfl⟩ := inG_ex (lo := 4) (hi := 60) (by decide) (by decide) p0
  cases p1 : pTA (zG σ) c
  rotate_left
  · exact Ex.rf iS (rf_changeLips_2 i hc hl1 hl2 p1)
  by_cases p2 : gH (zG σ) c ≤ Int32.ofNat l
  · exact Ex.ok iS (iv_changeLips i hc hl1 hl2 p1 p2) (h.s.lips i hc p1) (ok_changeLips i hc hl1 hl2 p1 p2)
  · exact Ex.rf iS (rf_changeLips_3 i hc hl1 hl2 p1 p2)
theorem ex_changeSigh (iS : InvS B σ) (a b : Int32) : Ex B (fun X K => w_L_changeSigh 1 a b X K) σ := by
  obtain ⟨n, i, h⟩ := iS.1
  cases h0 : inC (zG σ 366) a
  · exact Ex.rf iS (rf_changeSigh_0 i.cn h0)
  obtain ⟨c, hc, rfl⟩ := inC_ex i.cn h0
  cases p0 : inG b 0 20
  · exact Ex.rf iS (rf_changeSigh_1 i hc p0)
  obtain ⟨l, hl1, hl2, rfl⟩ := inG_ex (lo := 0) (hi := 20) (by decide) (by decide) p0
  cases p1 : pTA (zG σ) c
  rotate_left
  · exact Ex.rf iS (rf_changeSigh_2 i hc hl1 hl2 p1)
  by_cases p2 : Int32.ofNat l ≤ gL (zG σ) c
  · exact Ex.ok iS (iv_changeSigh i hc hl1 hl2 p1 p2) (h.s.sigh i hc p1) (ok_changeSigh i hc hl1 hl2 p1 p2)
  · exact Ex.rf iS (rf_changeSigh_3 i hc hl1 hl2 p1 p2)
theorem ex_moveClause (iS : InvS B σ) (a b : Int32) : Ex B (fun X K => w_L_moveClause 1 a b X K) σ := by
  obtain ⟨n, i, h⟩ := iS.1
  cases h0 : inC (zG σ 366) a
  · exact Ex.rf iS (rf_moveClause_0 i.cn h0)
  cases h1 : inR b
  · exact Ex.rf iS (rf_moveClause_1 i.cn h0 h1)
  obtain ⟨c, hc, rfl⟩ := inC_ex i.cn h0
  obtain ⟨r, hr, rfl⟩ := inR_ex h1
  cases p1 : pTA (zG σ) c
  rotate_left
  · exact Ex.rf iS (rf_moveClause_2 i hc hr p1)
  by_cases p2 : gR (zG σ) c = Int32.ofNat r
  · exact Ex.rf iS (rf_moveClause_3 i hc hr p1 p2)
  · exact Ex.ok iS (iv_moveClause i hc hr p1 p2) (h.s.move i hc hr p1) (ok_moveClause i hc hr p1 p2)
theorem ex_translate (iS : InvS B σ) (a b e : Int32) : Ex B (fun X K => w_L_translate 1 a b e X K) σ := by
  obtain ⟨n, i, h⟩ := iS.1
  cases h0 : inC (zG σ 366) a
  · exact Ex.rf iS (rf_translate_0 i.cn h0)
  cases h1 : inT b
  · exact Ex.rf iS (rf_translate_1 i.cn h0 h1)
  obtain ⟨c, hc, rfl⟩ := inC_ex i.cn h0
  obtain ⟨t, ht, rfl⟩ := inT_ex h1
  cases p0 : inG e 1 60
  · exact Ex.rf iS (rf_translate_2 i hc ht p0)
  obtain ⟨l, hl1, hl2, rfl⟩ := inG_ex (lo := 1) (hi := 60) (by decide) (by decide) p0
  cases p1 : pTk (zG σ) c t
  rotate_left
  · exact Ex.rf iS (rf_translate_3 i hc ht hl1 hl2 p1)
  have ha := h.2.1 t ht
  exact Ex.ok iS (iv_translate i hc ht hl1 hl2 p1) (Hg.fa (f := l) (a := 0) i h.s hc ht p1 hl1 (by omega) (by omega) (by decide)) (ok_translate i hc ht hl1 hl2 p1)
theorem ex_annex (iS : InvS B σ) (a b e : Int32) : Ex B (fun X K => w_L_annex 1 a b e X K) σ := by
  obtain ⟨n, i, h⟩ := iS.1
  cases h0 : inC (zG σ 366) a
  · exact Ex.rf iS (rf_annex_0 i.cn h0)
  cases h1 : inT b
  · exact Ex.rf iS (rf_annex_1 i.cn h0 h1)
  obtain ⟨c, hc, rfl⟩ := inC_ex i.cn h0
  obtain ⟨t, ht, rfl⟩ := inT_ex h1
  cases p0 : inG e 1 59
  · exact Ex.rf iS (rf_annex_2 i hc ht p0)
  obtain ⟨l, hl1, hl2, rfl⟩ := inG_ex (lo := 1) (hi := 59) (by decide) (by decide) p0
  cases p1 : pCA (zG σ) n c t (Int32.ofNat l)
  · exact Ex.rf iS (rf_annex_3 i hc ht hl1 hl2 p1)
  obtain ⟨⟨f, a0, hf, eF, eA⟩, -⟩ := (i.2.1 c hc).2.2.2 t ht
  have ha := h.2.1 t ht
  have p2 := p1
  unfold pCA at p2
  rw [Bool.and_eq_true, Bool.and_eq_true, Bool.and_eq_true, Bool.not_eq_true', Bool.not_eq_true', Bool.not_eq_true', decide_eq_false_iff_not, decide_eq_false_iff_not] at p2
  obtain ⟨-, pk, pl, pm⟩ := p2
  rw [nAn_sum (i.an ht), ← Int32.ofNat_add] at pm
  have pm' : ¬ (99 < nAn (zG σ) t n + l) := fun hx => pm ((ltk (i := 99) (by decide) (by omega)).mpr hx)
  have pl' : ¬ ((f : Int) - l < 1) := fun hx => pl (by
    rw [eF, Int32.lt_iff_toInt_lt, sub_toInt (by rw [of_toInt (by omega), of_toInt (by omega)]; omega) (by rw [of_toInt (by omega), of_toInt (by omega)]; omega), of_toInt (by omega), of_toInt (by omega), t1]
    exact hx)
  have pF : Int32.ofNat l < gF (zG σ) c t := by
    rw [eF]
    exact (ltk (by omega) (by omega)).mpr (by omega)
  have hg := Hg.fa (f := f - l) (a := a0 + l) i h.s hc ht pk (by omega) (by omega) (by rw [eA, nc (by omega)]; omega) (by omega)
  refine Ex.ok iS (iv_annex i hc ht hl1 hl2 p1 pF) ?_ (ok_annex i hc ht hl1 hl2 p1 pF)
  rw [eF, eA, ← Int32.ofNat_sub _ _ (by omega), ← Int32.ofNat_add]
  exact hg
theorem ex_bringBack (iS : InvS B σ) (a b : Int32) : Ex B (fun X K => w_L_bringBack 1 a b X K) σ := by
  obtain ⟨n, i, h⟩ := iS.1
  cases h0 : inC (zG σ 366) a
  · exact Ex.rf iS (rf_bringBack_0 i.cn h0)
  cases h1 : inT b
  · exact Ex.rf iS (rf_bringBack_1 i.cn h0 h1)
  obtain ⟨c, hc, rfl⟩ := inC_ex i.cn h0
  obtain ⟨t, ht, rfl⟩ := inT_ex h1
  by_cases p1 : gAn (zG σ) c t = 0
  · exact Ex.rf iS (rf_bringBack_2 i hc ht p1)
  cases p2 : pTk (zG σ) c t
  rotate_left
  · exact Ex.rf iS (rf_bringBack_3 i hc ht p1 p2)
  obtain ⟨⟨f, a0, hf, eF, eA⟩, -⟩ := (i.2.1 c hc).2.2.2 t ht
  have ha := h.2.1 t ht
  have ha0 : a0 ≠ 0 := fun hx => p1 (by rw [eA, hx]; rfl)
  have hg := Hg.fa (f := f + a0) (a := 0) i h.s hc ht p2 (by omega) (by omega) (by omega) (by decide)
  refine Ex.ok iS (iv_bringBack i hc ht p1 p2) ?_ (ok_bringBack i hc ht p1 p2)
  rw [eF, eA, ← Int32.ofNat_add]
  exact hg
theorem ex_cast (iS : InvS B σ) (a b e : Int32) : Ex B (fun X K => w_L_cast 1 a b e X K) σ := by
  obtain ⟨n, i, h⟩ := iS.1
  cases h0 : inS a
  · exact Ex.rf iS (rf_cast_0 (n := n) h0)
  cases h1 : inT b
  · exact Ex.rf iS (rf_cast_1 (n := n) h0 h1)
  obtain ⟨s, hs, rfl⟩ := inS_ex h0
  obtain ⟨t, ht, rfl⟩ := inT_ex h1
  cases p0 : inG e 20 120
  · exact Ex.rf iS (rf_cast_2 i hs ht p0)
  obtain ⟨l, hl1, hl2, rfl⟩ := inG_ex (lo := 20) (hi := 120) (by decide) (by decide) p0
  by_cases p1 : gU (zG σ) s t ≤ Int32.ofNat l
  · exact Ex.ok iS (iv_cast i hs ht hl1 hl2 p1) (h.s.vo i (fun k hk => upr_ne (by omega)) (by rw [upr_ne (by omega)]; omega)) (ok_cast i hs ht hl1 hl2 p1)
  · exact Ex.rf iS (rf_cast_3 i hs ht hl1 hl2 p1)
theorem ex_recordIt (iS : InvS B σ) (a b : Int32) : Ex B (fun X K => w_L_recordIt 1 a b X K) σ := by
  obtain ⟨n, i, h⟩ := iS.1
  cases h0 : inC (zG σ 366) a
  · exact Ex.rf iS (rf_recordIt_0 i.cn h0)
  cases h1 : inT b
  · exact Ex.rf iS (rf_recordIt_1 i.cn h0 h1)
  obtain ⟨c, hc, rfl⟩ := inC_ex i.cn h0
  obtain ⟨t, ht, rfl⟩ := inT_ex h1
  obtain ⟨s, hs, eS⟩ := i.S c hc
  by_cases p1 : gRs (zG σ) c t = 0
  · exact Ex.ok iS (iv_recordIt i hc ht p1 hs eS) (h.s.rec i hc ht hs p1) (ok_recordIt i hc ht p1 hs eS)
  · exact Ex.rf iS (rf_recordIt_2 i hc ht p1)
theorem ex_wipe (iS : InvS B σ) (a b : Int32) : Ex B (fun X K => w_L_wipe 1 a b X K) σ := by
  obtain ⟨n, i, h⟩ := iS.1
  cases h0 : inC (zG σ 366) a
  · exact Ex.rf iS (rf_wipe_0 i.cn h0)
  cases h1 : inT b
  · exact Ex.rf iS (rf_wipe_1 i.cn h0 h1)
  obtain ⟨c, hc, rfl⟩ := inC_ex i.cn h0
  obtain ⟨t, ht, rfl⟩ := inT_ex h1
  obtain ⟨r, hr, eR⟩ := (i.2.1 c hc).1
  cases p1 : pTk (zG σ) c t
  · exact Ex.rf iS (rf_wipe_2 i hc ht p1)
  · exact Ex.ok iS (iv_wipe i hc ht p1 hr eR) (h.s.wipe i hc ht hr eR p1) (ok_wipe i hc ht p1 hr eR)
theorem ex_nextSession (iS : InvS B σ) : Ex B (fun X K => w_L_nextSession 1 X K) σ := by
  obtain ⟨n, i, h⟩ := iS.1
  obtain ⟨e, he, eE⟩ := i.2.2.2.2.2
  by_cases p : e < 999
  · refine Ex.ok iS (iv_nextSession i p eE) (h.s.vo i (fun k hk => (zUi_ne (by omega) (by decide)).trans (upr_ne (by omega))) ?_) (ok_nextSession p eE)
    rw [zUi_ne (by omega) (by decide), upr_eq, eE, of_s, nc (by omega), nc (by omega)]
    omega
  · exact Ex.rf iS (rf_nextSession_0 i p he eE)
theorem ex_mix (iS : InvS B σ) (a b : Int32) : Ex B (fun X K => w_L_mix 1 a b X K) σ := by
  obtain ⟨n, i, h⟩ := iS.1
  cases h0 : inR a
  · exact Ex.rf iS (rf_mix_0 (n := n) h0)
  cases h1 : inT b
  · exact Ex.rf iS (rf_mix_1 (n := n) h0 h1)
  obtain ⟨r, hr, rfl⟩ := inR_ex h0
  obtain ⟨t, ht, rfl⟩ := inT_ex h1
  cases p1 : pMx (zG σ) r t
  rotate_left
  · exact Ex.rf iS (rf_mix_2 i hr ht p1)
  cases p2 : pWh (zG σ) n (Int32.ofNat r) t
  · exact Ex.rf iS (rf_mix_3 i hr ht p1 p2)
  · exact Ex.ok iS (iv_mix i hr ht p1 p2) (h.mix i hr ht p1 p2) (ok_mix i hr ht p1 p2)
theorem ex_sign (iS : InvS B σ) (a b e : Int32) : Ex B (fun X K => w_L_sign 1 a b e X K) σ := by
  obtain ⟨n, i, h⟩ := iS.1
  cases h0 : inS a
  · exact Ex.rf iS (rf_sign_0 (n := n) h0)
  cases h1 : inR b
  · exact Ex.rf iS (rf_sign_1 (n := n) h0 h1)
  cases h2 : inT e
  · exact Ex.rf iS (rf_sign_2 (n := n) h0 h1 h2)
  obtain ⟨s, hs, rfl⟩ := inS_ex h0
  obtain ⟨r, hr, rfl⟩ := inR_ex h1
  obtain ⟨t, ht, rfl⟩ := inT_ex h2
  cases p1 : pMx (zG σ) r t
  · exact Ex.rf iS (rf_sign_3 i hs hr ht p1)
  cases p2 : pHd (zG σ) n (Int32.ofNat s) (Int32.ofNat r)
  · exact Ex.rf iS (rf_sign_4 i hs hr ht p1 p2)
  cases p3 : pSg (zG σ) s r t
  rotate_left
  · exact Ex.rf iS (rf_sign_5 i hs hr ht p1 p2 p3)
  · exact Ex.ok iS (iv_sign i hs hr ht p1 p2 p3) (h.s.sign i hs hr ht p1 p2) (ok_sign i hs hr ht p1 p2 p3)
theorem ex_undo (iS : InvS B σ) : Ex B (fun X K => w_L_undo 1 X K) σ := by
  by_cases h0 : zH σ = 0
  · exact Ex.rf iS (rf_undo_0 h0)
  · exact Ex.to (iS.undo (by omega)) (ok_undo (by omega))
theorem ex_keep (iS : InvS B σ) (a : Int32) : Ex B (fun X K => w_L_keep 1 a X K) σ := by
  cases h0 : inG a 0 1
  · exact Ex.rf iS (rf_keep_0 h0)
  · obtain ⟨x, -, hx, rfl⟩ := inG_ex (lo := 0) (hi := 1) (by decide) (by decide) h0
    exact Ex.to iS.keep (ok_keep (by omega))
theorem ex_goBack (iS : InvS B σ) (a : Int32) : Ex B (fun X K => w_L_goBack 1 a X K) σ := by
  cases h0 : inG a 0 1
  · exact Ex.rf iS (rf_goBack_0 h0)
  · obtain ⟨x, -, hx, rfl⟩ := inG_ex (lo := 0) (hi := 1) (by decide) (by decide) h0
    by_cases hk : zK σ x = 1
    · obtain ⟨n', i', h'⟩ := iS.2.2.1 x (by omega) hk
      exact Ex.ok iS i' h'.s (ok_goBack (by omega) hk)
    · exact Ex.rf iS (rf_goBack_1 (by omega) hk)
/-- a call that leaves how many were mixed -/
def E0 (B : Nat) (w : XH → (Int32 → XH → Prop) → Prop) (σ : St) : Prop := ∃ v σ', InvS B σ' ∧ Op w σ v σ'
theorem ex_append (iS : InvS B σ) (a : Int32) : E0 B (fun X K => w_L_append 1 a X K) σ := by
  cases h0 : inG a 33 126
  · exact ⟨_, _, iS, rf_append_0 h0⟩
  · obtain ⟨x, hx1, hx2, rfl⟩ := inG_ex (lo := 33) (hi := 126) (by decide) (by decide) h0
    by_cases hn : zN σ < 60
    · exact ⟨_, _, iS.app hx1 hx2, ok_append hx1 hx2 hn⟩
    · exact ⟨_, _, iS, rf_append_1 hx1 hx2 hn⟩
theorem ex_load (iS : InvS B σ) : Ex B (fun X K => w_L_load 1 X K) σ := by
  obtain ⟨n, i, h⟩ := iS.1
  cases hw : (whR (zN σ) (uT σ) 61 0).2 with
  | none => exact Ex.rf iS (rf_load_0 (n := n) iS hw)
  | some l =>
    obtain ⟨hok, hlen, hpos⟩ := wh_ok 61 0 l (Nat.zero_le _) hw
    by_cases hb : n + l.length ≤ 24
    · cases hs : sgOk l
      · exact Ex.rf iS (rf_load_2 iS i hw hb hs)
      · exact Ex.to ((iS.push ⟨_, addL_inv l _ n i hb hok hs, Hg.addL l _ n i h hb hok hs⟩).clr) (ok_load iS i hw hb hs)
    · exact Ex.rf iS (rf_load_1 iS i hw hb)
end EX
