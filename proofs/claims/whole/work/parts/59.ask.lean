/-! the questions that change nothing: class and reference give one answer -/
section PK
theorem hty_sI {X : XH} {a k : Nat} {v : Int32} : hty (sI X a k v) = hty X := rfl
theorem hln_sI {X : XH} {a k : Nat} {v : Int32} : hln (sI X a k v) = hln X := rfl
theorem hR_sI {X : XH} {a k : Nat} {v : Int32} : hR (sI X a k v) = hR X := rfl
theorem exIA : (xcI = xcA) = False := by decide
theorem exIS : (xcI = xcS) = False := by decide
theorem exAI : (xcA = xcI) = False := by decide
theorem exAS : (xcA = xcS) = False := by decide
theorem exSI : (xcS = xcI) = False := by decide
theorem exSA : (xcS = xcA) = False := by decide
theorem i20 : ((2 : Int32) = 0) = False := by decide
theorem i30 : ((3 : Int32) = 0) = False := by decide
theorem vp0 : vp_in (0 : Int32) 1 = True := vp_of (i := 0) (by decide) (by decide)
theorem nc0 : (0 : Int32).toNatClampNeg = 0 := rfl
theorem rf0 {X : XH} {K : Int32 → XH → Prop} (q : Shp X) : w_X5_refused 123 0 X K = K 0 (sI X 123 7 0) := by
  unfold w_X5_refused
  simp [q.t123]
theorem rf1 {X : XH} {K : Int32 → XH → Prop} (q : Shp X) : w_X5_refused 123 1 X K = K 1 (sI X 123 7 1) := by
  unfold w_X5_refused
  simp [q.t123, show ¬ ((1 : Int32) ≤ 0) from by decide]
theorem rf2 {X : XH} {K : Int32 → XH → Prop} (q : Shp X) : w_X5_refused 123 2 X K = K 1 (sI X 123 7 2) := by
  unfold w_X5_refused
  simp [q.t123, show ¬ ((2 : Int32) ≤ 0) from by decide]
theorem rf3 {X : XH} {K : Int32 → XH → Prop} (q : Shp X) : w_X5_refused 123 3 X K = K 1 (sI X 123 7 3) := by
  unfold w_X5_refused
  simp [q.t123, show ¬ ((3 : Int32) ≤ 0) from by decide]
theorem RR.thr {X : XH} {g : Row} {v : Int32} (h : RR X g) : RR (sI X 123 7 v) g := fun k hk => h k hk
theorem t3 : (3 : Int32).toInt = 3 := rfl
theorem t4 : (4 : Int32).toInt = 4 := rfl
theorem t5 : (5 : Int32).toInt = 5 := rfl
theorem t2 : (2 : Int32).toInt = 2 := rfl
theorem qT {b : Int32} : inQ b 0 2 = inT b := by
  unfold inQ inT
  simp only [Int32.lt_iff_toInt_lt, t0, t2, t3]
  by_cases h1 : b.toInt < 0 <;> by_cases h2 : b.toInt < 3 <;> simp [h1, h2] <;> omega
theorem qR {b : Int32} : inQ b 0 3 = inR b := by
  unfold inQ inR
  simp only [Int32.lt_iff_toInt_lt, t0, t3, t4]
  by_cases h1 : b.toInt < 0 <;> by_cases h2 : b.toInt < 4 <;> simp [h1, h2] <;> omega
theorem qS {b : Int32} : inQ b 0 4 = inS b := by
  unfold inQ inS
  simp only [Int32.lt_iff_toInt_lt, t0, t4, t5]
  by_cases h1 : b.toInt < 0 <;> by_cases h2 : b.toInt < 5 <;> simp [h1, h2] <;> omega
theorem qC {g : Row} {n : Nat} (hn : Cn g n) {a : Int32} : inQ a 0 (g 366 - 1) = inC (g 366) a := by
  have h9 := hn.2
  unfold inQ inC
  rw [hn.1]
  simp only [Int32.lt_iff_toInt_lt]
  rw [sub_toInt (by rw [of_toInt (by omega), t1]; omega) (by rw [of_toInt (by omega), t1]; omega), of_toInt (by omega), t0, t1]
  by_cases h1 : a.toInt < 0 <;> by_cases h2 : a.toInt < n <;> simp [h1, h2] <;> omega
theorem ex_of {a : Int32} {n : Nat} (h0 : ¬ a < 0) (h : a.toInt < n) : ∃ c, c < n ∧ a = Int32.ofNat c := by
  have h1 : 0 ≤ a := by rw [Int32.not_lt] at h0; exact h0
  refine ⟨a.toNatClampNeg, ?_, (Int32.ofNat_toNatClampNeg a h1).symm⟩
  have := Int32.toInt_eq_toNatClampNeg h1
  omega
theorem inC_ex {g : Row} {n : Nat} (hn : Cn g n) {a : Int32} (h : inC (g 366) a = true) : ∃ c, c < n ∧ a = Int32.ofNat c := by
  have h9 := hn.2
  unfold inC at h
  simp only [Bool.and_eq_true, Bool.not_eq_true', decide_eq_false_iff_not, decide_eq_true_eq] at h
  refine ex_of h.1 ?_
  have h2 := h.2
  rw [hn.1, Int32.lt_iff_toInt_lt, of_toInt (by omega)] at h2
  exact h2
theorem inT_ex {a : Int32} (h : inT a = true) : ∃ c, c < 3 ∧ a = Int32.ofNat c := by
  unfold inT at h
  simp only [Bool.and_eq_true, Bool.not_eq_true', decide_eq_false_iff_not, decide_eq_true_eq] at h
  refine ex_of h.1 ?_
  have h2 := h.2
  rw [Int32.lt_iff_toInt_lt, t3] at h2
  exact h2
theorem inR_ex {a : Int32} (h : inR a = true) : ∃ c, c < 4 ∧ a = Int32.ofNat c := by
  unfold inR at h
  simp only [Bool.and_eq_true, Bool.not_eq_true', decide_eq_false_iff_not, decide_eq_true_eq] at h
  refine ex_of h.1 ?_
  have h2 := h.2
  rw [Int32.lt_iff_toInt_lt, t4] at h2
  exact h2
theorem inS_ex {a : Int32} (h : inS a = true) : ∃ c, c < 5 ∧ a = Int32.ofNat c := by
  unfold inS at h
  simp only [Bool.and_eq_true, Bool.not_eq_true', decide_eq_false_iff_not, decide_eq_true_eq] at h
  refine ex_of h.1 ?_
  have h2 := h.2
  rw [Int32.lt_iff_toInt_lt, t5] at h2
  exact h2
/-- what holds of a state: of its row, of those that are saved, of the slots, of the signs -/
def InvS (σ : St) : Prop := (∃ n, Inv (zG σ) n) ∧ (∀ j, j < zH σ → ∃ n, Inv (zP σ j) n) ∧ (∀ k, k < 2 → zK σ k = 1 → ∃ n, Inv (zS σ k) n) ∧ ∀ k, k < zN σ → ∃ s, 33 ≤ s ∧ s ≤ 126 ∧ zT σ k = Int32.ofNat s
/-- a call that answers an int, or throws -/
def OpI (wL wM : XH → (Int32 → XH → Prop) → Prop) (σ : St) : Prop := ∃ (cd v : Int32) (σ' : St), InvS σ' ∧
  (∀ X m o K, Wd X σ m o → (∀ X1 o1, Wd X1 σ' m o1 → (cd = 0 → o1.1 = Int32.toInt64 v) → K cd X1) → wL X K) ∧
  ∀ X d o K, Wd X d σ o → (∀ X1 u, Wd X1 d σ' (o.1, o.2.1, cd) → (cd = 0 → u = v) → K u X1) → wM X K
/-- a call that answers a boolean, or throws -/
def OpB (wL wM : XH → (Int32 → XH → Prop) → Prop) (σ : St) : Prop := ∃ (cd : Int32) (b : Bool) (σ' : St), InvS σ' ∧
  (∀ X m o K, Wd X σ m o → (∀ X1 o1, Wd X1 σ' m o1 → (cd = 0 → o1.1 = if b = true then 1 else 0) → K cd X1) → wL X K) ∧
  ∀ X d o K, Wd X d σ o → (∀ X1 u, Wd X1 d σ' (o.1, o.2.1, cd) → (cd = 0 → u = b2i b) → K u X1) → wM X K
/-- a call that answers an int and never throws -/
def OpN (wC wM : XH → (Int32 → XH → Prop) → Prop) (σ : St) : Prop := ∃ (v : Int32) (σ' : St), InvS σ' ∧
  (∀ X m o K, Wd X σ m o → (∀ X1, Wd X1 σ' m o → K v X1) → wC X K) ∧
  ∀ X d o K, Wd X d σ o → (∀ X1 o1, Wd X1 d σ' o1 → K v X1) → wM X K
theorem Wd.thr {X : XH} {c m : St} {o : Ou} {v : Int32} (w : Wd X c m o) : Wd (sI X 123 7 v) c m (o.1, o.2.1, v) := by
  have f : Fr (dRg 123 128) X (sI X 123 7 v) := ⟨w.1, rfl, rfl, fun a ha => ⟨sI_ne (fun e => by rw [e] at ha; revert ha; decide), rfl⟩⟩
  have k : MS (sI X 123 7 v) m := by
    obtain ⟨h1, ⟨h2, h3⟩, h4, h5, h6, h7, h8⟩ := w.2.2.1
    exact ⟨fun k hk => h1 k hk, ⟨h2, h3⟩, fun j hj k hk => h4 j hj k hk, fun k hk => h5 k hk, h6, h7, fun k hk => h8 k hk⟩
  exact w.mod f k
theorem Wd.rr {X : XH} {d σ : St} {o : Ou} (w : Wd X d σ o) : RR X (zG σ) := w.2.2.1.1
theorem vpX {X : XH} (q : Shp X) : vp_in (0 : Int32) (hln X 129) := by
  rw [q.n129, vp0]
  trivial
theorem x_badT {X : XH} {g : Row} {n c t : Nat} {K : Int32 → XH → Prop} (q : Shp X) (h : RR X g) (hn : Cn g n) (h1 : inC (g 366) (Int32.ofNat c) = true) (h2 : inT (Int32.ofNat t) = true) (hc : c < 24) (ht : t < 3) : w_X5_badTranslation 123 (Int32.ofNat c) (Int32.ofNat t) X K = K (if pHas g c t = true then 0 else 2) X := by
  simp only [w_X5_badTranslation, q.t123, x_are q h, qC hn, qT, h1, h2, x_frames q h hc ht, hty_sI, hln_sI, hR_sI, cnd1, cnd2, b2i_0, b2i_1, b2i_z, if_true, if_false, true_and, and_true, true_implies, false_implies, ne_eq, not_false_eq_true, not_true_eq_false, eq_self, exIA, exIS, exAI, exAS, exSI, exSA, true_or, or_true, false_or, or_false, Nat.reduceEqDiff, Bool.true_and, Bool.and_true, Bool.false_and, Bool.and_false, Bool.true_eq_false, Bool.false_eq_true, i10, i20, i30, vp0, nc0]
  have e : (gF g c t ≤ 0) = (pHas g c t = false) := by unfold pHas; simp
  simp only [e]
  cases pHas g c t <;> simp
theorem x_badF {X : XH} {g : Row} {n : Nat} {a b : Int32} {K : Int32 → XH → Prop} (q : Shp X) (h : RR X g) (hn : Cn g n) (h1 : (inC (g 366) a && inT b) = false) : w_X5_badTranslation 123 a b X K = K 1 X := by
  simp only [w_X5_badTranslation, q.t123, x_are q h, qC hn, qT, h1, hty_sI, hln_sI, hR_sI, cnd1, cnd2, b2i_0, b2i_1, b2i_z, if_true, if_false, true_and, and_true, true_implies, false_implies, ne_eq, not_false_eq_true, not_true_eq_false, eq_self, exIA, exIS, exAI, exAS, exSI, exSA, true_or, or_true, false_or, or_false, Nat.reduceEqDiff, Bool.true_and, Bool.and_true, Bool.false_and, Bool.and_false, Bool.true_eq_false, Bool.false_eq_true, i10, i20, i30, vp0, nc0]
end PK

section PK2
theorem op_reelOf {σ : St} {n : Nat} (iS : InvS σ) (i : Inv (zG σ) n) (a : Int32) : OpI (fun X K => w_L_reelOf 1 a 129 X K) (fun X K => w_X5_reelOf 123 a X K) σ := by
  have hn := i.cn
  cases h0 : inC (zG σ 366) a
  · refine ⟨1, 0, σ, iS, fun X m o K w k => ?_, fun X d o K w k => ?_⟩
    · have q := w.1
      have h : TR X 2 (zG σ) := w.2.1.1
      simp only [w_L_reelOf, w_X4_reelOf, q.t1, q.r1_0, q.t2, e_checkClause q h, h0, hty_sI, hln_sI, hR_sI, cnd1, cnd2, b2i_0, b2i_1, b2i_z, if_true, if_false, true_and, and_true, true_implies, false_implies, ne_eq, not_false_eq_true, not_true_eq_false, eq_self, exIA, exIS, exAI, exAS, exSI, exSA, true_or, or_true, false_or, or_false, Nat.reduceEqDiff, Bool.true_and, Bool.and_true, Bool.false_and, Bool.and_false, Bool.true_eq_false, Bool.false_eq_true, i10, i20, i30, vp0, nc0]
      exact k _ _ w (fun e => absurd e (by decide))
    · have q := w.1
      have h := w.rr
      simp only [w_X5_reelOf, w_X5_ofClause, w_X5_ofClause_14, q.t123, q.r123_0, q.t124, q.n124, x_isClause q h, qC hn, h0, rf0 q, rf1 q, rf2 q, rf3 q, hty_sI, hln_sI, hR_sI, cnd1, cnd2, b2i_0, b2i_1, b2i_z, if_true, if_false, true_and, and_true, true_implies, false_implies, ne_eq, not_false_eq_true, not_true_eq_false, eq_self, exIA, exIS, exAI, exAS, exSI, exSA, true_or, or_true, false_or, or_false, Nat.reduceEqDiff, Bool.true_and, Bool.and_true, Bool.false_and, Bool.and_false, Bool.true_eq_false, Bool.false_eq_true, i10, i20, i30, vp0, nc0]
      exact k _ _ w.thr (fun e => absurd e (by decide))
  · skip
    obtain ⟨c, hc, rfl⟩ := inC_ex hn h0
    have hcn := hc
    replace hc : c < 24 := Nat.lt_of_lt_of_le hc hn.2
    refine ⟨0, gR (zG σ) c, σ, iS, fun X m o K w k => ?_, fun X d o K w k => ?_⟩
    · have q := w.1
      have h : TR X 2 (zG σ) := w.2.1.1
      simp only [w_L_reelOf, w_X4_reelOf, q.t1, q.r1_0, q.t2, q.t129, q.n129, e_checkClause q h, e_reelAt q h hc, h0, hty_sI, hln_sI, hR_sI, cnd1, cnd2, b2i_0, b2i_1, b2i_z, if_true, if_false, true_and, and_true, true_implies, false_implies, ne_eq, not_false_eq_true, not_true_eq_false, eq_self, exIA, exIS, exAI, exAS, exSI, exSA, true_or, or_true, false_or, or_false, Nat.reduceEqDiff, Bool.true_and, Bool.and_true, Bool.false_and, Bool.and_false, Bool.true_eq_false, Bool.false_eq_true, i10, i20, i30, vp0, nc0]
      exact k _ _ w.out (fun _ => rfl)
    · have q := w.1
      have h := w.rr
      have q1 : Shp (sI X 123 7 0) := q
      have hh : RR (sI X 123 7 0) (zG σ) := h.thr
      simp only [w_X5_reelOf, w_X5_ofClause, w_X5_ofClause_14, q.t123, q.r123_0, q.t124, q.n124, x_isClause q h, qC hn, ix0_eq, vp3 (show 13 * c < 371 by omega), hh.v (show 13 * c < 371 by omega), w_X5_at, h0, rf0 q, rf1 q, rf2 q, rf3 q, hty_sI, hln_sI, hR_sI, cnd1, cnd2, b2i_0, b2i_1, b2i_z, if_true, if_false, true_and, and_true, true_implies, false_implies, ne_eq, not_false_eq_true, not_true_eq_false, eq_self, exIA, exIS, exAI, exAS, exSI, exSA, true_or, or_true, false_or, or_false, Nat.reduceEqDiff, Bool.true_and, Bool.and_true, Bool.false_and, Bool.and_false, Bool.true_eq_false, Bool.false_eq_true, i10, i20, i30, vp0, nc0]
      exact k _ _ w.thr (fun _ => rfl)
theorem op_speakerOf {σ : St} {n : Nat} (iS : InvS σ) (i : Inv (zG σ) n) (a : Int32) : OpI (fun X K => w_L_speakerOf 1 a 129 X K) (fun X K => w_X5_speakerOf 123 a X K) σ := by
  have hn := i.cn
  cases h0 : inC (zG σ 366) a
  · refine ⟨1, 0, σ, iS, fun X m o K w k => ?_, fun X d o K w k => ?_⟩
    · have q := w.1
      have h : TR X 2 (zG σ) := w.2.1.1
      simp only [w_L_speakerOf, w_X4_speakerOf, q.t1, q.r1_0, q.t2, e_checkClause q h, h0, hty_sI, hln_sI, hR_sI, cnd1, cnd2, b2i_0, b2i_1, b2i_z, if_true, if_false, true_and, and_true, true_implies, false_implies, ne_eq, not_false_eq_true, not_true_eq_false, eq_self, exIA, exIS, exAI, exAS, exSI, exSA, true_or, or_true, false_or, or_false, Nat.reduceEqDiff, Bool.true_and, Bool.and_true, Bool.false_and, Bool.and_false, Bool.true_eq_false, Bool.false_eq_true, i10, i20, i30, vp0, nc0]
      exact k _ _ w (fun e => absurd e (by decide))
    · have q := w.1
      have h := w.rr
      simp only [w_X5_speakerOf, w_X5_ofClause, w_X5_ofClause_14, q.t123, q.r123_0, q.t124, q.n124, x_isClause q h, qC hn, h0, rf0 q, rf1 q, rf2 q, rf3 q, hty_sI, hln_sI, hR_sI, cnd1, cnd2, b2i_0, b2i_1, b2i_z, if_true, if_false, true_and, and_true, true_implies, false_implies, ne_eq, not_false_eq_true, not_true_eq_false, eq_self, exIA, exIS, exAI, exAS, exSI, exSA, true_or, or_true, false_or, or_false, Nat.reduceEqDiff, Bool.true_and, Bool.and_true, Bool.false_and, Bool.and_false, Bool.true_eq_false, Bool.false_eq_true, i10, i20, i30, vp0, nc0]
      exact k _ _ w.thr (fun e => absurd e (by decide))
  · skip
    obtain ⟨c, hc, rfl⟩ := inC_ex hn h0
    have hcn := hc
    replace hc : c < 24 := Nat.lt_of_lt_of_le hc hn.2
    refine ⟨0, gS (zG σ) c, σ, iS, fun X m o K w k => ?_, fun X d o K w k => ?_⟩
    · have q := w.1
      have h : TR X 2 (zG σ) := w.2.1.1
      simp only [w_L_speakerOf, w_X4_speakerOf, q.t1, q.r1_0, q.t2, q.t129, q.n129, e_checkClause q h, e_speakerAt q h hc, h0, hty_sI, hln_sI, hR_sI, cnd1, cnd2, b2i_0, b2i_1, b2i_z, if_true, if_false, true_and, and_true, true_implies, false_implies, ne_eq, not_false_eq_true, not_true_eq_false, eq_self, exIA, exIS, exAI, exAS, exSI, exSA, true_or, or_true, false_or, or_false, Nat.reduceEqDiff, Bool.true_and, Bool.and_true, Bool.false_and, Bool.and_false, Bool.true_eq_false, Bool.false_eq_true, i10, i20, i30, vp0, nc0]
      exact k _ _ w.out (fun _ => rfl)
    · have q := w.1
      have h := w.rr
      have q1 : Shp (sI X 123 7 0) := q
      have hh : RR (sI X 123 7 0) (zG σ) := h.thr
      simp only [w_X5_speakerOf, w_X5_ofClause, w_X5_ofClause_14, q.t123, q.r123_0, q.t124, q.n124, x_isClause q h, qC hn, ix1_eq, vp3 (show 13 * c + 1 < 371 by omega), hh.v (show 13 * c + 1 < 371 by omega), w_X5_at, h0, rf0 q, rf1 q, rf2 q, rf3 q, hty_sI, hln_sI, hR_sI, cnd1, cnd2, b2i_0, b2i_1, b2i_z, if_true, if_false, true_and, and_true, true_implies, false_implies, ne_eq, not_false_eq_true, not_true_eq_false, eq_self, exIA, exIS, exAI, exAS, exSI, exSA, true_or, or_true, false_or, or_false, Nat.reduceEqDiff, Bool.true_and, Bool.and_true, Bool.false_and, Bool.and_false, Bool.true_eq_false, Bool.false_eq_true, i10, i20, i30, vp0, nc0]
      exact k _ _ w.thr (fun _ => rfl)
theorem op_lipsOf {σ : St} {n : Nat} (iS : InvS σ) (i : Inv (zG σ) n) (a : Int32) : OpI (fun X K => w_L_lipsOf 1 a 129 X K) (fun X K => w_X5_lipsOf 123 a X K) σ := by
  have hn := i.cn
  cases h0 : inC (zG σ 366) a
  · refine ⟨1, 0, σ, iS, fun X m o K w k => ?_, fun X d o K w k => ?_⟩
    · have q := w.1
      have h : TR X 2 (zG σ) := w.2.1.1
      simp only [w_L_lipsOf, w_X4_lipsOf, q.t1, q.r1_0, q.t2, e_checkClause q h, h0, hty_sI, hln_sI, hR_sI, cnd1, cnd2, b2i_0, b2i_1, b2i_z, if_true, if_false, true_and, and_true, true_implies, false_implies, ne_eq, not_false_eq_true, not_true_eq_false, eq_self, exIA, exIS, exAI, exAS, exSI, exSA, true_or, or_true, false_or, or_false, Nat.reduceEqDiff, Bool.true_and, Bool.and_true, Bool.false_and, Bool.and_false, Bool.true_eq_false, Bool.false_eq_true, i10, i20, i30, vp0, nc0]
      exact k _ _ w (fun e => absurd e (by decide))
    · have q := w.1
      have h := w.rr
      simp only [w_X5_lipsOf, w_X5_ofClause, w_X5_ofClause_14, q.t123, q.r123_0, q.t124, q.n124, x_isClause q h, qC hn, h0, rf0 q, rf1 q, rf2 q, rf3 q, hty_sI, hln_sI, hR_sI, cnd1, cnd2, b2i_0, b2i_1, b2i_z, if_true, if_false, true_and, and_true, true_implies, false_implies, ne_eq, not_false_eq_true, not_true_eq_false, eq_self, exIA, exIS, exAI, exAS, exSI, exSA, true_or, or_true, false_or, or_false, Nat.reduceEqDiff, Bool.true_and, Bool.and_true, Bool.false_and, Bool.and_false, Bool.true_eq_false, Bool.false_eq_true, i10, i20, i30, vp0, nc0]
      exact k _ _ w.thr (fun e => absurd e (by decide))
  · skip
    obtain ⟨c, hc, rfl⟩ := inC_ex hn h0
    have hcn := hc
    replace hc : c < 24 := Nat.lt_of_lt_of_le hc hn.2
    refine ⟨0, gL (zG σ) c, σ, iS, fun X m o K w k => ?_, fun X d o K w k => ?_⟩
    · have q := w.1
      have h : TR X 2 (zG σ) := w.2.1.1
      simp only [w_L_lipsOf, w_X4_lipsOf, q.t1, q.r1_0, q.t2, q.t129, q.n129, e_checkClause q h, e_lipsAt q h hc, h0, hty_sI, hln_sI, hR_sI, cnd1, cnd2, b2i_0, b2i_1, b2i_z, if_true, if_false, true_and, and_true, true_implies, false_implies, ne_eq, not_false_eq_true, not_true_eq_false, eq_self, exIA, exIS, exAI, exAS, exSI, exSA, true_or, or_true, false_or, or_false, Nat.reduceEqDiff, Bool.true_and, Bool.and_true, Bool.false_and, Bool.and_false, Bool.true_eq_false, Bool.false_eq_true, i10, i20, i30, vp0, nc0]
      exact k _ _ w.out (fun _ => rfl)
    · have q := w.1
      have h := w.rr
      have q1 : Shp (sI X 123 7 0) := q
      have hh : RR (sI X 123 7 0) (zG σ) := h.thr
      simp only [w_X5_lipsOf, w_X5_ofClause, w_X5_ofClause_14, q.t123, q.r123_0, q.t124, q.n124, x_isClause q h, qC hn, ix2_eq, vp3 (show 13 * c + 2 < 371 by omega), hh.v (show 13 * c + 2 < 371 by omega), w_X5_at, h0, rf0 q, rf1 q, rf2 q, rf3 q, hty_sI, hln_sI, hR_sI, cnd1, cnd2, b2i_0, b2i_1, b2i_z, if_true, if_false, true_and, and_true, true_implies, false_implies, ne_eq, not_false_eq_true, not_true_eq_false, eq_self, exIA, exIS, exAI, exAS, exSI, exSA, true_or, or_true, false_or, or_false, Nat.reduceEqDiff, Bool.true_and, Bool.and_true, Bool.false_and, Bool.and_false, Bool.true_eq_false, Bool.false_eq_true, i10, i20, i30, vp0, nc0]
      exact k _ _ w.thr (fun _ => rfl)
theorem op_sighOf {σ : St} {n : Nat} (iS : InvS σ) (i : Inv (zG σ) n) (a : Int32) : OpI (fun X K => w_L_sighOf 1 a 129 X K) (fun X K => w_X5_sighOf 123 a X K) σ := by
  have hn := i.cn
  cases h0 : inC (zG σ 366) a
  · refine ⟨1, 0, σ, iS, fun X m o K w k => ?_, fun X d o K w k => ?_⟩
    · have q := w.1
      have h : TR X 2 (zG σ) := w.2.1.1
      simp only [w_L_sighOf, w_X4_sighOf, q.t1, q.r1_0, q.t2, e_checkClause q h, h0, hty_sI, hln_sI, hR_sI, cnd1, cnd2, b2i_0, b2i_1, b2i_z, if_true, if_false, true_and, and_true, true_implies, false_implies, ne_eq, not_false_eq_true, not_true_eq_false, eq_self, exIA, exIS, exAI, exAS, exSI, exSA, true_or, or_true, false_or, or_false, Nat.reduceEqDiff, Bool.true_and, Bool.and_true, Bool.false_and, Bool.and_false, Bool.true_eq_false, Bool.false_eq_true, i10, i20, i30, vp0, nc0]
      exact k _ _ w (fun e => absurd e (by decide))
    · have q := w.1
      have h := w.rr
      simp only [w_X5_sighOf, w_X5_ofClause, w_X5_ofClause_14, q.t123, q.r123_0, q.t124, q.n124, x_isClause q h, qC hn, h0, rf0 q, rf1 q, rf2 q, rf3 q, hty_sI, hln_sI, hR_sI, cnd1, cnd2, b2i_0, b2i_1, b2i_z, if_true, if_false, true_and, and_true, true_implies, false_implies, ne_eq, not_false_eq_true, not_true_eq_false, eq_self, exIA, exIS, exAI, exAS, exSI, exSA, true_or, or_true, false_or, or_false, Nat.reduceEqDiff, Bool.true_and, Bool.and_true, Bool.false_and, Bool.and_false, Bool.true_eq_false, Bool.false_eq_true, i10, i20, i30, vp0, nc0]
      exact k _ _ w.thr (fun e => absurd e (by decide))
  · skip
    obtain ⟨c, hc, rfl⟩ := inC_ex hn h0
    have hcn := hc
    replace hc : c < 24 := Nat.lt_of_lt_of_le hc hn.2
    refine ⟨0, gH (zG σ) c, σ, iS, fun X m o K w k => ?_, fun X d o K w k => ?_⟩
    · have q := w.1
      have h : TR X 2 (zG σ) := w.2.1.1
      simp only [w_L_sighOf, w_X4_sighOf, q.t1, q.r1_0, q.t2, q.t129, q.n129, e_checkClause q h, e_sighAt q h hc, h0, hty_sI, hln_sI, hR_sI, cnd1, cnd2, b2i_0, b2i_1, b2i_z, if_true, if_false, true_and, and_true, true_implies, false_implies, ne_eq, not_false_eq_true, not_true_eq_false, eq_self, exIA, exIS, exAI, exAS, exSI, exSA, true_or, or_true, false_or, or_false, Nat.reduceEqDiff, Bool.true_and, Bool.and_true, Bool.false_and, Bool.and_false, Bool.true_eq_false, Bool.false_eq_true, i10, i20, i30, vp0, nc0]
      exact k _ _ w.out (fun _ => rfl)
    · have q := w.1
      have h := w.rr
      have q1 : Shp (sI X 123 7 0) := q
      have hh : RR (sI X 123 7 0) (zG σ) := h.thr
      simp only [w_X5_sighOf, w_X5_ofClause, w_X5_ofClause_14, q.t123, q.r123_0, q.t124, q.n124, x_isClause q h, qC hn, ix3_eq, vp3 (show 13 * c + 3 < 371 by omega), hh.v (show 13 * c + 3 < 371 by omega), w_X5_at, h0, rf0 q, rf1 q, rf2 q, rf3 q, hty_sI, hln_sI, hR_sI, cnd1, cnd2, b2i_0, b2i_1, b2i_z, if_true, if_false, true_and, and_true, true_implies, false_implies, ne_eq, not_false_eq_true, not_true_eq_false, eq_self, exIA, exIS, exAI, exAS, exSI, exSA, true_or, or_true, false_or, or_false, Nat.reduceEqDiff, Bool.true_and, Bool.and_true, Bool.false_and, Bool.and_false, Bool.true_eq_false, Bool.false_eq_true, i10, i20, i30, vp0, nc0]
      exact k _ _ w.thr (fun _ => rfl)
theorem op_isTranslated {σ : St} {n : Nat} (iS : InvS σ) (i : Inv (zG σ) n) (a b : Int32) : OpB (fun X K => w_L_isTranslated 1 a b 129 X K) (fun X K => w_X5_isTranslated 123 a b X K) σ := by
  have hn := i.cn
  cases h0 : inC (zG σ 366) a
  · refine ⟨1, false, σ, iS, fun X m o K w k => ?_, fun X d o K w k => ?_⟩
    · have q := w.1
      have h : TR X 2 (zG σ) := w.2.1.1
      simp only [w_L_isTranslated, w_X4_isTranslated, q.t1, q.r1_0, q.t2, e_checkTranslation q h, h0, hty_sI, hln_sI, hR_sI, cnd1, cnd2, b2i_0, b2i_1, b2i_z, if_true, if_false, true_and, and_true, true_implies, false_implies, ne_eq, not_false_eq_true, not_true_eq_false, eq_self, exIA, exIS, exAI, exAS, exSI, exSA, true_or, or_true, false_or, or_false, Nat.reduceEqDiff, Bool.true_and, Bool.and_true, Bool.false_and, Bool.and_false, Bool.true_eq_false, Bool.false_eq_true, i10, i20, i30, vp0, nc0]
      exact k _ _ w (fun e => absurd e (by decide))
    · have q := w.1
      have h := w.rr
      simp only [w_X5_isTranslated, w_X5_isTranslated_15, q.t123, q.r123_0, q.t124, q.n124, x_are q h, qC hn, qT, h0, rf0 q, rf1 q, rf2 q, rf3 q, hty_sI, hln_sI, hR_sI, cnd1, cnd2, b2i_0, b2i_1, b2i_z, if_true, if_false, true_and, and_true, true_implies, false_implies, ne_eq, not_false_eq_true, not_true_eq_false, eq_self, exIA, exIS, exAI, exAS, exSI, exSA, true_or, or_true, false_or, or_false, Nat.reduceEqDiff, Bool.true_and, Bool.and_true, Bool.false_and, Bool.and_false, Bool.true_eq_false, Bool.false_eq_true, i10, i20, i30, vp0, nc0]
      exact k _ _ w.thr (fun e => absurd e (by decide))
  · skip
    cases h1 : inT b
    · refine ⟨1, false, σ, iS, fun X m o K w k => ?_, fun X d o K w k => ?_⟩
      · have q := w.1
        have h : TR X 2 (zG σ) := w.2.1.1
        simp only [w_L_isTranslated, w_X4_isTranslated, q.t1, q.r1_0, q.t2, e_checkTranslation q h, h0, h1, hty_sI, hln_sI, hR_sI, cnd1, cnd2, b2i_0, b2i_1, b2i_z, if_true, if_false, true_and, and_true, true_implies, false_implies, ne_eq, not_false_eq_true, not_true_eq_false, eq_self, exIA, exIS, exAI, exAS, exSI, exSA, true_or, or_true, false_or, or_false, Nat.reduceEqDiff, Bool.true_and, Bool.and_true, Bool.false_and, Bool.and_false, Bool.true_eq_false, Bool.false_eq_true, i10, i20, i30, vp0, nc0]
        exact k _ _ w (fun e => absurd e (by decide))
      · have q := w.1
        have h := w.rr
        simp only [w_X5_isTranslated, w_X5_isTranslated_15, q.t123, q.r123_0, q.t124, q.n124, x_are q h, qC hn, qT, h0, h1, rf0 q, rf1 q, rf2 q, rf3 q, hty_sI, hln_sI, hR_sI, cnd1, cnd2, b2i_0, b2i_1, b2i_z, if_true, if_false, true_and, and_true, true_implies, false_implies, ne_eq, not_false_eq_true, not_true_eq_false, eq_self, exIA, exIS, exAI, exAS, exSI, exSA, true_or, or_true, false_or, or_false, Nat.reduceEqDiff, Bool.true_and, Bool.and_true, Bool.false_and, Bool.and_false, Bool.true_eq_false, Bool.false_eq_true, i10, i20, i30, vp0, nc0]
        exact k _ _ w.thr (fun e => absurd e (by decide))
    · skip
      obtain ⟨c, hc, rfl⟩ := inC_ex hn h0
      obtain ⟨t, ht, rfl⟩ := inT_ex h1
      have hcn := hc
      replace hc : c < 24 := Nat.lt_of_lt_of_le hc hn.2
      cases hb : pHas (zG σ) c t
      · refine ⟨0, false, σ, iS, fun X m o K w k => ?_, fun X d o K w k => ?_⟩
        · have q := w.1
          have h : TR X 2 (zG σ) := w.2.1.1
          simp only [w_L_isTranslated, w_X4_isTranslated, q.t1, q.r1_0, q.t2, q.t129, q.n129, e_checkTranslation q h, e_hasTranslation q h hc ht, h0, h1, hb, hty_sI, hln_sI, hR_sI, cnd1, cnd2, b2i_0, b2i_1, b2i_z, if_true, if_false, true_and, and_true, true_implies, false_implies, ne_eq, not_false_eq_true, not_true_eq_false, eq_self, exIA, exIS, exAI, exAS, exSI, exSA, true_or, or_true, false_or, or_false, Nat.reduceEqDiff, Bool.true_and, Bool.and_true, Bool.false_and, Bool.and_false, Bool.true_eq_false, Bool.false_eq_true, i10, i20, i30, vp0, nc0]
          exact k _ _ w.out (fun _ => rfl)
        · have q := w.1
          have h := w.rr
          have q1 : Shp (sI X 123 7 0) := q
          have hh : RR (sI X 123 7 0) (zG σ) := h.thr
          simp only [w_X5_isTranslated, w_X5_isTranslated_15, q.t123, q.r123_0, q.t124, q.n124, x_are q h, qC hn, qT, x_frames q1 hh hc ht, show (gF (zG σ) c t ≤ 0) = (pHas (zG σ) c t = false) from by unfold pHas; simp, h0, h1, hb, rf0 q, rf1 q, rf2 q, rf3 q, hty_sI, hln_sI, hR_sI, cnd1, cnd2, b2i_0, b2i_1, b2i_z, if_true, if_false, true_and, and_true, true_implies, false_implies, ne_eq, not_false_eq_true, not_true_eq_false, eq_self, exIA, exIS, exAI, exAS, exSI, exSA, true_or, or_true, false_or, or_false, Nat.reduceEqDiff, Bool.true_and, Bool.and_true, Bool.false_and, Bool.and_false, Bool.true_eq_false, Bool.false_eq_true, i10, i20, i30, vp0, nc0]
          exact k _ _ w.thr (fun _ => rfl)
      · refine ⟨0, true, σ, iS, fun X m o K w k => ?_, fun X d o K w k => ?_⟩
        · have q := w.1
          have h : TR X 2 (zG σ) := w.2.1.1
          simp only [w_L_isTranslated, w_X4_isTranslated, q.t1, q.r1_0, q.t2, q.t129, q.n129, e_checkTranslation q h, e_hasTranslation q h hc ht, h0, h1, hb, hty_sI, hln_sI, hR_sI, cnd1, cnd2, b2i_0, b2i_1, b2i_z, if_true, if_false, true_and, and_true, true_implies, false_implies, ne_eq, not_false_eq_true, not_true_eq_false, eq_self, exIA, exIS, exAI, exAS, exSI, exSA, true_or, or_true, false_or, or_false, Nat.reduceEqDiff, Bool.true_and, Bool.and_true, Bool.false_and, Bool.and_false, Bool.true_eq_false, Bool.false_eq_true, i10, i20, i30, vp0, nc0]
          exact k _ _ w.out (fun _ => rfl)
        · have q := w.1
          have h := w.rr
          have q1 : Shp (sI X 123 7 0) := q
          have hh : RR (sI X 123 7 0) (zG σ) := h.thr
          simp only [w_X5_isTranslated, w_X5_isTranslated_15, q.t123, q.r123_0, q.t124, q.n124, x_are q h, qC hn, qT, x_frames q1 hh hc ht, show (gF (zG σ) c t ≤ 0) = (pHas (zG σ) c t = false) from by unfold pHas; simp, h0, h1, hb, rf0 q, rf1 q, rf2 q, rf3 q, hty_sI, hln_sI, hR_sI, cnd1, cnd2, b2i_0, b2i_1, b2i_z, if_true, if_false, true_and, and_true, true_implies, false_implies, ne_eq, not_false_eq_true, not_true_eq_false, eq_self, exIA, exIS, exAI, exAS, exSI, exSA, true_or, or_true, false_or, or_false, Nat.reduceEqDiff, Bool.true_and, Bool.and_true, Bool.false_and, Bool.and_false, Bool.true_eq_false, Bool.false_eq_true, i10, i20, i30, vp0, nc0]
          exact k _ _ w.thr (fun _ => rfl)
theorem op_framesOf {σ : St} {n : Nat} (iS : InvS σ) (i : Inv (zG σ) n) (a b : Int32) : OpI (fun X K => w_L_framesOf 1 a b 129 X K) (fun X K => w_X5_framesOf 123 a b X K) σ := by
  have hn := i.cn
  cases h0 : inC (zG σ 366) a
  · refine ⟨1, 0, σ, iS, fun X m o K w k => ?_, fun X d o K w k => ?_⟩
    · have q := w.1
      have h : TR X 2 (zG σ) := w.2.1.1
      simp only [w_L_framesOf, w_X4_framesOf, q.t1, q.r1_0, q.t2, e_checkTranslation q h, h0, hty_sI, hln_sI, hR_sI, cnd1, cnd2, b2i_0, b2i_1, b2i_z, if_true, if_false, true_and, and_true, true_implies, false_implies, ne_eq, not_false_eq_true, not_true_eq_false, eq_self, exIA, exIS, exAI, exAS, exSI, exSA, true_or, or_true, false_or, or_false, Nat.reduceEqDiff, Bool.true_and, Bool.and_true, Bool.false_and, Bool.and_false, Bool.true_eq_false, Bool.false_eq_true, i10, i20, i30, vp0, nc0]
      exact k _ _ w (fun e => absurd e (by decide))
    · have q := w.1
      have h := w.rr
      simp only [w_X5_framesOf, q.t123, q.r123_0, q.t124, q.n124, x_are q h, qC hn, qT, x_badF q h hn (show (inC (zG σ 366) a && inT b) = false by simp [h0]), h0, rf0 q, rf1 q, rf2 q, rf3 q, hty_sI, hln_sI, hR_sI, cnd1, cnd2, b2i_0, b2i_1, b2i_z, if_true, if_false, true_and, and_true, true_implies, false_implies, ne_eq, not_false_eq_true, not_true_eq_false, eq_self, exIA, exIS, exAI, exAS, exSI, exSA, true_or, or_true, false_or, or_false, Nat.reduceEqDiff, Bool.true_and, Bool.and_true, Bool.false_and, Bool.and_false, Bool.true_eq_false, Bool.false_eq_true, i10, i20, i30, vp0, nc0]
      exact k _ _ w.thr (fun e => absurd e (by decide))
  · skip
    cases h1 : inT b
    · refine ⟨1, 0, σ, iS, fun X m o K w k => ?_, fun X d o K w k => ?_⟩
      · have q := w.1
        have h : TR X 2 (zG σ) := w.2.1.1
        simp only [w_L_framesOf, w_X4_framesOf, q.t1, q.r1_0, q.t2, e_checkTranslation q h, h0, h1, hty_sI, hln_sI, hR_sI, cnd1, cnd2, b2i_0, b2i_1, b2i_z, if_true, if_false, true_and, and_true, true_implies, false_implies, ne_eq, not_false_eq_true, not_true_eq_false, eq_self, exIA, exIS, exAI, exAS, exSI, exSA, true_or, or_true, false_or, or_false, Nat.reduceEqDiff, Bool.true_and, Bool.and_true, Bool.false_and, Bool.and_false, Bool.true_eq_false, Bool.false_eq_true, i10, i20, i30, vp0, nc0]
        exact k _ _ w (fun e => absurd e (by decide))
      · have q := w.1
        have h := w.rr
        simp only [w_X5_framesOf, q.t123, q.r123_0, q.t124, q.n124, x_are q h, qC hn, qT, x_badF q h hn (show (inC (zG σ 366) a && inT b) = false by simp [h0, h1]), h0, h1, rf0 q, rf1 q, rf2 q, rf3 q, hty_sI, hln_sI, hR_sI, cnd1, cnd2, b2i_0, b2i_1, b2i_z, if_true, if_false, true_and, and_true, true_implies, false_implies, ne_eq, not_false_eq_true, not_true_eq_false, eq_self, exIA, exIS, exAI, exAS, exSI, exSA, true_or, or_true, false_or, or_false, Nat.reduceEqDiff, Bool.true_and, Bool.and_true, Bool.false_and, Bool.and_false, Bool.true_eq_false, Bool.false_eq_true, i10, i20, i30, vp0, nc0]
        exact k _ _ w.thr (fun e => absurd e (by decide))
    · skip
      obtain ⟨c, hc, rfl⟩ := inC_ex hn h0
      obtain ⟨t, ht, rfl⟩ := inT_ex h1
      have hcn := hc
      replace hc : c < 24 := Nat.lt_of_lt_of_le hc hn.2
      cases hp : pHas (zG σ) c t
      · refine ⟨2, 0, σ, iS, fun X m o K w k => ?_, fun X d o K w k => ?_⟩
        · have q := w.1
          have h : TR X 2 (zG σ) := w.2.1.1
          simp only [w_L_framesOf, w_X4_framesOf, q.t1, q.r1_0, q.t2, e_checkTranslation q h, e_checkTranslated q h hc ht, e_framesAt q h hc ht, h0, h1, hp, hty_sI, hln_sI, hR_sI, cnd1, cnd2, b2i_0, b2i_1, b2i_z, if_true, if_false, true_and, and_true, true_implies, false_implies, ne_eq, not_false_eq_true, not_true_eq_false, eq_self, exIA, exIS, exAI, exAS, exSI, exSA, true_or, or_true, false_or, or_false, Nat.reduceEqDiff, Bool.true_and, Bool.and_true, Bool.false_and, Bool.and_false, Bool.true_eq_false, Bool.false_eq_true, i10, i20, i30, vp0, nc0]
          exact k _ _ w (fun e => absurd e (by decide))
        · have q := w.1
          have h := w.rr
          simp only [w_X5_framesOf, q.t123, q.r123_0, q.t124, q.n124, x_are q h, qC hn, qT, x_badT q h hn h0 h1 hc ht, x_frames q h hc ht, h0, h1, hp, rf0 q, rf1 q, rf2 q, rf3 q, hty_sI, hln_sI, hR_sI, cnd1, cnd2, b2i_0, b2i_1, b2i_z, if_true, if_false, true_and, and_true, true_implies, false_implies, ne_eq, not_false_eq_true, not_true_eq_false, eq_self, exIA, exIS, exAI, exAS, exSI, exSA, true_or, or_true, false_or, or_false, Nat.reduceEqDiff, Bool.true_and, Bool.and_true, Bool.false_and, Bool.and_false, Bool.true_eq_false, Bool.false_eq_true, i10, i20, i30, vp0, nc0]
          exact k _ _ w.thr (fun e => absurd e (by decide))
      · refine ⟨0, gF (zG σ) c t, σ, iS, fun X m o K w k => ?_, fun X d o K w k => ?_⟩
        · have q := w.1
          have h : TR X 2 (zG σ) := w.2.1.1
          simp only [w_L_framesOf, w_X4_framesOf, q.t1, q.r1_0, q.t2, q.t129, q.n129, e_checkTranslation q h, e_checkTranslated q h hc ht, e_framesAt q h hc ht, h0, h1, hp, hty_sI, hln_sI, hR_sI, cnd1, cnd2, b2i_0, b2i_1, b2i_z, if_true, if_false, true_and, and_true, true_implies, false_implies, ne_eq, not_false_eq_true, not_true_eq_false, eq_self, exIA, exIS, exAI, exAS, exSI, exSA, true_or, or_true, false_or, or_false, Nat.reduceEqDiff, Bool.true_and, Bool.and_true, Bool.false_and, Bool.and_false, Bool.true_eq_false, Bool.false_eq_true, i10, i20, i30, vp0, nc0]
          exact k _ _ w.out (fun _ => rfl)
        · have q := w.1
          have h := w.rr
          have q1 : Shp (sI X 123 7 0) := q
          have hh : RR (sI X 123 7 0) (zG σ) := h.thr
          simp only [w_X5_framesOf, q.t123, q.r123_0, q.t124, q.n124, x_are q h, qC hn, qT, x_badT q h hn h0 h1 hc ht, x_frames q1 hh hc ht, h0, h1, hp, rf0 q, rf1 q, rf2 q, rf3 q, hty_sI, hln_sI, hR_sI, cnd1, cnd2, b2i_0, b2i_1, b2i_z, if_true, if_false, true_and, and_true, true_implies, false_implies, ne_eq, not_false_eq_true, not_true_eq_false, eq_self, exIA, exIS, exAI, exAS, exSI, exSA, true_or, or_true, false_or, or_false, Nat.reduceEqDiff, Bool.true_and, Bool.and_true, Bool.false_and, Bool.and_false, Bool.true_eq_false, Bool.false_eq_true, i10, i20, i30, vp0, nc0]
          exact k _ _ w.thr (fun _ => rfl)
theorem op_annexedOf {σ : St} {n : Nat} (iS : InvS σ) (i : Inv (zG σ) n) (a b : Int32) : OpI (fun X K => w_L_annexedOf 1 a b 129 X K) (fun X K => w_X5_annexedOf 123 a b X K) σ := by
  have hn := i.cn
  cases h0 : inC (zG σ 366) a
  · refine ⟨1, 0, σ, iS, fun X m o K w k => ?_, fun X d o K w k => ?_⟩
    · have q := w.1
      have h : TR X 2 (zG σ) := w.2.1.1
      simp only [w_L_annexedOf, w_X4_annexedOf, q.t1, q.r1_0, q.t2, e_checkTranslation q h, h0, hty_sI, hln_sI, hR_sI, cnd1, cnd2, b2i_0, b2i_1, b2i_z, if_true, if_false, true_and, and_true, true_implies, false_implies, ne_eq, not_false_eq_true, not_true_eq_false, eq_self, exIA, exIS, exAI, exAS, exSI, exSA, true_or, or_true, false_or, or_false, Nat.reduceEqDiff, Bool.true_and, Bool.and_true, Bool.false_and, Bool.and_false, Bool.true_eq_false, Bool.false_eq_true, i10, i20, i30, vp0, nc0]
      exact k _ _ w (fun e => absurd e (by decide))
    · have q := w.1
      have h := w.rr
      simp only [w_X5_annexedOf, w_X5_annexedOf_15, q.t123, q.r123_0, q.t124, q.n124, x_are q h, qC hn, qT, h0, rf0 q, rf1 q, rf2 q, rf3 q, hty_sI, hln_sI, hR_sI, cnd1, cnd2, b2i_0, b2i_1, b2i_z, if_true, if_false, true_and, and_true, true_implies, false_implies, ne_eq, not_false_eq_true, not_true_eq_false, eq_self, exIA, exIS, exAI, exAS, exSI, exSA, true_or, or_true, false_or, or_false, Nat.reduceEqDiff, Bool.true_and, Bool.and_true, Bool.false_and, Bool.and_false, Bool.true_eq_false, Bool.false_eq_true, i10, i20, i30, vp0, nc0]
      exact k _ _ w.thr (fun e => absurd e (by decide))
  · skip
    cases h1 : inT b
    · refine ⟨1, 0, σ, iS, fun X m o K w k => ?_, fun X d o K w k => ?_⟩
      · have q := w.1
        have h : TR X 2 (zG σ) := w.2.1.1
        simp only [w_L_annexedOf, w_X4_annexedOf, q.t1, q.r1_0, q.t2, e_checkTranslation q h, h0, h1, hty_sI, hln_sI, hR_sI, cnd1, cnd2, b2i_0, b2i_1, b2i_z, if_true, if_false, true_and, and_true, true_implies, false_implies, ne_eq, not_false_eq_true, not_true_eq_false, eq_self, exIA, exIS, exAI, exAS, exSI, exSA, true_or, or_true, false_or, or_false, Nat.reduceEqDiff, Bool.true_and, Bool.and_true, Bool.false_and, Bool.and_false, Bool.true_eq_false, Bool.false_eq_true, i10, i20, i30, vp0, nc0]
        exact k _ _ w (fun e => absurd e (by decide))
      · have q := w.1
        have h := w.rr
        simp only [w_X5_annexedOf, w_X5_annexedOf_15, q.t123, q.r123_0, q.t124, q.n124, x_are q h, qC hn, qT, h0, h1, rf0 q, rf1 q, rf2 q, rf3 q, hty_sI, hln_sI, hR_sI, cnd1, cnd2, b2i_0, b2i_1, b2i_z, if_true, if_false, true_and, and_true, true_implies, false_implies, ne_eq, not_false_eq_true, not_true_eq_false, eq_self, exIA, exIS, exAI, exAS, exSI, exSA, true_or, or_true, false_or, or_false, Nat.reduceEqDiff, Bool.true_and, Bool.and_true, Bool.false_and, Bool.and_false, Bool.true_eq_false, Bool.false_eq_true, i10, i20, i30, vp0, nc0]
        exact k _ _ w.thr (fun e => absurd e (by decide))
    · skip
      obtain ⟨c, hc, rfl⟩ := inC_ex hn h0
      obtain ⟨t, ht, rfl⟩ := inT_ex h1
      have hcn := hc
      replace hc : c < 24 := Nat.lt_of_lt_of_le hc hn.2
      refine ⟨0, gAn (zG σ) c t, σ, iS, fun X m o K w k => ?_, fun X d o K w k => ?_⟩
      · have q := w.1
        have h : TR X 2 (zG σ) := w.2.1.1
        simp only [w_L_annexedOf, w_X4_annexedOf, q.t1, q.r1_0, q.t2, q.t129, q.n129, e_checkTranslation q h, e_annexedAt q h hc ht, h0, h1, hty_sI, hln_sI, hR_sI, cnd1, cnd2, b2i_0, b2i_1, b2i_z, if_true, if_false, true_and, and_true, true_implies, false_implies, ne_eq, not_false_eq_true, not_true_eq_false, eq_self, exIA, exIS, exAI, exAS, exSI, exSA, true_or, or_true, false_or, or_false, Nat.reduceEqDiff, Bool.true_and, Bool.and_true, Bool.false_and, Bool.and_false, Bool.true_eq_false, Bool.false_eq_true, i10, i20, i30, vp0, nc0]
        exact k _ _ w.out (fun _ => rfl)
      · have q := w.1
        have h := w.rr
        have q1 : Shp (sI X 123 7 0) := q
        have hh : RR (sI X 123 7 0) (zG σ) := h.thr
        simp only [w_X5_annexedOf, w_X5_annexedOf_15, q.t123, q.r123_0, q.t124, q.n124, x_are q h, qC hn, qT, w_X5_at, ixA_eq, vp3 (show 13 * c + 7 + t < 371 by omega), hh.v (show 13 * c + 7 + t < 371 by omega), h0, h1, rf0 q, rf1 q, rf2 q, rf3 q, hty_sI, hln_sI, hR_sI, cnd1, cnd2, b2i_0, b2i_1, b2i_z, if_true, if_false, true_and, and_true, true_implies, false_implies, ne_eq, not_false_eq_true, not_true_eq_false, eq_self, exIA, exIS, exAI, exAS, exSI, exSA, true_or, or_true, false_or, or_false, Nat.reduceEqDiff, Bool.true_and, Bool.and_true, Bool.false_and, Bool.and_false, Bool.true_eq_false, Bool.false_eq_true, i10, i20, i30, vp0, nc0]
        exact k _ _ w.thr (fun _ => rfl)
theorem op_isRecorded {σ : St} {n : Nat} (iS : InvS σ) (i : Inv (zG σ) n) (a b : Int32) : OpB (fun X K => w_L_isRecorded 1 a b 129 X K) (fun X K => w_X5_isRecorded 123 a b X K) σ := by
  have hn := i.cn
  cases h0 : inC (zG σ 366) a
  · refine ⟨1, false, σ, iS, fun X m o K w k => ?_, fun X d o K w k => ?_⟩
    · have q := w.1
      have h : TR X 2 (zG σ) := w.2.1.1
      simp only [w_L_isRecorded, w_X4_isRecorded, q.t1, q.r1_0, q.t2, e_checkTranslation q h, h0, hty_sI, hln_sI, hR_sI, cnd1, cnd2, b2i_0, b2i_1, b2i_z, if_true, if_false, true_and, and_true, true_implies, false_implies, ne_eq, not_false_eq_true, not_true_eq_false, eq_self, exIA, exIS, exAI, exAS, exSI, exSA, true_or, or_true, false_or, or_false, Nat.reduceEqDiff, Bool.true_and, Bool.and_true, Bool.false_and, Bool.and_false, Bool.true_eq_false, Bool.false_eq_true, i10, i20, i30, vp0, nc0]
      exact k _ _ w (fun e => absurd e (by decide))
    · have q := w.1
      have h := w.rr
      simp only [w_X5_isRecorded, w_X5_isRecorded_15, q.t123, q.r123_0, q.t124, q.n124, x_are q h, qC hn, qT, h0, rf0 q, rf1 q, rf2 q, rf3 q, hty_sI, hln_sI, hR_sI, cnd1, cnd2, b2i_0, b2i_1, b2i_z, if_true, if_false, true_and, and_true, true_implies, false_implies, ne_eq, not_false_eq_true, not_true_eq_false, eq_self, exIA, exIS, exAI, exAS, exSI, exSA, true_or, or_true, false_or, or_false, Nat.reduceEqDiff, Bool.true_and, Bool.and_true, Bool.false_and, Bool.and_false, Bool.true_eq_false, Bool.false_eq_true, i10, i20, i30, vp0, nc0]
      exact k _ _ w.thr (fun e => absurd e (by decide))
  · skip
    cases h1 : inT b
    · refine ⟨1, false, σ, iS, fun X m o K w k => ?_, fun X d o K w k => ?_⟩
      · have q := w.1
        have h : TR X 2 (zG σ) := w.2.1.1
        simp only [w_L_isRecorded, w_X4_isRecorded, q.t1, q.r1_0, q.t2, e_checkTranslation q h, h0, h1, hty_sI, hln_sI, hR_sI, cnd1, cnd2, b2i_0, b2i_1, b2i_z, if_true, if_false, true_and, and_true, true_implies, false_implies, ne_eq, not_false_eq_true, not_true_eq_false, eq_self, exIA, exIS, exAI, exAS, exSI, exSA, true_or, or_true, false_or, or_false, Nat.reduceEqDiff, Bool.true_and, Bool.and_true, Bool.false_and, Bool.and_false, Bool.true_eq_false, Bool.false_eq_true, i10, i20, i30, vp0, nc0]
        exact k _ _ w (fun e => absurd e (by decide))
      · have q := w.1
        have h := w.rr
        simp only [w_X5_isRecorded, w_X5_isRecorded_15, q.t123, q.r123_0, q.t124, q.n124, x_are q h, qC hn, qT, h0, h1, rf0 q, rf1 q, rf2 q, rf3 q, hty_sI, hln_sI, hR_sI, cnd1, cnd2, b2i_0, b2i_1, b2i_z, if_true, if_false, true_and, and_true, true_implies, false_implies, ne_eq, not_false_eq_true, not_true_eq_false, eq_self, exIA, exIS, exAI, exAS, exSI, exSA, true_or, or_true, false_or, or_false, Nat.reduceEqDiff, Bool.true_and, Bool.and_true, Bool.false_and, Bool.and_false, Bool.true_eq_false, Bool.false_eq_true, i10, i20, i30, vp0, nc0]
        exact k _ _ w.thr (fun e => absurd e (by decide))
    · skip
      obtain ⟨c, hc, rfl⟩ := inC_ex hn h0
      obtain ⟨t, ht, rfl⟩ := inT_ex h1
      have hcn := hc
      replace hc : c < 24 := Nat.lt_of_lt_of_le hc hn.2
      cases hb : pTk (zG σ) c t
      · refine ⟨0, false, σ, iS, fun X m o K w k => ?_, fun X d o K w k => ?_⟩
        · have q := w.1
          have h : TR X 2 (zG σ) := w.2.1.1
          simp only [w_L_isRecorded, w_X4_isRecorded, q.t1, q.r1_0, q.t2, q.t129, q.n129, e_checkTranslation q h, e_isTaken q h hc ht, h0, h1, hb, hty_sI, hln_sI, hR_sI, cnd1, cnd2, b2i_0, b2i_1, b2i_z, if_true, if_false, true_and, and_true, true_implies, false_implies, ne_eq, not_false_eq_true, not_true_eq_false, eq_self, exIA, exIS, exAI, exAS, exSI, exSA, true_or, or_true, false_or, or_false, Nat.reduceEqDiff, Bool.true_and, Bool.and_true, Bool.false_and, Bool.and_false, Bool.true_eq_false, Bool.false_eq_true, i10, i20, i30, vp0, nc0]
          exact k _ _ w.out (fun _ => rfl)
        · have q := w.1
          have h := w.rr
          have q1 : Shp (sI X 123 7 0) := q
          have hh : RR (sI X 123 7 0) (zG σ) := h.thr
          simp only [w_X5_isRecorded, w_X5_isRecorded_15, q.t123, q.r123_0, q.t124, q.n124, x_are q h, qC hn, qT, x_isTaken q1 hh hc ht, h0, h1, hb, rf0 q, rf1 q, rf2 q, rf3 q, hty_sI, hln_sI, hR_sI, cnd1, cnd2, b2i_0, b2i_1, b2i_z, if_true, if_false, true_and, and_true, true_implies, false_implies, ne_eq, not_false_eq_true, not_true_eq_false, eq_self, exIA, exIS, exAI, exAS, exSI, exSA, true_or, or_true, false_or, or_false, Nat.reduceEqDiff, Bool.true_and, Bool.and_true, Bool.false_and, Bool.and_false, Bool.true_eq_false, Bool.false_eq_true, i10, i20, i30, vp0, nc0]
          exact k _ _ w.thr (fun _ => rfl)
      · refine ⟨0, true, σ, iS, fun X m o K w k => ?_, fun X d o K w k => ?_⟩
        · have q := w.1
          have h : TR X 2 (zG σ) := w.2.1.1
          simp only [w_L_isRecorded, w_X4_isRecorded, q.t1, q.r1_0, q.t2, q.t129, q.n129, e_checkTranslation q h, e_isTaken q h hc ht, h0, h1, hb, hty_sI, hln_sI, hR_sI, cnd1, cnd2, b2i_0, b2i_1, b2i_z, if_true, if_false, true_and, and_true, true_implies, false_implies, ne_eq, not_false_eq_true, not_true_eq_false, eq_self, exIA, exIS, exAI, exAS, exSI, exSA, true_or, or_true, false_or, or_false, Nat.reduceEqDiff, Bool.true_and, Bool.and_true, Bool.false_and, Bool.and_false, Bool.true_eq_false, Bool.false_eq_true, i10, i20, i30, vp0, nc0]
          exact k _ _ w.out (fun _ => rfl)
        · have q := w.1
          have h := w.rr
          have q1 : Shp (sI X 123 7 0) := q
          have hh : RR (sI X 123 7 0) (zG σ) := h.thr
          simp only [w_X5_isRecorded, w_X5_isRecorded_15, q.t123, q.r123_0, q.t124, q.n124, x_are q h, qC hn, qT, x_isTaken q1 hh hc ht, h0, h1, hb, rf0 q, rf1 q, rf2 q, rf3 q, hty_sI, hln_sI, hR_sI, cnd1, cnd2, b2i_0, b2i_1, b2i_z, if_true, if_false, true_and, and_true, true_implies, false_implies, ne_eq, not_false_eq_true, not_true_eq_false, eq_self, exIA, exIS, exAI, exAS, exSI, exSA, true_or, or_true, false_or, or_false, Nat.reduceEqDiff, Bool.true_and, Bool.and_true, Bool.false_and, Bool.and_false, Bool.true_eq_false, Bool.false_eq_true, i10, i20, i30, vp0, nc0]
          exact k _ _ w.thr (fun _ => rfl)
theorem op_sessionOf {σ : St} {n : Nat} (iS : InvS σ) (i : Inv (zG σ) n) (a b : Int32) : OpI (fun X K => w_L_sessionOf 1 a b 129 X K) (fun X K => w_X5_sessionOf 123 a b X K) σ := by
  have hn := i.cn
  cases h0 : inC (zG σ 366) a
  · refine ⟨1, 0, σ, iS, fun X m o K w k => ?_, fun X d o K w k => ?_⟩
    · have q := w.1
      have h : TR X 2 (zG σ) := w.2.1.1
      simp only [w_L_sessionOf, w_X4_sessionOf, q.t1, q.r1_0, q.t2, e_checkTranslation q h, h0, hty_sI, hln_sI, hR_sI, cnd1, cnd2, b2i_0, b2i_1, b2i_z, if_true, if_false, true_and, and_true, true_implies, false_implies, ne_eq, not_false_eq_true, not_true_eq_false, eq_self, exIA, exIS, exAI, exAS, exSI, exSA, true_or, or_true, false_or, or_false, Nat.reduceEqDiff, Bool.true_and, Bool.and_true, Bool.false_and, Bool.and_false, Bool.true_eq_false, Bool.false_eq_true, i10, i20, i30, vp0, nc0]
      exact k _ _ w (fun e => absurd e (by decide))
    · have q := w.1
      have h := w.rr
      simp only [w_X5_sessionOf, w_X5_sessionOf_28, q.t123, q.r123_0, q.t124, q.n124, x_are q h, qC hn, qT, h0, rf0 q, rf1 q, rf2 q, rf3 q, hty_sI, hln_sI, hR_sI, cnd1, cnd2, b2i_0, b2i_1, b2i_z, if_true, if_false, true_and, and_true, true_implies, false_implies, ne_eq, not_false_eq_true, not_true_eq_false, eq_self, exIA, exIS, exAI, exAS, exSI, exSA, true_or, or_true, false_or, or_false, Nat.reduceEqDiff, Bool.true_and, Bool.and_true, Bool.false_and, Bool.and_false, Bool.true_eq_false, Bool.false_eq_true, i10, i20, i30, vp0, nc0]
      exact k _ _ w.thr (fun e => absurd e (by decide))
  · skip
    cases h1 : inT b
    · refine ⟨1, 0, σ, iS, fun X m o K w k => ?_, fun X d o K w k => ?_⟩
      · have q := w.1
        have h : TR X 2 (zG σ) := w.2.1.1
        simp only [w_L_sessionOf, w_X4_sessionOf, q.t1, q.r1_0, q.t2, e_checkTranslation q h, h0, h1, hty_sI, hln_sI, hR_sI, cnd1, cnd2, b2i_0, b2i_1, b2i_z, if_true, if_false, true_and, and_true, true_implies, false_implies, ne_eq, not_false_eq_true, not_true_eq_false, eq_self, exIA, exIS, exAI, exAS, exSI, exSA, true_or, or_true, false_or, or_false, Nat.reduceEqDiff, Bool.true_and, Bool.and_true, Bool.false_and, Bool.and_false, Bool.true_eq_false, Bool.false_eq_true, i10, i20, i30, vp0, nc0]
        exact k _ _ w (fun e => absurd e (by decide))
      · have q := w.1
        have h := w.rr
        simp only [w_X5_sessionOf, w_X5_sessionOf_28, q.t123, q.r123_0, q.t124, q.n124, x_are q h, qC hn, qT, h0, h1, rf0 q, rf1 q, rf2 q, rf3 q, hty_sI, hln_sI, hR_sI, cnd1, cnd2, b2i_0, b2i_1, b2i_z, if_true, if_false, true_and, and_true, true_implies, false_implies, ne_eq, not_false_eq_true, not_true_eq_false, eq_self, exIA, exIS, exAI, exAS, exSI, exSA, true_or, or_true, false_or, or_false, Nat.reduceEqDiff, Bool.true_and, Bool.and_true, Bool.false_and, Bool.and_false, Bool.true_eq_false, Bool.false_eq_true, i10, i20, i30, vp0, nc0]
        exact k _ _ w.thr (fun e => absurd e (by decide))
    · skip
      obtain ⟨c, hc, rfl⟩ := inC_ex hn h0
      obtain ⟨t, ht, rfl⟩ := inT_ex h1
      have hcn := hc
      replace hc : c < 24 := Nat.lt_of_lt_of_le hc hn.2
      cases hp : pTk (zG σ) c t
      · refine ⟨2, 0, σ, iS, fun X m o K w k => ?_, fun X d o K w k => ?_⟩
        · have q := w.1
          have h : TR X 2 (zG σ) := w.2.1.1
          simp only [w_L_sessionOf, w_X4_sessionOf, q.t1, q.r1_0, q.t2, e_checkTranslation q h, e_checkTaken q h hc ht, e_takenIn q h hc ht, h0, h1, hp, hty_sI, hln_sI, hR_sI, cnd1, cnd2, b2i_0, b2i_1, b2i_z, if_true, if_false, true_and, and_true, true_implies, false_implies, ne_eq, not_false_eq_true, not_true_eq_false, eq_self, exIA, exIS, exAI, exAS, exSI, exSA, true_or, or_true, false_or, or_false, Nat.reduceEqDiff, Bool.true_and, Bool.and_true, Bool.false_and, Bool.and_false, Bool.true_eq_false, Bool.false_eq_true, i10, i20, i30, vp0, nc0]
          exact k _ _ w (fun e => absurd e (by decide))
        · have q := w.1
          have h := w.rr
          simp only [w_X5_sessionOf, w_X5_sessionOf_28, q.t123, q.r123_0, q.t124, q.n124, x_are q h, qC hn, qT, x_isTaken q h hc ht, w_X5_at, ixT_eq, vp3 (show 13 * c + 10 + t < 371 by omega), h.v (show 13 * c + 10 + t < 371 by omega), h0, h1, hp, rf0 q, rf1 q, rf2 q, rf3 q, hty_sI, hln_sI, hR_sI, cnd1, cnd2, b2i_0, b2i_1, b2i_z, if_true, if_false, true_and, and_true, true_implies, false_implies, ne_eq, not_false_eq_true, not_true_eq_false, eq_self, exIA, exIS, exAI, exAS, exSI, exSA, true_or, or_true, false_or, or_false, Nat.reduceEqDiff, Bool.true_and, Bool.and_true, Bool.false_and, Bool.and_false, Bool.true_eq_false, Bool.false_eq_true, i10, i20, i30, vp0, nc0]
          exact k _ _ w.thr (fun e => absurd e (by decide))
      · refine ⟨0, gT (zG σ) c t - 1, σ, iS, fun X m o K w k => ?_, fun X d o K w k => ?_⟩
        · have q := w.1
          have h : TR X 2 (zG σ) := w.2.1.1
          simp only [w_L_sessionOf, w_X4_sessionOf, q.t1, q.r1_0, q.t2, q.t129, q.n129, e_checkTranslation q h, e_checkTaken q h hc ht, e_takenIn q h hc ht, h0, h1, hp, hty_sI, hln_sI, hR_sI, cnd1, cnd2, b2i_0, b2i_1, b2i_z, if_true, if_false, true_and, and_true, true_implies, false_implies, ne_eq, not_false_eq_true, not_true_eq_false, eq_self, exIA, exIS, exAI, exAS, exSI, exSA, true_or, or_true, false_or, or_false, Nat.reduceEqDiff, Bool.true_and, Bool.and_true, Bool.false_and, Bool.and_false, Bool.true_eq_false, Bool.false_eq_true, i10, i20, i30, vp0, nc0]
          exact k _ _ w.out (fun _ => rfl)
        · have q := w.1
          have h := w.rr
          have q1 : Shp (sI X 123 7 0) := q
          have hh : RR (sI X 123 7 0) (zG σ) := h.thr
          simp only [w_X5_sessionOf, w_X5_sessionOf_28, q.t123, q.r123_0, q.t124, q.n124, x_are q h, qC hn, qT, x_isTaken q h hc ht, w_X5_at, ixT_eq, vp3 (show 13 * c + 10 + t < 371 by omega), hh.v (show 13 * c + 10 + t < 371 by omega), h0, h1, hp, rf0 q, rf1 q, rf2 q, rf3 q, hty_sI, hln_sI, hR_sI, cnd1, cnd2, b2i_0, b2i_1, b2i_z, if_true, if_false, true_and, and_true, true_implies, false_implies, ne_eq, not_false_eq_true, not_true_eq_false, eq_self, exIA, exIS, exAI, exAS, exSI, exSA, true_or, or_true, false_or, or_false, Nat.reduceEqDiff, Bool.true_and, Bool.and_true, Bool.false_and, Bool.and_false, Bool.true_eq_false, Bool.false_eq_true, i10, i20, i30, vp0, nc0]
          exact k _ _ w.thr (fun _ => rfl)
theorem op_roomFor {σ : St} {n : Nat} (iS : InvS σ) (i : Inv (zG σ) n) (a b : Int32) : OpI (fun X K => w_L_roomFor 1 a b 129 X K) (fun X K => w_X5_roomFor 123 a b X K) σ := by
  have hn := i.cn
  cases h0 : inC (zG σ 366) a
  · refine ⟨1, 0, σ, iS, fun X m o K w k => ?_, fun X d o K w k => ?_⟩
    · have q := w.1
      have h : TR X 2 (zG σ) := w.2.1.1
      simp only [w_L_roomFor, w_X4_roomFor, q.t1, q.r1_0, q.t2, e_checkTranslation q h, h0, hty_sI, hln_sI, hR_sI, cnd1, cnd2, b2i_0, b2i_1, b2i_z, if_true, if_false, true_and, and_true, true_implies, false_implies, ne_eq, not_false_eq_true, not_true_eq_false, eq_self, exIA, exIS, exAI, exAS, exSI, exSA, true_or, or_true, false_or, or_false, Nat.reduceEqDiff, Bool.true_and, Bool.and_true, Bool.false_and, Bool.and_false, Bool.true_eq_false, Bool.false_eq_true, i10, i20, i30, vp0, nc0]
      exact k _ _ w (fun e => absurd e (by decide))
    · have q := w.1
      have h := w.rr
      simp only [w_X5_roomFor, q.t123, q.r123_0, q.t124, q.n124, x_are q h, qC hn, qT, x_badF q h hn (show (inC (zG σ 366) a && inT b) = false by simp [h0]), h0, rf0 q, rf1 q, rf2 q, rf3 q, hty_sI, hln_sI, hR_sI, cnd1, cnd2, b2i_0, b2i_1, b2i_z, if_true, if_false, true_and, and_true, true_implies, false_implies, ne_eq, not_false_eq_true, not_true_eq_false, eq_self, exIA, exIS, exAI, exAS, exSI, exSA, true_or, or_true, false_or, or_false, Nat.reduceEqDiff, Bool.true_and, Bool.and_true, Bool.false_and, Bool.and_false, Bool.true_eq_false, Bool.false_eq_true, i10, i20, i30, vp0, nc0]
      exact k _ _ w.thr (fun e => absurd e (by decide))
  · skip
    cases h1 : inT b
    · refine ⟨1, 0, σ, iS, fun X m o K w k => ?_, fun X d o K w k => ?_⟩
      · have q := w.1
        have h : TR X 2 (zG σ) := w.2.1.1
        simp only [w_L_roomFor, w_X4_roomFor, q.t1, q.r1_0, q.t2, e_checkTranslation q h, h0, h1, hty_sI, hln_sI, hR_sI, cnd1, cnd2, b2i_0, b2i_1, b2i_z, if_true, if_false, true_and, and_true, true_implies, false_implies, ne_eq, not_false_eq_true, not_true_eq_false, eq_self, exIA, exIS, exAI, exAS, exSI, exSA, true_or, or_true, false_or, or_false, Nat.reduceEqDiff, Bool.true_and, Bool.and_true, Bool.false_and, Bool.and_false, Bool.true_eq_false, Bool.false_eq_true, i10, i20, i30, vp0, nc0]
        exact k _ _ w (fun e => absurd e (by decide))
      · have q := w.1
        have h := w.rr
        simp only [w_X5_roomFor, q.t123, q.r123_0, q.t124, q.n124, x_are q h, qC hn, qT, x_badF q h hn (show (inC (zG σ 366) a && inT b) = false by simp [h0, h1]), h0, h1, rf0 q, rf1 q, rf2 q, rf3 q, hty_sI, hln_sI, hR_sI, cnd1, cnd2, b2i_0, b2i_1, b2i_z, if_true, if_false, true_and, and_true, true_implies, false_implies, ne_eq, not_false_eq_true, not_true_eq_false, eq_self, exIA, exIS, exAI, exAS, exSI, exSA, true_or, or_true, false_or, or_false, Nat.reduceEqDiff, Bool.true_and, Bool.and_true, Bool.false_and, Bool.and_false, Bool.true_eq_false, Bool.false_eq_true, i10, i20, i30, vp0, nc0]
        exact k _ _ w.thr (fun e => absurd e (by decide))
    · skip
      obtain ⟨c, hc, rfl⟩ := inC_ex hn h0
      obtain ⟨t, ht, rfl⟩ := inT_ex h1
      have hcn := hc
      replace hc : c < 24 := Nat.lt_of_lt_of_le hc hn.2
      cases hp : pHas (zG σ) c t
      · refine ⟨2, 0, σ, iS, fun X m o K w k => ?_, fun X d o K w k => ?_⟩
        · have q := w.1
          have h : TR X 2 (zG σ) := w.2.1.1
          simp only [w_L_roomFor, w_X4_roomFor, q.t1, q.r1_0, q.t2, e_checkTranslation q h, e_checkTranslated q h hc ht, e_roomAt q h hc ht, h0, h1, hp, hty_sI, hln_sI, hR_sI, cnd1, cnd2, b2i_0, b2i_1, b2i_z, if_true, if_false, true_and, and_true, true_implies, false_implies, ne_eq, not_false_eq_true, not_true_eq_false, eq_self, exIA, exIS, exAI, exAS, exSI, exSA, true_or, or_true, false_or, or_false, Nat.reduceEqDiff, Bool.true_and, Bool.and_true, Bool.false_and, Bool.and_false, Bool.true_eq_false, Bool.false_eq_true, i10, i20, i30, vp0, nc0]
          exact k _ _ w (fun e => absurd e (by decide))
        · have q := w.1
          have h := w.rr
          simp only [w_X5_roomFor, q.t123, q.r123_0, q.t124, q.n124, x_are q h, qC hn, qT, x_badT q h hn h0 h1 hc ht, x_room q h hc ht, h0, h1, hp, rf0 q, rf1 q, rf2 q, rf3 q, hty_sI, hln_sI, hR_sI, cnd1, cnd2, b2i_0, b2i_1, b2i_z, if_true, if_false, true_and, and_true, true_implies, false_implies, ne_eq, not_false_eq_true, not_true_eq_false, eq_self, exIA, exIS, exAI, exAS, exSI, exSA, true_or, or_true, false_or, or_false, Nat.reduceEqDiff, Bool.true_and, Bool.and_true, Bool.false_and, Bool.and_false, Bool.true_eq_false, Bool.false_eq_true, i10, i20, i30, vp0, nc0]
          exact k _ _ w.thr (fun e => absurd e (by decide))
      · refine ⟨0, gRm (zG σ) c t, σ, iS, fun X m o K w k => ?_, fun X d o K w k => ?_⟩
        · have q := w.1
          have h : TR X 2 (zG σ) := w.2.1.1
          simp only [w_L_roomFor, w_X4_roomFor, q.t1, q.r1_0, q.t2, q.t129, q.n129, e_checkTranslation q h, e_checkTranslated q h hc ht, e_roomAt q h hc ht, h0, h1, hp, hty_sI, hln_sI, hR_sI, cnd1, cnd2, b2i_0, b2i_1, b2i_z, if_true, if_false, true_and, and_true, true_implies, false_implies, ne_eq, not_false_eq_true, not_true_eq_false, eq_self, exIA, exIS, exAI, exAS, exSI, exSA, true_or, or_true, false_or, or_false, Nat.reduceEqDiff, Bool.true_and, Bool.and_true, Bool.false_and, Bool.and_false, Bool.true_eq_false, Bool.false_eq_true, i10, i20, i30, vp0, nc0]
          exact k _ _ w.out (fun _ => rfl)
        · have q := w.1
          have h := w.rr
          have q1 : Shp (sI X 123 7 0) := q
          have hh : RR (sI X 123 7 0) (zG σ) := h.thr
          simp only [w_X5_roomFor, q.t123, q.r123_0, q.t124, q.n124, x_are q h, qC hn, qT, x_badT q h hn h0 h1 hc ht, x_room q1 hh hc ht, h0, h1, hp, rf0 q, rf1 q, rf2 q, rf3 q, hty_sI, hln_sI, hR_sI, cnd1, cnd2, b2i_0, b2i_1, b2i_z, if_true, if_false, true_and, and_true, true_implies, false_implies, ne_eq, not_false_eq_true, not_true_eq_false, eq_self, exIA, exIS, exAI, exAS, exSI, exSA, true_or, or_true, false_or, or_false, Nat.reduceEqDiff, Bool.true_and, Bool.and_true, Bool.false_and, Bool.and_false, Bool.true_eq_false, Bool.false_eq_true, i10, i20, i30, vp0, nc0]
          exact k _ _ w.thr (fun _ => rfl)
theorem op_fits {σ : St} {n : Nat} (iS : InvS σ) (i : Inv (zG σ) n) (a b : Int32) : OpB (fun X K => w_L_fits 1 a b 129 X K) (fun X K => w_X5_fits 123 a b X K) σ := by
  have hn := i.cn
  cases h0 : inC (zG σ 366) a
  · refine ⟨1, false, σ, iS, fun X m o K w k => ?_, fun X d o K w k => ?_⟩
    · have q := w.1
      have h : TR X 2 (zG σ) := w.2.1.1
      simp only [w_L_fits, w_X4_fits, q.t1, q.r1_0, q.t2, e_checkTranslation q h, h0, hty_sI, hln_sI, hR_sI, cnd1, cnd2, b2i_0, b2i_1, b2i_z, if_true, if_false, true_and, and_true, true_implies, false_implies, ne_eq, not_false_eq_true, not_true_eq_false, eq_self, exIA, exIS, exAI, exAS, exSI, exSA, true_or, or_true, false_or, or_false, Nat.reduceEqDiff, Bool.true_and, Bool.and_true, Bool.false_and, Bool.and_false, Bool.true_eq_false, Bool.false_eq_true, i10, i20, i30, vp0, nc0]
      exact k _ _ w (fun e => absurd e (by decide))
    · have q := w.1
      have h := w.rr
      simp only [w_X5_fits, w_X5_fits_15, q.t123, q.r123_0, q.t124, q.n124, x_are q h, qC hn, qT, h0, rf0 q, rf1 q, rf2 q, rf3 q, hty_sI, hln_sI, hR_sI, cnd1, cnd2, b2i_0, b2i_1, b2i_z, if_true, if_false, true_and, and_true, true_implies, false_implies, ne_eq, not_false_eq_true, not_true_eq_false, eq_self, exIA, exIS, exAI, exAS, exSI, exSA, true_or, or_true, false_or, or_false, Nat.reduceEqDiff, Bool.true_and, Bool.and_true, Bool.false_and, Bool.and_false, Bool.true_eq_false, Bool.false_eq_true, i10, i20, i30, vp0, nc0]
      exact k _ _ w.thr (fun e => absurd e (by decide))
  · skip
    cases h1 : inT b
    · refine ⟨1, false, σ, iS, fun X m o K w k => ?_, fun X d o K w k => ?_⟩
      · have q := w.1
        have h : TR X 2 (zG σ) := w.2.1.1
        simp only [w_L_fits, w_X4_fits, q.t1, q.r1_0, q.t2, e_checkTranslation q h, h0, h1, hty_sI, hln_sI, hR_sI, cnd1, cnd2, b2i_0, b2i_1, b2i_z, if_true, if_false, true_and, and_true, true_implies, false_implies, ne_eq, not_false_eq_true, not_true_eq_false, eq_self, exIA, exIS, exAI, exAS, exSI, exSA, true_or, or_true, false_or, or_false, Nat.reduceEqDiff, Bool.true_and, Bool.and_true, Bool.false_and, Bool.and_false, Bool.true_eq_false, Bool.false_eq_true, i10, i20, i30, vp0, nc0]
        exact k _ _ w (fun e => absurd e (by decide))
      · have q := w.1
        have h := w.rr
        simp only [w_X5_fits, w_X5_fits_15, q.t123, q.r123_0, q.t124, q.n124, x_are q h, qC hn, qT, h0, h1, rf0 q, rf1 q, rf2 q, rf3 q, hty_sI, hln_sI, hR_sI, cnd1, cnd2, b2i_0, b2i_1, b2i_z, if_true, if_false, true_and, and_true, true_implies, false_implies, ne_eq, not_false_eq_true, not_true_eq_false, eq_self, exIA, exIS, exAI, exAS, exSI, exSA, true_or, or_true, false_or, or_false, Nat.reduceEqDiff, Bool.true_and, Bool.and_true, Bool.false_and, Bool.and_false, Bool.true_eq_false, Bool.false_eq_true, i10, i20, i30, vp0, nc0]
        exact k _ _ w.thr (fun e => absurd e (by decide))
    · skip
      obtain ⟨c, hc, rfl⟩ := inC_ex hn h0
      obtain ⟨t, ht, rfl⟩ := inT_ex h1
      have hcn := hc
      replace hc : c < 24 := Nat.lt_of_lt_of_le hc hn.2
      cases hb : pFit (zG σ) c t
      · refine ⟨0, false, σ, iS, fun X m o K w k => ?_, fun X d o K w k => ?_⟩
        · have q := w.1
          have h : TR X 2 (zG σ) := w.2.1.1
          simp only [w_L_fits, w_X4_fits, q.t1, q.r1_0, q.t2, q.t129, q.n129, e_checkTranslation q h, e_hasFit q h hc ht, h0, h1, hb, hty_sI, hln_sI, hR_sI, cnd1, cnd2, b2i_0, b2i_1, b2i_z, if_true, if_false, true_and, and_true, true_implies, false_implies, ne_eq, not_false_eq_true, not_true_eq_false, eq_self, exIA, exIS, exAI, exAS, exSI, exSA, true_or, or_true, false_or, or_false, Nat.reduceEqDiff, Bool.true_and, Bool.and_true, Bool.false_and, Bool.and_false, Bool.true_eq_false, Bool.false_eq_true, i10, i20, i30, vp0, nc0]
          exact k _ _ w.out (fun _ => rfl)
        · have q := w.1
          have h := w.rr
          have q1 : Shp (sI X 123 7 0) := q
          have hh : RR (sI X 123 7 0) (zG σ) := h.thr
          simp only [w_X5_fits, w_X5_fits_15, q.t123, q.r123_0, q.t124, q.n124, x_are q h, qC hn, qT, x_fitting q1 hh hc ht, h0, h1, hb, rf0 q, rf1 q, rf2 q, rf3 q, hty_sI, hln_sI, hR_sI, cnd1, cnd2, b2i_0, b2i_1, b2i_z, if_true, if_false, true_and, and_true, true_implies, false_implies, ne_eq, not_false_eq_true, not_true_eq_false, eq_self, exIA, exIS, exAI, exAS, exSI, exSA, true_or, or_true, false_or, or_false, Nat.reduceEqDiff, Bool.true_and, Bool.and_true, Bool.false_and, Bool.and_false, Bool.true_eq_false, Bool.false_eq_true, i10, i20, i30, vp0, nc0]
          exact k _ _ w.thr (fun _ => rfl)
      · refine ⟨0, true, σ, iS, fun X m o K w k => ?_, fun X d o K w k => ?_⟩
        · have q := w.1
          have h : TR X 2 (zG σ) := w.2.1.1
          simp only [w_L_fits, w_X4_fits, q.t1, q.r1_0, q.t2, q.t129, q.n129, e_checkTranslation q h, e_hasFit q h hc ht, h0, h1, hb, hty_sI, hln_sI, hR_sI, cnd1, cnd2, b2i_0, b2i_1, b2i_z, if_true, if_false, true_and, and_true, true_implies, false_implies, ne_eq, not_false_eq_true, not_true_eq_false, eq_self, exIA, exIS, exAI, exAS, exSI, exSA, true_or, or_true, false_or, or_false, Nat.reduceEqDiff, Bool.true_and, Bool.and_true, Bool.false_and, Bool.and_false, Bool.true_eq_false, Bool.false_eq_true, i10, i20, i30, vp0, nc0]
          exact k _ _ w.out (fun _ => rfl)
        · have q := w.1
          have h := w.rr
          have q1 : Shp (sI X 123 7 0) := q
          have hh : RR (sI X 123 7 0) (zG σ) := h.thr
          simp only [w_X5_fits, w_X5_fits_15, q.t123, q.r123_0, q.t124, q.n124, x_are q h, qC hn, qT, x_fitting q1 hh hc ht, h0, h1, hb, rf0 q, rf1 q, rf2 q, rf3 q, hty_sI, hln_sI, hR_sI, cnd1, cnd2, b2i_0, b2i_1, b2i_z, if_true, if_false, true_and, and_true, true_implies, false_implies, ne_eq, not_false_eq_true, not_true_eq_false, eq_self, exIA, exIS, exAI, exAS, exSI, exSA, true_or, or_true, false_or, or_false, Nat.reduceEqDiff, Bool.true_and, Bool.and_true, Bool.false_and, Bool.and_false, Bool.true_eq_false, Bool.false_eq_true, i10, i20, i30, vp0, nc0]
          exact k _ _ w.thr (fun _ => rfl)
theorem op_hundredthsOf {σ : St} {n : Nat} (iS : InvS σ) (i : Inv (zG σ) n) (a b : Int32) : OpI (fun X K => w_L_hundredthsOf 1 a b 129 X K) (fun X K => w_X5_hundredthsOf 123 a b X K) σ := by
  have hn := i.cn
  cases h0 : inC (zG σ 366) a
  · refine ⟨1, 0, σ, iS, fun X m o K w k => ?_, fun X d o K w k => ?_⟩
    · have q := w.1
      have h : TR X 2 (zG σ) := w.2.1.1
      simp only [w_L_hundredthsOf, w_X4_hundredthsOf, q.t1, q.r1_0, q.t2, e_checkTranslation q h, h0, hty_sI, hln_sI, hR_sI, cnd1, cnd2, b2i_0, b2i_1, b2i_z, if_true, if_false, true_and, and_true, true_implies, false_implies, ne_eq, not_false_eq_true, not_true_eq_false, eq_self, exIA, exIS, exAI, exAS, exSI, exSA, true_or, or_true, false_or, or_false, Nat.reduceEqDiff, Bool.true_and, Bool.and_true, Bool.false_and, Bool.and_false, Bool.true_eq_false, Bool.false_eq_true, i10, i20, i30, vp0, nc0]
      exact k _ _ w (fun e => absurd e (by decide))
    · have q := w.1
      have h := w.rr
      simp only [w_X5_hundredthsOf, q.t123, q.r123_0, q.t124, q.n124, x_are q h, qC hn, qT, x_badF q h hn (show (inC (zG σ 366) a && inT b) = false by simp [h0]), h0, rf0 q, rf1 q, rf2 q, rf3 q, hty_sI, hln_sI, hR_sI, cnd1, cnd2, b2i_0, b2i_1, b2i_z, if_true, if_false, true_and, and_true, true_implies, false_implies, ne_eq, not_false_eq_true, not_true_eq_false, eq_self, exIA, exIS, exAI, exAS, exSI, exSA, true_or, or_true, false_or, or_false, Nat.reduceEqDiff, Bool.true_and, Bool.and_true, Bool.false_and, Bool.and_false, Bool.true_eq_false, Bool.false_eq_true, i10, i20, i30, vp0, nc0]
      exact k _ _ w.thr (fun e => absurd e (by decide))
  · skip
    cases h1 : inT b
    · refine ⟨1, 0, σ, iS, fun X m o K w k => ?_, fun X d o K w k => ?_⟩
      · have q := w.1
        have h : TR X 2 (zG σ) := w.2.1.1
        simp only [w_L_hundredthsOf, w_X4_hundredthsOf, q.t1, q.r1_0, q.t2, e_checkTranslation q h, h0, h1, hty_sI, hln_sI, hR_sI, cnd1, cnd2, b2i_0, b2i_1, b2i_z, if_true, if_false, true_and, and_true, true_implies, false_implies, ne_eq, not_false_eq_true, not_true_eq_false, eq_self, exIA, exIS, exAI, exAS, exSI, exSA, true_or, or_true, false_or, or_false, Nat.reduceEqDiff, Bool.true_and, Bool.and_true, Bool.false_and, Bool.and_false, Bool.true_eq_false, Bool.false_eq_true, i10, i20, i30, vp0, nc0]
        exact k _ _ w (fun e => absurd e (by decide))
      · have q := w.1
        have h := w.rr
        simp only [w_X5_hundredthsOf, q.t123, q.r123_0, q.t124, q.n124, x_are q h, qC hn, qT, x_badF q h hn (show (inC (zG σ 366) a && inT b) = false by simp [h0, h1]), h0, h1, rf0 q, rf1 q, rf2 q, rf3 q, hty_sI, hln_sI, hR_sI, cnd1, cnd2, b2i_0, b2i_1, b2i_z, if_true, if_false, true_and, and_true, true_implies, false_implies, ne_eq, not_false_eq_true, not_true_eq_false, eq_self, exIA, exIS, exAI, exAS, exSI, exSA, true_or, or_true, false_or, or_false, Nat.reduceEqDiff, Bool.true_and, Bool.and_true, Bool.false_and, Bool.and_false, Bool.true_eq_false, Bool.false_eq_true, i10, i20, i30, vp0, nc0]
        exact k _ _ w.thr (fun e => absurd e (by decide))
    · skip
      obtain ⟨c, hc, rfl⟩ := inC_ex hn h0
      obtain ⟨t, ht, rfl⟩ := inT_ex h1
      have hcn := hc
      replace hc : c < 24 := Nat.lt_of_lt_of_le hc hn.2
      cases hp : pHas (zG σ) c t
      · refine ⟨2, 0, σ, iS, fun X m o K w k => ?_, fun X d o K w k => ?_⟩
        · have q := w.1
          have h : TR X 2 (zG σ) := w.2.1.1
          simp only [w_L_hundredthsOf, w_X4_hundredthsOf, q.t1, q.r1_0, q.t2, e_checkTranslation q h, e_checkTranslated q h hc ht, e_hundredthsAt q h hc ht (i.L c hcn), h0, h1, hp, hty_sI, hln_sI, hR_sI, cnd1, cnd2, b2i_0, b2i_1, b2i_z, if_true, if_false, true_and, and_true, true_implies, false_implies, ne_eq, not_false_eq_true, not_true_eq_false, eq_self, exIA, exIS, exAI, exAS, exSI, exSA, true_or, or_true, false_or, or_false, Nat.reduceEqDiff, Bool.true_and, Bool.and_true, Bool.false_and, Bool.and_false, Bool.true_eq_false, Bool.false_eq_true, i10, i20, i30, vp0, nc0]
          exact k _ _ w (fun e => absurd e (by decide))
        · have q := w.1
          have h := w.rr
          simp only [w_X5_hundredthsOf, q.t123, q.r123_0, q.t124, q.n124, x_are q h, qC hn, qT, x_badT q h hn h0 h1 hc ht, x_hundredths q h hc ht (i.L c hcn), h0, h1, hp, rf0 q, rf1 q, rf2 q, rf3 q, hty_sI, hln_sI, hR_sI, cnd1, cnd2, b2i_0, b2i_1, b2i_z, if_true, if_false, true_and, and_true, true_implies, false_implies, ne_eq, not_false_eq_true, not_true_eq_false, eq_self, exIA, exIS, exAI, exAS, exSI, exSA, true_or, or_true, false_or, or_false, Nat.reduceEqDiff, Bool.true_and, Bool.and_true, Bool.false_and, Bool.and_false, Bool.true_eq_false, Bool.false_eq_true, i10, i20, i30, vp0, nc0]
          exact k _ _ w.thr (fun e => absurd e (by decide))
      · refine ⟨0, gP (zG σ) c t, σ, iS, fun X m o K w k => ?_, fun X d o K w k => ?_⟩
        · have q := w.1
          have h : TR X 2 (zG σ) := w.2.1.1
          simp only [w_L_hundredthsOf, w_X4_hundredthsOf, q.t1, q.r1_0, q.t2, q.t129, q.n129, e_checkTranslation q h, e_checkTranslated q h hc ht, e_hundredthsAt q h hc ht (i.L c hcn), h0, h1, hp, hty_sI, hln_sI, hR_sI, cnd1, cnd2, b2i_0, b2i_1, b2i_z, if_true, if_false, true_and, and_true, true_implies, false_implies, ne_eq, not_false_eq_true, not_true_eq_false, eq_self, exIA, exIS, exAI, exAS, exSI, exSA, true_or, or_true, false_or, or_false, Nat.reduceEqDiff, Bool.true_and, Bool.and_true, Bool.false_and, Bool.and_false, Bool.true_eq_false, Bool.false_eq_true, i10, i20, i30, vp0, nc0]
          exact k _ _ w.out (fun _ => rfl)
        · have q := w.1
          have h := w.rr
          have q1 : Shp (sI X 123 7 0) := q
          have hh : RR (sI X 123 7 0) (zG σ) := h.thr
          simp only [w_X5_hundredthsOf, q.t123, q.r123_0, q.t124, q.n124, x_are q h, qC hn, qT, x_badT q h hn h0 h1 hc ht, x_hundredths q1 hh hc ht (i.L c hcn), h0, h1, hp, rf0 q, rf1 q, rf2 q, rf3 q, hty_sI, hln_sI, hR_sI, cnd1, cnd2, b2i_0, b2i_1, b2i_z, if_true, if_false, true_and, and_true, true_implies, false_implies, ne_eq, not_false_eq_true, not_true_eq_false, eq_self, exIA, exIS, exAI, exAS, exSI, exSA, true_or, or_true, false_or, or_false, Nat.reduceEqDiff, Bool.true_and, Bool.and_true, Bool.false_and, Bool.and_false, Bool.true_eq_false, Bool.false_eq_true, i10, i20, i30, vp0, nc0]
          exact k _ _ w.thr (fun _ => rfl)
theorem op_reasonAgainst {σ : St} {n : Nat} (iS : InvS σ) (i : Inv (zG σ) n) (a b : Int32) : OpI (fun X K => w_L_reasonAgainst 1 a b 129 X K) (fun X K => w_X5_reasonAgainst 123 a b X K) σ := by
  have hn := i.cn
  cases h0 : inC (zG σ 366) a
  · refine ⟨1, 0, σ, iS, fun X m o K w k => ?_, fun X d o K w k => ?_⟩
    · have q := w.1
      have h : TR X 2 (zG σ) := w.2.1.1
      simp only [w_L_reasonAgainst, w_X4_reasonAgainst, q.t1, q.r1_0, q.t2, e_checkTranslation q h, h0, hty_sI, hln_sI, hR_sI, cnd1, cnd2, b2i_0, b2i_1, b2i_z, if_true, if_false, true_and, and_true, true_implies, false_implies, ne_eq, not_false_eq_true, not_true_eq_false, eq_self, exIA, exIS, exAI, exAS, exSI, exSA, true_or, or_true, false_or, or_false, Nat.reduceEqDiff, Bool.true_and, Bool.and_true, Bool.false_and, Bool.and_false, Bool.true_eq_false, Bool.false_eq_true, i10, i20, i30, vp0, nc0]
      exact k _ _ w (fun e => absurd e (by decide))
    · have q := w.1
      have h := w.rr
      simp only [w_X5_reasonAgainst, w_X5_reasonAgainst_15, q.t123, q.r123_0, q.t124, q.n124, x_are q h, qC hn, qT, h0, rf0 q, rf1 q, rf2 q, rf3 q, hty_sI, hln_sI, hR_sI, cnd1, cnd2, b2i_0, b2i_1, b2i_z, if_true, if_false, true_and, and_true, true_implies, false_implies, ne_eq, not_false_eq_true, not_true_eq_false, eq_self, exIA, exIS, exAI, exAS, exSI, exSA, true_or, or_true, false_or, or_false, Nat.reduceEqDiff, Bool.true_and, Bool.and_true, Bool.false_and, Bool.and_false, Bool.true_eq_false, Bool.false_eq_true, i10, i20, i30, vp0, nc0]
      exact k _ _ w.thr (fun e => absurd e (by decide))
  · skip
    cases h1 : inT b
    · refine ⟨1, 0, σ, iS, fun X m o K w k => ?_, fun X d o K w k => ?_⟩
      · have q := w.1
        have h : TR X 2 (zG σ) := w.2.1.1
        simp only [w_L_reasonAgainst, w_X4_reasonAgainst, q.t1, q.r1_0, q.t2, e_checkTranslation q h, h0, h1, hty_sI, hln_sI, hR_sI, cnd1, cnd2, b2i_0, b2i_1, b2i_z, if_true, if_false, true_and, and_true, true_implies, false_implies, ne_eq, not_false_eq_true, not_true_eq_false, eq_self, exIA, exIS, exAI, exAS, exSI, exSA, true_or, or_true, false_or, or_false, Nat.reduceEqDiff, Bool.true_and, Bool.and_true, Bool.false_and, Bool.and_false, Bool.true_eq_false, Bool.false_eq_true, i10, i20, i30, vp0, nc0]
        exact k _ _ w (fun e => absurd e (by decide))
      · have q := w.1
        have h := w.rr
        simp only [w_X5_reasonAgainst, w_X5_reasonAgainst_15, q.t123, q.r123_0, q.t124, q.n124, x_are q h, qC hn, qT, h0, h1, rf0 q, rf1 q, rf2 q, rf3 q, hty_sI, hln_sI, hR_sI, cnd1, cnd2, b2i_0, b2i_1, b2i_z, if_true, if_false, true_and, and_true, true_implies, false_implies, ne_eq, not_false_eq_true, not_true_eq_false, eq_self, exIA, exIS, exAI, exAS, exSI, exSA, true_or, or_true, false_or, or_false, Nat.reduceEqDiff, Bool.true_and, Bool.and_true, Bool.false_and, Bool.and_false, Bool.true_eq_false, Bool.false_eq_true, i10, i20, i30, vp0, nc0]
        exact k _ _ w.thr (fun e => absurd e (by decide))
    · skip
      obtain ⟨c, hc, rfl⟩ := inC_ex hn h0
      obtain ⟨t, ht, rfl⟩ := inT_ex h1
      have hcn := hc
      replace hc : c < 24 := Nat.lt_of_lt_of_le hc hn.2
      refine ⟨0, gRs (zG σ) c t, σ, iS, fun X m o K w k => ?_, fun X d o K w k => ?_⟩
      · have q := w.1
        have h : TR X 2 (zG σ) := w.2.1.1
        simp only [w_L_reasonAgainst, w_X4_reasonAgainst, q.t1, q.r1_0, q.t2, q.t129, q.n129, e_checkTranslation q h, e_reasonAt q h hc ht (i.S c hcn), h0, h1, hty_sI, hln_sI, hR_sI, cnd1, cnd2, b2i_0, b2i_1, b2i_z, if_true, if_false, true_and, and_true, true_implies, false_implies, ne_eq, not_false_eq_true, not_true_eq_false, eq_self, exIA, exIS, exAI, exAS, exSI, exSA, true_or, or_true, false_or, or_false, Nat.reduceEqDiff, Bool.true_and, Bool.and_true, Bool.false_and, Bool.and_false, Bool.true_eq_false, Bool.false_eq_true, i10, i20, i30, vp0, nc0]
        exact k _ _ w.out (fun _ => rfl)
      · have q := w.1
        have h := w.rr
        have q1 : Shp (sI X 123 7 0) := q
        have hh : RR (sI X 123 7 0) (zG σ) := h.thr
        simp only [w_X5_reasonAgainst, w_X5_reasonAgainst_15, q.t123, q.r123_0, q.t124, q.n124, x_are q h, qC hn, qT, x_reason q1 hh hc ht (i.S c hcn) (i.F ht c hcn), h0, h1, rf0 q, rf1 q, rf2 q, rf3 q, hty_sI, hln_sI, hR_sI, cnd1, cnd2, b2i_0, b2i_1, b2i_z, if_true, if_false, true_and, and_true, true_implies, false_implies, ne_eq, not_false_eq_true, not_true_eq_false, eq_self, exIA, exIS, exAI, exAS, exSI, exSA, true_or, or_true, false_or, or_false, Nat.reduceEqDiff, Bool.true_and, Bool.and_true, Bool.false_and, Bool.and_false, Bool.true_eq_false, Bool.false_eq_true, i10, i20, i30, vp0, nc0]
        exact k _ _ w.thr (fun _ => rfl)
theorem op_staminaOf {σ : St} {n : Nat} (iS : InvS σ) (i : Inv (zG σ) n) (a b : Int32) : OpI (fun X K => w_L_staminaOf 1 a b 129 X K) (fun X K => w_X5_staminaOf 123 a b X K) σ := by
  have hn := i.cn
  cases h0 : inS a
  · refine ⟨1, 0, σ, iS, fun X m o K w k => ?_, fun X d o K w k => ?_⟩
    · have q := w.1
      have h : TR X 2 (zG σ) := w.2.1.1
      simp only [w_L_staminaOf, w_X4_staminaOf, q.t1, q.r1_0, q.t2, e_checkVoice, h0, hty_sI, hln_sI, hR_sI, cnd1, cnd2, b2i_0, b2i_1, b2i_z, if_true, if_false, true_and, and_true, true_implies, false_implies, ne_eq, not_false_eq_true, not_true_eq_false, eq_self, exIA, exIS, exAI, exAS, exSI, exSA, true_or, or_true, false_or, or_false, Nat.reduceEqDiff, Bool.true_and, Bool.and_true, Bool.false_and, Bool.and_false, Bool.true_eq_false, Bool.false_eq_true, i10, i20, i30, vp0, nc0]
      exact k _ _ w (fun e => absurd e (by decide))
    · have q := w.1
      have h := w.rr
      simp only [w_X5_staminaOf, w_X5_staminaOf_14, q.t123, q.r123_0, q.t124, q.n124, x_isVoice, qS, qT, h0, rf0 q, rf1 q, rf2 q, rf3 q, hty_sI, hln_sI, hR_sI, cnd1, cnd2, b2i_0, b2i_1, b2i_z, if_true, if_false, true_and, and_true, true_implies, false_implies, ne_eq, not_false_eq_true, not_true_eq_false, eq_self, exIA, exIS, exAI, exAS, exSI, exSA, true_or, or_true, false_or, or_false, Nat.reduceEqDiff, Bool.true_and, Bool.and_true, Bool.false_and, Bool.and_false, Bool.true_eq_false, Bool.false_eq_true, i10, i20, i30, vp0, nc0]
      exact k _ _ w.thr (fun e => absurd e (by decide))
  · skip
    cases h1 : inT b
    · refine ⟨1, 0, σ, iS, fun X m o K w k => ?_, fun X d o K w k => ?_⟩
      · have q := w.1
        have h : TR X 2 (zG σ) := w.2.1.1
        simp only [w_L_staminaOf, w_X4_staminaOf, q.t1, q.r1_0, q.t2, e_checkVoice, h0, h1, hty_sI, hln_sI, hR_sI, cnd1, cnd2, b2i_0, b2i_1, b2i_z, if_true, if_false, true_and, and_true, true_implies, false_implies, ne_eq, not_false_eq_true, not_true_eq_false, eq_self, exIA, exIS, exAI, exAS, exSI, exSA, true_or, or_true, false_or, or_false, Nat.reduceEqDiff, Bool.true_and, Bool.and_true, Bool.false_and, Bool.and_false, Bool.true_eq_false, Bool.false_eq_true, i10, i20, i30, vp0, nc0]
        exact k _ _ w (fun e => absurd e (by decide))
      · have q := w.1
        have h := w.rr
        simp only [w_X5_staminaOf, w_X5_staminaOf_14, q.t123, q.r123_0, q.t124, q.n124, x_isVoice, qS, qT, h0, h1, rf0 q, rf1 q, rf2 q, rf3 q, hty_sI, hln_sI, hR_sI, cnd1, cnd2, b2i_0, b2i_1, b2i_z, if_true, if_false, true_and, and_true, true_implies, false_implies, ne_eq, not_false_eq_true, not_true_eq_false, eq_self, exIA, exIS, exAI, exAS, exSI, exSA, true_or, or_true, false_or, or_false, Nat.reduceEqDiff, Bool.true_and, Bool.and_true, Bool.false_and, Bool.and_false, Bool.true_eq_false, Bool.false_eq_true, i10, i20, i30, vp0, nc0]
        exact k _ _ w.thr (fun e => absurd e (by decide))
    · skip
      obtain ⟨s, hs, rfl⟩ := inS_ex h0
      obtain ⟨t, ht, rfl⟩ := inT_ex h1
      refine ⟨0, gSt (zG σ) s t, σ, iS, fun X m o K w k => ?_, fun X d o K w k => ?_⟩
      · have q := w.1
        have h : TR X 2 (zG σ) := w.2.1.1
        simp only [w_L_staminaOf, w_X4_staminaOf, q.t1, q.r1_0, q.t2, q.t129, q.n129, e_checkVoice, e_staminaAt q h hs ht, h0, h1, hty_sI, hln_sI, hR_sI, cnd1, cnd2, b2i_0, b2i_1, b2i_z, if_true, if_false, true_and, and_true, true_implies, false_implies, ne_eq, not_false_eq_true, not_true_eq_false, eq_self, exIA, exIS, exAI, exAS, exSI, exSA, true_or, or_true, false_or, or_false, Nat.reduceEqDiff, Bool.true_and, Bool.and_true, Bool.false_and, Bool.and_false, Bool.true_eq_false, Bool.false_eq_true, i10, i20, i30, vp0, nc0]
        exact k _ _ w.out (fun _ => rfl)
      · have q := w.1
        have h := w.rr
        have q1 : Shp (sI X 123 7 0) := q
        have hh : RR (sI X 123 7 0) (zG σ) := h.thr
        simp only [w_X5_staminaOf, w_X5_staminaOf_14, q.t123, q.r123_0, q.t124, q.n124, x_isVoice, qS, qT, ixSt_eq, vp3 (show 312 + (3 * s + t) < 371 by omega), hh.v (show 312 + (3 * s + t) < 371 by omega), h0, h1, rf0 q, rf1 q, rf2 q, rf3 q, hty_sI, hln_sI, hR_sI, cnd1, cnd2, b2i_0, b2i_1, b2i_z, if_true, if_false, true_and, and_true, true_implies, false_implies, ne_eq, not_false_eq_true, not_true_eq_false, eq_self, exIA, exIS, exAI, exAS, exSI, exSA, true_or, or_true, false_or, or_false, Nat.reduceEqDiff, Bool.true_and, Bool.and_true, Bool.false_and, Bool.and_false, Bool.true_eq_false, Bool.false_eq_true, i10, i20, i30, vp0, nc0]
        exact k _ _ w.thr (fun _ => rfl)
theorem op_strengthLeft {σ : St} {n : Nat} (iS : InvS σ) (i : Inv (zG σ) n) (a b : Int32) : OpI (fun X K => w_L_strengthLeft 1 a b 129 X K) (fun X K => w_X5_strengthLeft 123 a b X K) σ := by
  have hn := i.cn
  cases h0 : inS a
  · refine ⟨1, 0, σ, iS, fun X m o K w k => ?_, fun X d o K w k => ?_⟩
    · have q := w.1
      have h : TR X 2 (zG σ) := w.2.1.1
      simp only [w_L_strengthLeft, w_X4_strengthLeft, q.t1, q.r1_0, q.t2, e_checkVoice, h0, hty_sI, hln_sI, hR_sI, cnd1, cnd2, b2i_0, b2i_1, b2i_z, if_true, if_false, true_and, and_true, true_implies, false_implies, ne_eq, not_false_eq_true, not_true_eq_false, eq_self, exIA, exIS, exAI, exAS, exSI, exSA, true_or, or_true, false_or, or_false, Nat.reduceEqDiff, Bool.true_and, Bool.and_true, Bool.false_and, Bool.and_false, Bool.true_eq_false, Bool.false_eq_true, i10, i20, i30, vp0, nc0]
      exact k _ _ w (fun e => absurd e (by decide))
    · have q := w.1
      have h := w.rr
      simp only [w_X5_strengthLeft, w_X5_strengthLeft_14, q.t123, q.r123_0, q.t124, q.n124, x_isVoice, qS, qT, h0, rf0 q, rf1 q, rf2 q, rf3 q, hty_sI, hln_sI, hR_sI, cnd1, cnd2, b2i_0, b2i_1, b2i_z, if_true, if_false, true_and, and_true, true_implies, false_implies, ne_eq, not_false_eq_true, not_true_eq_false, eq_self, exIA, exIS, exAI, exAS, exSI, exSA, true_or, or_true, false_or, or_false, Nat.reduceEqDiff, Bool.true_and, Bool.and_true, Bool.false_and, Bool.and_false, Bool.true_eq_false, Bool.false_eq_true, i10, i20, i30, vp0, nc0]
      exact k _ _ w.thr (fun e => absurd e (by decide))
  · skip
    cases h1 : inT b
    · refine ⟨1, 0, σ, iS, fun X m o K w k => ?_, fun X d o K w k => ?_⟩
      · have q := w.1
        have h : TR X 2 (zG σ) := w.2.1.1
        simp only [w_L_strengthLeft, w_X4_strengthLeft, q.t1, q.r1_0, q.t2, e_checkVoice, h0, h1, hty_sI, hln_sI, hR_sI, cnd1, cnd2, b2i_0, b2i_1, b2i_z, if_true, if_false, true_and, and_true, true_implies, false_implies, ne_eq, not_false_eq_true, not_true_eq_false, eq_self, exIA, exIS, exAI, exAS, exSI, exSA, true_or, or_true, false_or, or_false, Nat.reduceEqDiff, Bool.true_and, Bool.and_true, Bool.false_and, Bool.and_false, Bool.true_eq_false, Bool.false_eq_true, i10, i20, i30, vp0, nc0]
        exact k _ _ w (fun e => absurd e (by decide))
      · have q := w.1
        have h := w.rr
        simp only [w_X5_strengthLeft, w_X5_strengthLeft_14, q.t123, q.r123_0, q.t124, q.n124, x_isVoice, qS, qT, h0, h1, rf0 q, rf1 q, rf2 q, rf3 q, hty_sI, hln_sI, hR_sI, cnd1, cnd2, b2i_0, b2i_1, b2i_z, if_true, if_false, true_and, and_true, true_implies, false_implies, ne_eq, not_false_eq_true, not_true_eq_false, eq_self, exIA, exIS, exAI, exAS, exSI, exSA, true_or, or_true, false_or, or_false, Nat.reduceEqDiff, Bool.true_and, Bool.and_true, Bool.false_and, Bool.and_false, Bool.true_eq_false, Bool.false_eq_true, i10, i20, i30, vp0, nc0]
        exact k _ _ w.thr (fun e => absurd e (by decide))
    · skip
      obtain ⟨s, hs, rfl⟩ := inS_ex h0
      obtain ⟨t, ht, rfl⟩ := inT_ex h1
      refine ⟨0, gSn (zG σ) s t, σ, iS, fun X m o K w k => ?_, fun X d o K w k => ?_⟩
      · have q := w.1
        have h : TR X 2 (zG σ) := w.2.1.1
        simp only [w_L_strengthLeft, w_X4_strengthLeft, q.t1, q.r1_0, q.t2, q.t129, q.n129, e_checkVoice, e_strengthAt q h hs ht, h0, h1, hty_sI, hln_sI, hR_sI, cnd1, cnd2, b2i_0, b2i_1, b2i_z, if_true, if_false, true_and, and_true, true_implies, false_implies, ne_eq, not_false_eq_true, not_true_eq_false, eq_self, exIA, exIS, exAI, exAS, exSI, exSA, true_or, or_true, false_or, or_false, Nat.reduceEqDiff, Bool.true_and, Bool.and_true, Bool.false_and, Bool.and_false, Bool.true_eq_false, Bool.false_eq_true, i10, i20, i30, vp0, nc0]
        exact k _ _ w.out (fun _ => rfl)
      · have q := w.1
        have h := w.rr
        have q1 : Shp (sI X 123 7 0) := q
        have hh : RR (sI X 123 7 0) (zG σ) := h.thr
        simp only [w_X5_strengthLeft, w_X5_strengthLeft_14, q.t123, q.r123_0, q.t124, q.n124, x_isVoice, qS, qT, x_left q1 hh hs ht, h0, h1, rf0 q, rf1 q, rf2 q, rf3 q, hty_sI, hln_sI, hR_sI, cnd1, cnd2, b2i_0, b2i_1, b2i_z, if_true, if_false, true_and, and_true, true_implies, false_implies, ne_eq, not_false_eq_true, not_true_eq_false, eq_self, exIA, exIS, exAI, exAS, exSI, exSA, true_or, or_true, false_or, or_false, Nat.reduceEqDiff, Bool.true_and, Bool.and_true, Bool.false_and, Bool.and_false, Bool.true_eq_false, Bool.false_eq_true, i10, i20, i30, vp0, nc0]
        exact k _ _ w.thr (fun _ => rfl)
theorem op_framesOfVoice {σ : St} {n : Nat} (iS : InvS σ) (i : Inv (zG σ) n) (a b : Int32) : OpI (fun X K => w_L_framesOfVoice 1 a b 129 X K) (fun X K => w_X5_framesOfVoice 123 a b X K) σ := by
  have hn := i.cn
  cases h0 : inS a
  · refine ⟨1, 0, σ, iS, fun X m o K w k => ?_, fun X d o K w k => ?_⟩
    · have q := w.1
      have h : TR X 2 (zG σ) := w.2.1.1
      simp only [w_L_framesOfVoice, w_X4_framesOfVoice, q.t1, q.r1_0, q.t2, e_checkVoice, h0, hty_sI, hln_sI, hR_sI, cnd1, cnd2, b2i_0, b2i_1, b2i_z, if_true, if_false, true_and, and_true, true_implies, false_implies, ne_eq, not_false_eq_true, not_true_eq_false, eq_self, exIA, exIS, exAI, exAS, exSI, exSA, true_or, or_true, false_or, or_false, Nat.reduceEqDiff, Bool.true_and, Bool.and_true, Bool.false_and, Bool.and_false, Bool.true_eq_false, Bool.false_eq_true, i10, i20, i30, vp0, nc0]
      exact k _ _ w (fun e => absurd e (by decide))
    · have q := w.1
      have h := w.rr
      simp only [w_X5_framesOfVoice, w_X5_framesOfVoice_14, q.t123, q.r123_0, q.t124, q.n124, x_isVoice, qS, qT, h0, rf0 q, rf1 q, rf2 q, rf3 q, hty_sI, hln_sI, hR_sI, cnd1, cnd2, b2i_0, b2i_1, b2i_z, if_true, if_false, true_and, and_true, true_implies, false_implies, ne_eq, not_false_eq_true, not_true_eq_false, eq_self, exIA, exIS, exAI, exAS, exSI, exSA, true_or, or_true, false_or, or_false, Nat.reduceEqDiff, Bool.true_and, Bool.and_true, Bool.false_and, Bool.and_false, Bool.true_eq_false, Bool.false_eq_true, i10, i20, i30, vp0, nc0]
      exact k _ _ w.thr (fun e => absurd e (by decide))
  · skip
    cases h1 : inT b
    · refine ⟨1, 0, σ, iS, fun X m o K w k => ?_, fun X d o K w k => ?_⟩
      · have q := w.1
        have h : TR X 2 (zG σ) := w.2.1.1
        simp only [w_L_framesOfVoice, w_X4_framesOfVoice, q.t1, q.r1_0, q.t2, e_checkVoice, h0, h1, hty_sI, hln_sI, hR_sI, cnd1, cnd2, b2i_0, b2i_1, b2i_z, if_true, if_false, true_and, and_true, true_implies, false_implies, ne_eq, not_false_eq_true, not_true_eq_false, eq_self, exIA, exIS, exAI, exAS, exSI, exSA, true_or, or_true, false_or, or_false, Nat.reduceEqDiff, Bool.true_and, Bool.and_true, Bool.false_and, Bool.and_false, Bool.true_eq_false, Bool.false_eq_true, i10, i20, i30, vp0, nc0]
        exact k _ _ w (fun e => absurd e (by decide))
      · have q := w.1
        have h := w.rr
        simp only [w_X5_framesOfVoice, w_X5_framesOfVoice_14, q.t123, q.r123_0, q.t124, q.n124, x_isVoice, qS, qT, h0, h1, rf0 q, rf1 q, rf2 q, rf3 q, hty_sI, hln_sI, hR_sI, cnd1, cnd2, b2i_0, b2i_1, b2i_z, if_true, if_false, true_and, and_true, true_implies, false_implies, ne_eq, not_false_eq_true, not_true_eq_false, eq_self, exIA, exIS, exAI, exAS, exSI, exSA, true_or, or_true, false_or, or_false, Nat.reduceEqDiff, Bool.true_and, Bool.and_true, Bool.false_and, Bool.and_false, Bool.true_eq_false, Bool.false_eq_true, i10, i20, i30, vp0, nc0]
        exact k _ _ w.thr (fun e => absurd e (by decide))
    · skip
      obtain ⟨s, hs, rfl⟩ := inS_ex h0
      obtain ⟨t, ht, rfl⟩ := inT_ex h1
      refine ⟨0, sVoiced (zG σ) n (Int32.ofNat s) t, σ, iS, fun X m o K w k => ?_, fun X d o K w k => ?_⟩
      · have q := w.1
        have h : TR X 2 (zG σ) := w.2.1.1
        simp only [w_L_framesOfVoice, w_X4_framesOfVoice, q.t1, q.r1_0, q.t2, q.t129, q.n129, e_checkVoice, h0, h1, hty_sI, hln_sI, hR_sI, cnd1, cnd2, b2i_0, b2i_1, b2i_z, if_true, if_false, true_and, and_true, true_implies, false_implies, ne_eq, not_false_eq_true, not_true_eq_false, eq_self, exIA, exIS, exAI, exAS, exSI, exSA, true_or, or_true, false_or, or_false, Nat.reduceEqDiff, Bool.true_and, Bool.and_true, Bool.false_and, Bool.and_false, Bool.true_eq_false, Bool.false_eq_true, i10, i20, i30, vp0, nc0]
        refine s_takenFramesOf q h hn ht ?_
        exact ⟨q.t129, vpX q, k _ _ w.out (fun _ => rfl)⟩
      · have q := w.1
        have h := w.rr
        have q1 : Shp (sI X 123 7 0) := q
        have hh : RR (sI X 123 7 0) (zG σ) := h.thr
        simp only [w_X5_framesOfVoice, w_X5_framesOfVoice_14, q.t123, q.r123_0, q.t124, q.n124, x_isVoice, qS, qT, h0, h1, rf0 q, rf1 q, rf2 q, rf3 q, hty_sI, hln_sI, hR_sI, cnd1, cnd2, b2i_0, b2i_1, b2i_z, if_true, if_false, true_and, and_true, true_implies, false_implies, ne_eq, not_false_eq_true, not_true_eq_false, eq_self, exIA, exIS, exAI, exAS, exSI, exSA, true_or, or_true, false_or, or_false, Nat.reduceEqDiff, Bool.true_and, Bool.and_true, Bool.false_and, Bool.and_false, Bool.true_eq_false, Bool.false_eq_true, i10, i20, i30, vp0, nc0]
        refine s_voiced q1 hh hn ht ?_
        exact k _ _ w.thr (fun _ => rfl)
theorem op_clausesIn {σ : St} {n : Nat} (iS : InvS σ) (i : Inv (zG σ) n) (a : Int32) : OpI (fun X K => w_L_clausesIn 1 a 129 X K) (fun X K => w_X5_clausesIn 123 a X K) σ := by
  have hn := i.cn
  cases h0 : inR a
  · refine ⟨1, 0, σ, iS, fun X m o K w k => ?_, fun X d o K w k => ?_⟩
    · have q := w.1
      have h : TR X 2 (zG σ) := w.2.1.1
      simp only [w_L_clausesIn, w_X4_clausesIn, q.t1, q.r1_0, q.t2, e_checkReel, h0, hty_sI, hln_sI, hR_sI, cnd1, cnd2, b2i_0, b2i_1, b2i_z, if_true, if_false, true_and, and_true, true_implies, false_implies, ne_eq, not_false_eq_true, not_true_eq_false, eq_self, exIA, exIS, exAI, exAS, exSI, exSA, true_or, or_true, false_or, or_false, Nat.reduceEqDiff, Bool.true_and, Bool.and_true, Bool.false_and, Bool.and_false, Bool.true_eq_false, Bool.false_eq_true, i10, i20, i30, vp0, nc0]
      exact k _ _ w (fun e => absurd e (by decide))
    · have q := w.1
      have h := w.rr
      simp only [w_X5_clausesIn, w_X5_clausesIn_13, q.t123, q.r123_0, q.t124, q.n124, x_isReel, qR, h0, rf0 q, rf1 q, rf2 q, rf3 q, hty_sI, hln_sI, hR_sI, cnd1, cnd2, b2i_0, b2i_1, b2i_z, if_true, if_false, true_and, and_true, true_implies, false_implies, ne_eq, not_false_eq_true, not_true_eq_false, eq_self, exIA, exIS, exAI, exAS, exSI, exSA, true_or, or_true, false_or, or_false, Nat.reduceEqDiff, Bool.true_and, Bool.and_true, Bool.false_and, Bool.and_false, Bool.true_eq_false, Bool.false_eq_true, i10, i20, i30, vp0, nc0]
      exact k _ _ w.thr (fun e => absurd e (by decide))
  · skip
    obtain ⟨r, hr, rfl⟩ := inR_ex h0
    refine ⟨0, sMany (zG σ) n (Int32.ofNat r), σ, iS, fun X m o K w k => ?_, fun X d o K w k => ?_⟩
    · have q := w.1
      have h : TR X 2 (zG σ) := w.2.1.1
      simp only [w_L_clausesIn, w_X4_clausesIn, q.t1, q.r1_0, q.t2, q.t129, q.n129, e_checkReel, h0, hty_sI, hln_sI, hR_sI, cnd1, cnd2, b2i_0, b2i_1, b2i_z, if_true, if_false, true_and, and_true, true_implies, false_implies, ne_eq, not_false_eq_true, not_true_eq_false, eq_self, exIA, exIS, exAI, exAS, exSI, exSA, true_or, or_true, false_or, or_false, Nat.reduceEqDiff, Bool.true_and, Bool.and_true, Bool.false_and, Bool.and_false, Bool.true_eq_false, Bool.false_eq_true, i10, i20, i30, vp0, nc0]
      refine s_clausesOn q h hn ?_
      exact ⟨q.t129, vpX q, k _ _ w.out (fun _ => rfl)⟩
    · have q := w.1
      have h := w.rr
      have q1 : Shp (sI X 123 7 0) := q
      have hh : RR (sI X 123 7 0) (zG σ) := h.thr
      simp only [w_X5_clausesIn, w_X5_clausesIn_13, q.t123, q.r123_0, q.t124, q.n124, x_isReel, qR, h0, rf0 q, rf1 q, rf2 q, rf3 q, hty_sI, hln_sI, hR_sI, cnd1, cnd2, b2i_0, b2i_1, b2i_z, if_true, if_false, true_and, and_true, true_implies, false_implies, ne_eq, not_false_eq_true, not_true_eq_false, eq_self, exIA, exIS, exAI, exAS, exSI, exSA, true_or, or_true, false_or, or_false, Nat.reduceEqDiff, Bool.true_and, Bool.and_true, Bool.false_and, Bool.and_false, Bool.true_eq_false, Bool.false_eq_true, i10, i20, i30, vp0, nc0]
      refine s_many q1 hh hn ?_
      exact k _ _ w.thr (fun _ => rfl)
theorem op_lengthOf {σ : St} {n : Nat} (iS : InvS σ) (i : Inv (zG σ) n) (a : Int32) : OpI (fun X K => w_L_lengthOf 1 a 129 X K) (fun X K => w_X5_lengthOf 123 a X K) σ := by
  have hn := i.cn
  cases h0 : inR a
  · refine ⟨1, 0, σ, iS, fun X m o K w k => ?_, fun X d o K w k => ?_⟩
    · have q := w.1
      have h : TR X 2 (zG σ) := w.2.1.1
      simp only [w_L_lengthOf, w_X4_lengthOf, q.t1, q.r1_0, q.t2, e_checkReel, h0, hty_sI, hln_sI, hR_sI, cnd1, cnd2, b2i_0, b2i_1, b2i_z, if_true, if_false, true_and, and_true, true_implies, false_implies, ne_eq, not_false_eq_true, not_true_eq_false, eq_self, exIA, exIS, exAI, exAS, exSI, exSA, true_or, or_true, false_or, or_false, Nat.reduceEqDiff, Bool.true_and, Bool.and_true, Bool.false_and, Bool.and_false, Bool.true_eq_false, Bool.false_eq_true, i10, i20, i30, vp0, nc0]
      exact k _ _ w (fun e => absurd e (by decide))
    · have q := w.1
      have h := w.rr
      simp only [w_X5_lengthOf, w_X5_lengthOf_13, q.t123, q.r123_0, q.t124, q.n124, x_isReel, qR, h0, rf0 q, rf1 q, rf2 q, rf3 q, hty_sI, hln_sI, hR_sI, cnd1, cnd2, b2i_0, b2i_1, b2i_z, if_true, if_false, true_and, and_true, true_implies, false_implies, ne_eq, not_false_eq_true, not_true_eq_false, eq_self, exIA, exIS, exAI, exAS, exSI, exSA, true_or, or_true, false_or, or_false, Nat.reduceEqDiff, Bool.true_and, Bool.and_true, Bool.false_and, Bool.and_false, Bool.true_eq_false, Bool.false_eq_true, i10, i20, i30, vp0, nc0]
      exact k _ _ w.thr (fun e => absurd e (by decide))
  · skip
    obtain ⟨r, hr, rfl⟩ := inR_ex h0
    refine ⟨0, sLong (zG σ) n (Int32.ofNat r), σ, iS, fun X m o K w k => ?_, fun X d o K w k => ?_⟩
    · have q := w.1
      have h : TR X 2 (zG σ) := w.2.1.1
      simp only [w_L_lengthOf, w_X4_lengthOf, q.t1, q.r1_0, q.t2, q.t129, q.n129, e_checkReel, h0, hty_sI, hln_sI, hR_sI, cnd1, cnd2, b2i_0, b2i_1, b2i_z, if_true, if_false, true_and, and_true, true_implies, false_implies, ne_eq, not_false_eq_true, not_true_eq_false, eq_self, exIA, exIS, exAI, exAS, exSI, exSA, true_or, or_true, false_or, or_false, Nat.reduceEqDiff, Bool.true_and, Bool.and_true, Bool.false_and, Bool.and_false, Bool.true_eq_false, Bool.false_eq_true, i10, i20, i30, vp0, nc0]
      refine s_lipsOn q h hn ?_
      exact ⟨q.t129, vpX q, k _ _ w.out (fun _ => rfl)⟩
    · have q := w.1
      have h := w.rr
      have q1 : Shp (sI X 123 7 0) := q
      have hh : RR (sI X 123 7 0) (zG σ) := h.thr
      simp only [w_X5_lengthOf, w_X5_lengthOf_13, q.t123, q.r123_0, q.t124, q.n124, x_isReel, qR, h0, rf0 q, rf1 q, rf2 q, rf3 q, hty_sI, hln_sI, hR_sI, cnd1, cnd2, b2i_0, b2i_1, b2i_z, if_true, if_false, true_and, and_true, true_implies, false_implies, ne_eq, not_false_eq_true, not_true_eq_false, eq_self, exIA, exIS, exAI, exAS, exSI, exSA, true_or, or_true, false_or, or_false, Nat.reduceEqDiff, Bool.true_and, Bool.and_true, Bool.false_and, Bool.and_false, Bool.true_eq_false, Bool.false_eq_true, i10, i20, i30, vp0, nc0]
      refine s_long1 q1 hh hn ?_
      exact k _ _ w.thr (fun _ => rfl)
theorem op_speaksIn {σ : St} {n : Nat} (iS : InvS σ) (i : Inv (zG σ) n) (a b : Int32) : OpB (fun X K => w_L_speaksIn 1 a b 129 X K) (fun X K => w_X5_speaksIn 123 a b X K) σ := by
  have hn := i.cn
  cases h0 : inS a
  · refine ⟨1, false, σ, iS, fun X m o K w k => ?_, fun X d o K w k => ?_⟩
    · have q := w.1
      have h : TR X 2 (zG σ) := w.2.1.1
      simp only [w_L_speaksIn, w_X4_speaksIn, q.t1, q.r1_0, q.t2, e_checkState, e_checkReel, h0, hty_sI, hln_sI, hR_sI, cnd1, cnd2, b2i_0, b2i_1, b2i_z, if_true, if_false, true_and, and_true, true_implies, false_implies, ne_eq, not_false_eq_true, not_true_eq_false, eq_self, exIA, exIS, exAI, exAS, exSI, exSA, true_or, or_true, false_or, or_false, Nat.reduceEqDiff, Bool.true_and, Bool.and_true, Bool.false_and, Bool.and_false, Bool.true_eq_false, Bool.false_eq_true, i10, i20, i30, vp0, nc0]
      exact k _ _ w (fun e => absurd e (by decide))
    · have q := w.1
      have h := w.rr
      simp only [w_X5_speaksIn, w_X5_speaksIn_20, q.t123, q.r123_0, q.t124, q.n124, x_isState, x_isReel, qS, qR, h0, rf0 q, rf1 q, rf2 q, rf3 q, hty_sI, hln_sI, hR_sI, cnd1, cnd2, b2i_0, b2i_1, b2i_z, if_true, if_false, true_and, and_true, true_implies, false_implies, ne_eq, not_false_eq_true, not_true_eq_false, eq_self, exIA, exIS, exAI, exAS, exSI, exSA, true_or, or_true, false_or, or_false, Nat.reduceEqDiff, Bool.true_and, Bool.and_true, Bool.false_and, Bool.and_false, Bool.true_eq_false, Bool.false_eq_true, i10, i20, i30, vp0, nc0]
      exact k _ _ w.thr (fun e => absurd e (by decide))
  · skip
    cases h1 : inR b
    · refine ⟨1, false, σ, iS, fun X m o K w k => ?_, fun X d o K w k => ?_⟩
      · have q := w.1
        have h : TR X 2 (zG σ) := w.2.1.1
        simp only [w_L_speaksIn, w_X4_speaksIn, q.t1, q.r1_0, q.t2, e_checkState, e_checkReel, h0, h1, hty_sI, hln_sI, hR_sI, cnd1, cnd2, b2i_0, b2i_1, b2i_z, if_true, if_false, true_and, and_true, true_implies, false_implies, ne_eq, not_false_eq_true, not_true_eq_false, eq_self, exIA, exIS, exAI, exAS, exSI, exSA, true_or, or_true, false_or, or_false, Nat.reduceEqDiff, Bool.true_and, Bool.and_true, Bool.false_and, Bool.and_false, Bool.true_eq_false, Bool.false_eq_true, i10, i20, i30, vp0, nc0]
        exact k _ _ w (fun e => absurd e (by decide))
      · have q := w.1
        have h := w.rr
        simp only [w_X5_speaksIn, w_X5_speaksIn_20, q.t123, q.r123_0, q.t124, q.n124, x_isState, x_isReel, qS, qR, h0, h1, rf0 q, rf1 q, rf2 q, rf3 q, hty_sI, hln_sI, hR_sI, cnd1, cnd2, b2i_0, b2i_1, b2i_z, if_true, if_false, true_and, and_true, true_implies, false_implies, ne_eq, not_false_eq_true, not_true_eq_false, eq_self, exIA, exIS, exAI, exAS, exSI, exSA, true_or, or_true, false_or, or_false, Nat.reduceEqDiff, Bool.true_and, Bool.and_true, Bool.false_and, Bool.and_false, Bool.true_eq_false, Bool.false_eq_true, i10, i20, i30, vp0, nc0]
        exact k _ _ w.thr (fun e => absurd e (by decide))
    · skip
      obtain ⟨s, hs, rfl⟩ := inS_ex h0
      obtain ⟨r, hr, rfl⟩ := inR_ex h1
      cases hb : pHd (zG σ) n (Int32.ofNat s) (Int32.ofNat r)
      · refine ⟨0, false, σ, iS, fun X m o K w k => ?_, fun X d o K w k => ?_⟩
        · have q := w.1
          have h : TR X 2 (zG σ) := w.2.1.1
          simp only [w_L_speaksIn, w_X4_speaksIn, q.t1, q.r1_0, q.t2, q.t129, q.n129, e_checkState, e_checkReel, h0, h1, hb, hty_sI, hln_sI, hR_sI, cnd1, cnd2, b2i_0, b2i_1, b2i_z, if_true, if_false, true_and, and_true, true_implies, false_implies, ne_eq, not_false_eq_true, not_true_eq_false, eq_self, exIA, exIS, exAI, exAS, exSI, exSA, true_or, or_true, false_or, or_false, Nat.reduceEqDiff, Bool.true_and, Bool.and_true, Bool.false_and, Bool.and_false, Bool.true_eq_false, Bool.false_eq_true, i10, i20, i30, vp0, nc0]
          refine s_isHeardIn q h hn ?_
          simp only [q.t129, q.n129, h0, h1, hb, hty_sI, hln_sI, hR_sI, cnd1, cnd2, b2i_0, b2i_1, b2i_z, if_true, if_false, true_and, and_true, true_implies, false_implies, ne_eq, not_false_eq_true, not_true_eq_false, eq_self, exIA, exIS, exAI, exAS, exSI, exSA, true_or, or_true, false_or, or_false, Nat.reduceEqDiff, Bool.true_and, Bool.and_true, Bool.false_and, Bool.and_false, Bool.true_eq_false, Bool.false_eq_true, i10, i20, i30, vp0, nc0]
          exact k _ _ w.out (fun _ => rfl)
        · have q := w.1
          have h := w.rr
          have q1 : Shp (sI X 123 7 0) := q
          have hh : RR (sI X 123 7 0) (zG σ) := h.thr
          simp only [w_X5_speaksIn, w_X5_speaksIn_20, q.t123, q.r123_0, q.t124, q.n124, x_isState, x_isReel, qS, qR, h0, h1, hb, rf0 q, rf1 q, rf2 q, rf3 q, hty_sI, hln_sI, hR_sI, cnd1, cnd2, b2i_0, b2i_1, b2i_z, if_true, if_false, true_and, and_true, true_implies, false_implies, ne_eq, not_false_eq_true, not_true_eq_false, eq_self, exIA, exIS, exAI, exAS, exSI, exSA, true_or, or_true, false_or, or_false, Nat.reduceEqDiff, Bool.true_and, Bool.and_true, Bool.false_and, Bool.and_false, Bool.true_eq_false, Bool.false_eq_true, i10, i20, i30, vp0, nc0]
          refine s_speaks q1 hh hn ?_
          simp only [h0, h1, hb, hty_sI, hln_sI, hR_sI, cnd1, cnd2, b2i_0, b2i_1, b2i_z, if_true, if_false, true_and, and_true, true_implies, false_implies, ne_eq, not_false_eq_true, not_true_eq_false, eq_self, exIA, exIS, exAI, exAS, exSI, exSA, true_or, or_true, false_or, or_false, Nat.reduceEqDiff, Bool.true_and, Bool.and_true, Bool.false_and, Bool.and_false, Bool.true_eq_false, Bool.false_eq_true, i10, i20, i30, vp0, nc0]
          exact k _ _ w.thr (fun _ => rfl)
      · refine ⟨0, true, σ, iS, fun X m o K w k => ?_, fun X d o K w k => ?_⟩
        · have q := w.1
          have h : TR X 2 (zG σ) := w.2.1.1
          simp only [w_L_speaksIn, w_X4_speaksIn, q.t1, q.r1_0, q.t2, q.t129, q.n129, e_checkState, e_checkReel, h0, h1, hb, hty_sI, hln_sI, hR_sI, cnd1, cnd2, b2i_0, b2i_1, b2i_z, if_true, if_false, true_and, and_true, true_implies, false_implies, ne_eq, not_false_eq_true, not_true_eq_false, eq_self, exIA, exIS, exAI, exAS, exSI, exSA, true_or, or_true, false_or, or_false, Nat.reduceEqDiff, Bool.true_and, Bool.and_true, Bool.false_and, Bool.and_false, Bool.true_eq_false, Bool.false_eq_true, i10, i20, i30, vp0, nc0]
          refine s_isHeardIn q h hn ?_
          simp only [q.t129, q.n129, h0, h1, hb, hty_sI, hln_sI, hR_sI, cnd1, cnd2, b2i_0, b2i_1, b2i_z, if_true, if_false, true_and, and_true, true_implies, false_implies, ne_eq, not_false_eq_true, not_true_eq_false, eq_self, exIA, exIS, exAI, exAS, exSI, exSA, true_or, or_true, false_or, or_false, Nat.reduceEqDiff, Bool.true_and, Bool.and_true, Bool.false_and, Bool.and_false, Bool.true_eq_false, Bool.false_eq_true, i10, i20, i30, vp0, nc0]
          exact k _ _ w.out (fun _ => rfl)
        · have q := w.1
          have h := w.rr
          have q1 : Shp (sI X 123 7 0) := q
          have hh : RR (sI X 123 7 0) (zG σ) := h.thr
          simp only [w_X5_speaksIn, w_X5_speaksIn_20, q.t123, q.r123_0, q.t124, q.n124, x_isState, x_isReel, qS, qR, h0, h1, hb, rf0 q, rf1 q, rf2 q, rf3 q, hty_sI, hln_sI, hR_sI, cnd1, cnd2, b2i_0, b2i_1, b2i_z, if_true, if_false, true_and, and_true, true_implies, false_implies, ne_eq, not_false_eq_true, not_true_eq_false, eq_self, exIA, exIS, exAI, exAS, exSI, exSA, true_or, or_true, false_or, or_false, Nat.reduceEqDiff, Bool.true_and, Bool.and_true, Bool.false_and, Bool.and_false, Bool.true_eq_false, Bool.false_eq_true, i10, i20, i30, vp0, nc0]
          refine s_speaks q1 hh hn ?_
          simp only [h0, h1, hb, hty_sI, hln_sI, hR_sI, cnd1, cnd2, b2i_0, b2i_1, b2i_z, if_true, if_false, true_and, and_true, true_implies, false_implies, ne_eq, not_false_eq_true, not_true_eq_false, eq_self, exIA, exIS, exAI, exAS, exSI, exSA, true_or, or_true, false_or, or_false, Nat.reduceEqDiff, Bool.true_and, Bool.and_true, Bool.false_and, Bool.and_false, Bool.true_eq_false, Bool.false_eq_true, i10, i20, i30, vp0, nc0]
          exact k _ _ w.thr (fun _ => rfl)
theorem op_isComplete {σ : St} {n : Nat} (iS : InvS σ) (i : Inv (zG σ) n) (a b : Int32) : OpB (fun X K => w_L_isComplete 1 a b 129 X K) (fun X K => w_X5_isComplete 123 a b X K) σ := by
  have hn := i.cn
  cases h0 : inR a
  · refine ⟨1, false, σ, iS, fun X m o K w k => ?_, fun X d o K w k => ?_⟩
    · have q := w.1
      have h : TR X 2 (zG σ) := w.2.1.1
      simp only [w_L_isComplete, w_X4_isComplete, q.t1, q.r1_0, q.t2, e_checkReel, e_checkTongue, h0, hty_sI, hln_sI, hR_sI, cnd1, cnd2, b2i_0, b2i_1, b2i_z, if_true, if_false, true_and, and_true, true_implies, false_implies, ne_eq, not_false_eq_true, not_true_eq_false, eq_self, exIA, exIS, exAI, exAS, exSI, exSA, true_or, or_true, false_or, or_false, Nat.reduceEqDiff, Bool.true_and, Bool.and_true, Bool.false_and, Bool.and_false, Bool.true_eq_false, Bool.false_eq_true, i10, i20, i30, vp0, nc0]
      exact k _ _ w (fun e => absurd e (by decide))
    · have q := w.1
      have h := w.rr
      simp only [w_X5_isComplete, w_X5_isComplete_14, q.t123, q.r123_0, q.t124, q.n124, x_isPlace, qR, qT, h0, rf0 q, rf1 q, rf2 q, rf3 q, hty_sI, hln_sI, hR_sI, cnd1, cnd2, b2i_0, b2i_1, b2i_z, if_true, if_false, true_and, and_true, true_implies, false_implies, ne_eq, not_false_eq_true, not_true_eq_false, eq_self, exIA, exIS, exAI, exAS, exSI, exSA, true_or, or_true, false_or, or_false, Nat.reduceEqDiff, Bool.true_and, Bool.and_true, Bool.false_and, Bool.and_false, Bool.true_eq_false, Bool.false_eq_true, i10, i20, i30, vp0, nc0]
      exact k _ _ w.thr (fun e => absurd e (by decide))
  · skip
    cases h1 : inT b
    · refine ⟨1, false, σ, iS, fun X m o K w k => ?_, fun X d o K w k => ?_⟩
      · have q := w.1
        have h : TR X 2 (zG σ) := w.2.1.1
        simp only [w_L_isComplete, w_X4_isComplete, q.t1, q.r1_0, q.t2, e_checkReel, e_checkTongue, h0, h1, hty_sI, hln_sI, hR_sI, cnd1, cnd2, b2i_0, b2i_1, b2i_z, if_true, if_false, true_and, and_true, true_implies, false_implies, ne_eq, not_false_eq_true, not_true_eq_false, eq_self, exIA, exIS, exAI, exAS, exSI, exSA, true_or, or_true, false_or, or_false, Nat.reduceEqDiff, Bool.true_and, Bool.and_true, Bool.false_and, Bool.and_false, Bool.true_eq_false, Bool.false_eq_true, i10, i20, i30, vp0, nc0]
        exact k _ _ w (fun e => absurd e (by decide))
      · have q := w.1
        have h := w.rr
        simp only [w_X5_isComplete, w_X5_isComplete_14, q.t123, q.r123_0, q.t124, q.n124, x_isPlace, qR, qT, h0, h1, rf0 q, rf1 q, rf2 q, rf3 q, hty_sI, hln_sI, hR_sI, cnd1, cnd2, b2i_0, b2i_1, b2i_z, if_true, if_false, true_and, and_true, true_implies, false_implies, ne_eq, not_false_eq_true, not_true_eq_false, eq_self, exIA, exIS, exAI, exAS, exSI, exSA, true_or, or_true, false_or, or_false, Nat.reduceEqDiff, Bool.true_and, Bool.and_true, Bool.false_and, Bool.and_false, Bool.true_eq_false, Bool.false_eq_true, i10, i20, i30, vp0, nc0]
        exact k _ _ w.thr (fun e => absurd e (by decide))
    · skip
      obtain ⟨r, hr, rfl⟩ := inR_ex h0
      obtain ⟨t, ht, rfl⟩ := inT_ex h1
      cases hb : pWh (zG σ) n (Int32.ofNat r) t
      · refine ⟨0, false, σ, iS, fun X m o K w k => ?_, fun X d o K w k => ?_⟩
        · have q := w.1
          have h : TR X 2 (zG σ) := w.2.1.1
          simp only [w_L_isComplete, w_X4_isComplete, q.t1, q.r1_0, q.t2, q.t129, q.n129, e_checkReel, e_checkTongue, h0, h1, hb, hty_sI, hln_sI, hR_sI, cnd1, cnd2, b2i_0, b2i_1, b2i_z, if_true, if_false, true_and, and_true, true_implies, false_implies, ne_eq, not_false_eq_true, not_true_eq_false, eq_self, exIA, exIS, exAI, exAS, exSI, exSA, true_or, or_true, false_or, or_false, Nat.reduceEqDiff, Bool.true_and, Bool.and_true, Bool.false_and, Bool.and_false, Bool.true_eq_false, Bool.false_eq_true, i10, i20, i30, vp0, nc0]
          refine s_isWholeReel q h hn ht ?_
          simp only [q.t129, q.n129, h0, h1, hb, hty_sI, hln_sI, hR_sI, cnd1, cnd2, b2i_0, b2i_1, b2i_z, if_true, if_false, true_and, and_true, true_implies, false_implies, ne_eq, not_false_eq_true, not_true_eq_false, eq_self, exIA, exIS, exAI, exAS, exSI, exSA, true_or, or_true, false_or, or_false, Nat.reduceEqDiff, Bool.true_and, Bool.and_true, Bool.false_and, Bool.and_false, Bool.true_eq_false, Bool.false_eq_true, i10, i20, i30, vp0, nc0]
          exact k _ _ w.out (fun _ => rfl)
        · have q := w.1
          have h := w.rr
          have q1 : Shp (sI X 123 7 0) := q
          have hh : RR (sI X 123 7 0) (zG σ) := h.thr
          simp only [w_X5_isComplete, w_X5_isComplete_14, q.t123, q.r123_0, q.t124, q.n124, x_isPlace, qR, qT, h0, h1, hb, rf0 q, rf1 q, rf2 q, rf3 q, hty_sI, hln_sI, hR_sI, cnd1, cnd2, b2i_0, b2i_1, b2i_z, if_true, if_false, true_and, and_true, true_implies, false_implies, ne_eq, not_false_eq_true, not_true_eq_false, eq_self, exIA, exIS, exAI, exAS, exSI, exSA, true_or, or_true, false_or, or_false, Nat.reduceEqDiff, Bool.true_and, Bool.and_true, Bool.false_and, Bool.and_false, Bool.true_eq_false, Bool.false_eq_true, i10, i20, i30, vp0, nc0]
          refine s_complete q1 hh hn ht ?_
          simp only [h0, h1, hb, hty_sI, hln_sI, hR_sI, cnd1, cnd2, b2i_0, b2i_1, b2i_z, if_true, if_false, true_and, and_true, true_implies, false_implies, ne_eq, not_false_eq_true, not_true_eq_false, eq_self, exIA, exIS, exAI, exAS, exSI, exSA, true_or, or_true, false_or, or_false, Nat.reduceEqDiff, Bool.true_and, Bool.and_true, Bool.false_and, Bool.and_false, Bool.true_eq_false, Bool.false_eq_true, i10, i20, i30, vp0, nc0]
          exact k _ _ w.thr (fun _ => rfl)
      · refine ⟨0, true, σ, iS, fun X m o K w k => ?_, fun X d o K w k => ?_⟩
        · have q := w.1
          have h : TR X 2 (zG σ) := w.2.1.1
          simp only [w_L_isComplete, w_X4_isComplete, q.t1, q.r1_0, q.t2, q.t129, q.n129, e_checkReel, e_checkTongue, h0, h1, hb, hty_sI, hln_sI, hR_sI, cnd1, cnd2, b2i_0, b2i_1, b2i_z, if_true, if_false, true_and, and_true, true_implies, false_implies, ne_eq, not_false_eq_true, not_true_eq_false, eq_self, exIA, exIS, exAI, exAS, exSI, exSA, true_or, or_true, false_or, or_false, Nat.reduceEqDiff, Bool.true_and, Bool.and_true, Bool.false_and, Bool.and_false, Bool.true_eq_false, Bool.false_eq_true, i10, i20, i30, vp0, nc0]
          refine s_isWholeReel q h hn ht ?_
          simp only [q.t129, q.n129, h0, h1, hb, hty_sI, hln_sI, hR_sI, cnd1, cnd2, b2i_0, b2i_1, b2i_z, if_true, if_false, true_and, and_true, true_implies, false_implies, ne_eq, not_false_eq_true, not_true_eq_false, eq_self, exIA, exIS, exAI, exAS, exSI, exSA, true_or, or_true, false_or, or_false, Nat.reduceEqDiff, Bool.true_and, Bool.and_true, Bool.false_and, Bool.and_false, Bool.true_eq_false, Bool.false_eq_true, i10, i20, i30, vp0, nc0]
          exact k _ _ w.out (fun _ => rfl)
        · have q := w.1
          have h := w.rr
          have q1 : Shp (sI X 123 7 0) := q
          have hh : RR (sI X 123 7 0) (zG σ) := h.thr
          simp only [w_X5_isComplete, w_X5_isComplete_14, q.t123, q.r123_0, q.t124, q.n124, x_isPlace, qR, qT, h0, h1, hb, rf0 q, rf1 q, rf2 q, rf3 q, hty_sI, hln_sI, hR_sI, cnd1, cnd2, b2i_0, b2i_1, b2i_z, if_true, if_false, true_and, and_true, true_implies, false_implies, ne_eq, not_false_eq_true, not_true_eq_false, eq_self, exIA, exIS, exAI, exAS, exSI, exSA, true_or, or_true, false_or, or_false, Nat.reduceEqDiff, Bool.true_and, Bool.and_true, Bool.false_and, Bool.and_false, Bool.true_eq_false, Bool.false_eq_true, i10, i20, i30, vp0, nc0]
          refine s_complete q1 hh hn ht ?_
          simp only [h0, h1, hb, hty_sI, hln_sI, hR_sI, cnd1, cnd2, b2i_0, b2i_1, b2i_z, if_true, if_false, true_and, and_true, true_implies, false_implies, ne_eq, not_false_eq_true, not_true_eq_false, eq_self, exIA, exIS, exAI, exAS, exSI, exSA, true_or, or_true, false_or, or_false, Nat.reduceEqDiff, Bool.true_and, Bool.and_true, Bool.false_and, Bool.and_false, Bool.true_eq_false, Bool.false_eq_true, i10, i20, i30, vp0, nc0]
          exact k _ _ w.thr (fun _ => rfl)
theorem op_isMixed {σ : St} {n : Nat} (iS : InvS σ) (i : Inv (zG σ) n) (a b : Int32) : OpB (fun X K => w_L_isMixed 1 a b 129 X K) (fun X K => w_X5_isMixed 123 a b X K) σ := by
  have hn := i.cn
  cases h0 : inR a
  · refine ⟨1, false, σ, iS, fun X m o K w k => ?_, fun X d o K w k => ?_⟩
    · have q := w.1
      have h : TR X 2 (zG σ) := w.2.1.1
      simp only [w_L_isMixed, w_X4_isMixed, q.t1, q.r1_0, q.t2, e_checkReel, e_checkTongue, h0, hty_sI, hln_sI, hR_sI, cnd1, cnd2, b2i_0, b2i_1, b2i_z, if_true, if_false, true_and, and_true, true_implies, false_implies, ne_eq, not_false_eq_true, not_true_eq_false, eq_self, exIA, exIS, exAI, exAS, exSI, exSA, true_or, or_true, false_or, or_false, Nat.reduceEqDiff, Bool.true_and, Bool.and_true, Bool.false_and, Bool.and_false, Bool.true_eq_false, Bool.false_eq_true, i10, i20, i30, vp0, nc0]
      exact k _ _ w (fun e => absurd e (by decide))
    · have q := w.1
      have h := w.rr
      simp only [w_X5_isMixed, w_X5_isMixed_14, q.t123, q.r123_0, q.t124, q.n124, x_isPlace, qR, qT, h0, rf0 q, rf1 q, rf2 q, rf3 q, hty_sI, hln_sI, hR_sI, cnd1, cnd2, b2i_0, b2i_1, b2i_z, if_true, if_false, true_and, and_true, true_implies, false_implies, ne_eq, not_false_eq_true, not_true_eq_false, eq_self, exIA, exIS, exAI, exAS, exSI, exSA, true_or, or_true, false_or, or_false, Nat.reduceEqDiff, Bool.true_and, Bool.and_true, Bool.false_and, Bool.and_false, Bool.true_eq_false, Bool.false_eq_true, i10, i20, i30, vp0, nc0]
      exact k _ _ w.thr (fun e => absurd e (by decide))
  · skip
    cases h1 : inT b
    · refine ⟨1, false, σ, iS, fun X m o K w k => ?_, fun X d o K w k => ?_⟩
      · have q := w.1
        have h : TR X 2 (zG σ) := w.2.1.1
        simp only [w_L_isMixed, w_X4_isMixed, q.t1, q.r1_0, q.t2, e_checkReel, e_checkTongue, h0, h1, hty_sI, hln_sI, hR_sI, cnd1, cnd2, b2i_0, b2i_1, b2i_z, if_true, if_false, true_and, and_true, true_implies, false_implies, ne_eq, not_false_eq_true, not_true_eq_false, eq_self, exIA, exIS, exAI, exAS, exSI, exSA, true_or, or_true, false_or, or_false, Nat.reduceEqDiff, Bool.true_and, Bool.and_true, Bool.false_and, Bool.and_false, Bool.true_eq_false, Bool.false_eq_true, i10, i20, i30, vp0, nc0]
        exact k _ _ w (fun e => absurd e (by decide))
      · have q := w.1
        have h := w.rr
        simp only [w_X5_isMixed, w_X5_isMixed_14, q.t123, q.r123_0, q.t124, q.n124, x_isPlace, qR, qT, h0, h1, rf0 q, rf1 q, rf2 q, rf3 q, hty_sI, hln_sI, hR_sI, cnd1, cnd2, b2i_0, b2i_1, b2i_z, if_true, if_false, true_and, and_true, true_implies, false_implies, ne_eq, not_false_eq_true, not_true_eq_false, eq_self, exIA, exIS, exAI, exAS, exSI, exSA, true_or, or_true, false_or, or_false, Nat.reduceEqDiff, Bool.true_and, Bool.and_true, Bool.false_and, Bool.and_false, Bool.true_eq_false, Bool.false_eq_true, i10, i20, i30, vp0, nc0]
        exact k _ _ w.thr (fun e => absurd e (by decide))
    · skip
      obtain ⟨r, hr, rfl⟩ := inR_ex h0
      obtain ⟨t, ht, rfl⟩ := inT_ex h1
      cases hb : pMx (zG σ) r t
      · refine ⟨0, false, σ, iS, fun X m o K w k => ?_, fun X d o K w k => ?_⟩
        · have q := w.1
          have h : TR X 2 (zG σ) := w.2.1.1
          simp only [w_L_isMixed, w_X4_isMixed, q.t1, q.r1_0, q.t2, q.t129, q.n129, e_checkReel, e_checkTongue, e_hasMix q h hr ht, h0, h1, hb, hty_sI, hln_sI, hR_sI, cnd1, cnd2, b2i_0, b2i_1, b2i_z, if_true, if_false, true_and, and_true, true_implies, false_implies, ne_eq, not_false_eq_true, not_true_eq_false, eq_self, exIA, exIS, exAI, exAS, exSI, exSA, true_or, or_true, false_or, or_false, Nat.reduceEqDiff, Bool.true_and, Bool.and_true, Bool.false_and, Bool.and_false, Bool.true_eq_false, Bool.false_eq_true, i10, i20, i30, vp0, nc0]
          exact k _ _ w.out (fun _ => rfl)
        · have q := w.1
          have h := w.rr
          have q1 : Shp (sI X 123 7 0) := q
          have hh : RR (sI X 123 7 0) (zG σ) := h.thr
          simp only [w_X5_isMixed, w_X5_isMixed_14, q.t123, q.r123_0, q.t124, q.n124, x_isPlace, qR, qT, x_mixed q1 hh hr ht, h0, h1, hb, rf0 q, rf1 q, rf2 q, rf3 q, hty_sI, hln_sI, hR_sI, cnd1, cnd2, b2i_0, b2i_1, b2i_z, if_true, if_false, true_and, and_true, true_implies, false_implies, ne_eq, not_false_eq_true, not_true_eq_false, eq_self, exIA, exIS, exAI, exAS, exSI, exSA, true_or, or_true, false_or, or_false, Nat.reduceEqDiff, Bool.true_and, Bool.and_true, Bool.false_and, Bool.and_false, Bool.true_eq_false, Bool.false_eq_true, i10, i20, i30, vp0, nc0]
          exact k _ _ w.thr (fun _ => rfl)
      · refine ⟨0, true, σ, iS, fun X m o K w k => ?_, fun X d o K w k => ?_⟩
        · have q := w.1
          have h : TR X 2 (zG σ) := w.2.1.1
          simp only [w_L_isMixed, w_X4_isMixed, q.t1, q.r1_0, q.t2, q.t129, q.n129, e_checkReel, e_checkTongue, e_hasMix q h hr ht, h0, h1, hb, hty_sI, hln_sI, hR_sI, cnd1, cnd2, b2i_0, b2i_1, b2i_z, if_true, if_false, true_and, and_true, true_implies, false_implies, ne_eq, not_false_eq_true, not_true_eq_false, eq_self, exIA, exIS, exAI, exAS, exSI, exSA, true_or, or_true, false_or, or_false, Nat.reduceEqDiff, Bool.true_and, Bool.and_true, Bool.false_and, Bool.and_false, Bool.true_eq_false, Bool.false_eq_true, i10, i20, i30, vp0, nc0]
          exact k _ _ w.out (fun _ => rfl)
        · have q := w.1
          have h := w.rr
          have q1 : Shp (sI X 123 7 0) := q
          have hh : RR (sI X 123 7 0) (zG σ) := h.thr
          simp only [w_X5_isMixed, w_X5_isMixed_14, q.t123, q.r123_0, q.t124, q.n124, x_isPlace, qR, qT, x_mixed q1 hh hr ht, h0, h1, hb, rf0 q, rf1 q, rf2 q, rf3 q, hty_sI, hln_sI, hR_sI, cnd1, cnd2, b2i_0, b2i_1, b2i_z, if_true, if_false, true_and, and_true, true_implies, false_implies, ne_eq, not_false_eq_true, not_true_eq_false, eq_self, exIA, exIS, exAI, exAS, exSI, exSA, true_or, or_true, false_or, or_false, Nat.reduceEqDiff, Bool.true_and, Bool.and_true, Bool.false_and, Bool.and_false, Bool.true_eq_false, Bool.false_eq_true, i10, i20, i30, vp0, nc0]
          exact k _ _ w.thr (fun _ => rfl)
theorem op_hasSigned {σ : St} {n : Nat} (iS : InvS σ) (i : Inv (zG σ) n) (a b e : Int32) : OpB (fun X K => w_L_hasSigned 1 a b e 129 X K) (fun X K => w_X5_hasSigned 123 a b e X K) σ := by
  have hn := i.cn
  cases h0 : inS a
  · refine ⟨1, false, σ, iS, fun X m o K w k => ?_, fun X d o K w k => ?_⟩
    · have q := w.1
      have h : TR X 2 (zG σ) := w.2.1.1
      simp only [w_L_hasSigned, w_X4_hasSigned, q.t1, q.r1_0, q.t2, e_checkState, e_checkReel, e_checkTongue, h0, hty_sI, hln_sI, hR_sI, cnd1, cnd2, b2i_0, b2i_1, b2i_z, if_true, if_false, true_and, and_true, true_implies, false_implies, ne_eq, not_false_eq_true, not_true_eq_false, eq_self, exIA, exIS, exAI, exAS, exSI, exSA, true_or, or_true, false_or, or_false, Nat.reduceEqDiff, Bool.true_and, Bool.and_true, Bool.false_and, Bool.and_false, Bool.true_eq_false, Bool.false_eq_true, i10, i20, i30, vp0, nc0]
      exact k _ _ w (fun e => absurd e (by decide))
    · have q := w.1
      have h := w.rr
      simp only [w_X5_hasSigned, w_X5_hasSigned_21, q.t123, q.r123_0, q.t124, q.n124, x_isState, x_isPlace, qS, qR, qT, h0, rf0 q, rf1 q, rf2 q, rf3 q, hty_sI, hln_sI, hR_sI, cnd1, cnd2, b2i_0, b2i_1, b2i_z, if_true, if_false, true_and, and_true, true_implies, false_implies, ne_eq, not_false_eq_true, not_true_eq_false, eq_self, exIA, exIS, exAI, exAS, exSI, exSA, true_or, or_true, false_or, or_false, Nat.reduceEqDiff, Bool.true_and, Bool.and_true, Bool.false_and, Bool.and_false, Bool.true_eq_false, Bool.false_eq_true, i10, i20, i30, vp0, nc0]
      exact k _ _ w.thr (fun e => absurd e (by decide))
  · skip
    cases h1 : inR b
    · refine ⟨1, false, σ, iS, fun X m o K w k => ?_, fun X d o K w k => ?_⟩
      · have q := w.1
        have h : TR X 2 (zG σ) := w.2.1.1
        simp only [w_L_hasSigned, w_X4_hasSigned, q.t1, q.r1_0, q.t2, e_checkState, e_checkReel, e_checkTongue, h0, h1, hty_sI, hln_sI, hR_sI, cnd1, cnd2, b2i_0, b2i_1, b2i_z, if_true, if_false, true_and, and_true, true_implies, false_implies, ne_eq, not_false_eq_true, not_true_eq_false, eq_self, exIA, exIS, exAI, exAS, exSI, exSA, true_or, or_true, false_or, or_false, Nat.reduceEqDiff, Bool.true_and, Bool.and_true, Bool.false_and, Bool.and_false, Bool.true_eq_false, Bool.false_eq_true, i10, i20, i30, vp0, nc0]
        exact k _ _ w (fun e => absurd e (by decide))
      · have q := w.1
        have h := w.rr
        simp only [w_X5_hasSigned, w_X5_hasSigned_21, q.t123, q.r123_0, q.t124, q.n124, x_isState, x_isPlace, qS, qR, qT, h0, h1, rf0 q, rf1 q, rf2 q, rf3 q, hty_sI, hln_sI, hR_sI, cnd1, cnd2, b2i_0, b2i_1, b2i_z, if_true, if_false, true_and, and_true, true_implies, false_implies, ne_eq, not_false_eq_true, not_true_eq_false, eq_self, exIA, exIS, exAI, exAS, exSI, exSA, true_or, or_true, false_or, or_false, Nat.reduceEqDiff, Bool.true_and, Bool.and_true, Bool.false_and, Bool.and_false, Bool.true_eq_false, Bool.false_eq_true, i10, i20, i30, vp0, nc0]
        exact k _ _ w.thr (fun e => absurd e (by decide))
    · skip
      cases h2 : inT e
      · refine ⟨1, false, σ, iS, fun X m o K w k => ?_, fun X d o K w k => ?_⟩
        · have q := w.1
          have h : TR X 2 (zG σ) := w.2.1.1
          simp only [w_L_hasSigned, w_X4_hasSigned, q.t1, q.r1_0, q.t2, e_checkState, e_checkReel, e_checkTongue, h0, h1, h2, hty_sI, hln_sI, hR_sI, cnd1, cnd2, b2i_0, b2i_1, b2i_z, if_true, if_false, true_and, and_true, true_implies, false_implies, ne_eq, not_false_eq_true, not_true_eq_false, eq_self, exIA, exIS, exAI, exAS, exSI, exSA, true_or, or_true, false_or, or_false, Nat.reduceEqDiff, Bool.true_and, Bool.and_true, Bool.false_and, Bool.and_false, Bool.true_eq_false, Bool.false_eq_true, i10, i20, i30, vp0, nc0]
          exact k _ _ w (fun e => absurd e (by decide))
        · have q := w.1
          have h := w.rr
          simp only [w_X5_hasSigned, w_X5_hasSigned_21, q.t123, q.r123_0, q.t124, q.n124, x_isState, x_isPlace, qS, qR, qT, h0, h1, h2, rf0 q, rf1 q, rf2 q, rf3 q, hty_sI, hln_sI, hR_sI, cnd1, cnd2, b2i_0, b2i_1, b2i_z, if_true, if_false, true_and, and_true, true_implies, false_implies, ne_eq, not_false_eq_true, not_true_eq_false, eq_self, exIA, exIS, exAI, exAS, exSI, exSA, true_or, or_true, false_or, or_false, Nat.reduceEqDiff, Bool.true_and, Bool.and_true, Bool.false_and, Bool.and_false, Bool.true_eq_false, Bool.false_eq_true, i10, i20, i30, vp0, nc0]
          exact k _ _ w.thr (fun e => absurd e (by decide))
      · skip
        obtain ⟨s, hs, rfl⟩ := inS_ex h0
        obtain ⟨r, hr, rfl⟩ := inR_ex h1
        obtain ⟨t, ht, rfl⟩ := inT_ex h2
        cases hb : pSg (zG σ) s r t
        · refine ⟨0, false, σ, iS, fun X m o K w k => ?_, fun X d o K w k => ?_⟩
          · have q := w.1
            have h : TR X 2 (zG σ) := w.2.1.1
            simp only [w_L_hasSigned, w_X4_hasSigned, q.t1, q.r1_0, q.t2, q.t129, q.n129, e_checkState, e_checkReel, e_checkTongue, e_hasSignature q h hs hr ht, h0, h1, h2, hb, hty_sI, hln_sI, hR_sI, cnd1, cnd2, b2i_0, b2i_1, b2i_z, if_true, if_false, true_and, and_true, true_implies, false_implies, ne_eq, not_false_eq_true, not_true_eq_false, eq_self, exIA, exIS, exAI, exAS, exSI, exSA, true_or, or_true, false_or, or_false, Nat.reduceEqDiff, Bool.true_and, Bool.and_true, Bool.false_and, Bool.and_false, Bool.true_eq_false, Bool.false_eq_true, i10, i20, i30, vp0, nc0]
            exact k _ _ w.out (fun _ => rfl)
          · have q := w.1
            have h := w.rr
            have q1 : Shp (sI X 123 7 0) := q
            have hh : RR (sI X 123 7 0) (zG σ) := h.thr
            simp only [w_X5_hasSigned, w_X5_hasSigned_21, q.t123, q.r123_0, q.t124, q.n124, x_isState, x_isPlace, qS, qR, qT, x_signed q1 hh hs hr ht, h0, h1, h2, hb, rf0 q, rf1 q, rf2 q, rf3 q, hty_sI, hln_sI, hR_sI, cnd1, cnd2, b2i_0, b2i_1, b2i_z, if_true, if_false, true_and, and_true, true_implies, false_implies, ne_eq, not_false_eq_true, not_true_eq_false, eq_self, exIA, exIS, exAI, exAS, exSI, exSA, true_or, or_true, false_or, or_false, Nat.reduceEqDiff, Bool.true_and, Bool.and_true, Bool.false_and, Bool.and_false, Bool.true_eq_false, Bool.false_eq_true, i10, i20, i30, vp0, nc0]
            exact k _ _ w.thr (fun _ => rfl)
        · refine ⟨0, true, σ, iS, fun X m o K w k => ?_, fun X d o K w k => ?_⟩
          · have q := w.1
            have h : TR X 2 (zG σ) := w.2.1.1
            simp only [w_L_hasSigned, w_X4_hasSigned, q.t1, q.r1_0, q.t2, q.t129, q.n129, e_checkState, e_checkReel, e_checkTongue, e_hasSignature q h hs hr ht, h0, h1, h2, hb, hty_sI, hln_sI, hR_sI, cnd1, cnd2, b2i_0, b2i_1, b2i_z, if_true, if_false, true_and, and_true, true_implies, false_implies, ne_eq, not_false_eq_true, not_true_eq_false, eq_self, exIA, exIS, exAI, exAS, exSI, exSA, true_or, or_true, false_or, or_false, Nat.reduceEqDiff, Bool.true_and, Bool.and_true, Bool.false_and, Bool.and_false, Bool.true_eq_false, Bool.false_eq_true, i10, i20, i30, vp0, nc0]
            exact k _ _ w.out (fun _ => rfl)
          · have q := w.1
            have h := w.rr
            have q1 : Shp (sI X 123 7 0) := q
            have hh : RR (sI X 123 7 0) (zG σ) := h.thr
            simp only [w_X5_hasSigned, w_X5_hasSigned_21, q.t123, q.r123_0, q.t124, q.n124, x_isState, x_isPlace, qS, qR, qT, x_signed q1 hh hs hr ht, h0, h1, h2, hb, rf0 q, rf1 q, rf2 q, rf3 q, hty_sI, hln_sI, hR_sI, cnd1, cnd2, b2i_0, b2i_1, b2i_z, if_true, if_false, true_and, and_true, true_implies, false_implies, ne_eq, not_false_eq_true, not_true_eq_false, eq_self, exIA, exIS, exAI, exAS, exSI, exSA, true_or, or_true, false_or, or_false, Nat.reduceEqDiff, Bool.true_and, Bool.and_true, Bool.false_and, Bool.and_false, Bool.true_eq_false, Bool.false_eq_true, i10, i20, i30, vp0, nc0]
            exact k _ _ w.thr (fun _ => rfl)
theorem op_signaturesOn {σ : St} {n : Nat} (iS : InvS σ) (i : Inv (zG σ) n) (a b : Int32) : OpI (fun X K => w_L_signaturesOn 1 a b 129 X K) (fun X K => w_X5_signaturesOn 123 a b X K) σ := by
  have hn := i.cn
  cases h0 : inR a
  · refine ⟨1, 0, σ, iS, fun X m o K w k => ?_, fun X d o K w k => ?_⟩
    · have q := w.1
      have h : TR X 2 (zG σ) := w.2.1.1
      simp only [w_L_signaturesOn, w_X4_signaturesOn, q.t1, q.r1_0, q.t2, e_checkReel, e_checkTongue, h0, hty_sI, hln_sI, hR_sI, cnd1, cnd2, b2i_0, b2i_1, b2i_z, if_true, if_false, true_and, and_true, true_implies, false_implies, ne_eq, not_false_eq_true, not_true_eq_false, eq_self, exIA, exIS, exAI, exAS, exSI, exSA, true_or, or_true, false_or, or_false, Nat.reduceEqDiff, Bool.true_and, Bool.and_true, Bool.false_and, Bool.and_false, Bool.true_eq_false, Bool.false_eq_true, i10, i20, i30, vp0, nc0]
      exact k _ _ w (fun e => absurd e (by decide))
    · have q := w.1
      have h := w.rr
      simp only [w_X5_signaturesOn, w_X5_signaturesOn_14, q.t123, q.r123_0, q.t124, q.n124, x_isPlace, qR, qT, h0, rf0 q, rf1 q, rf2 q, rf3 q, hty_sI, hln_sI, hR_sI, cnd1, cnd2, b2i_0, b2i_1, b2i_z, if_true, if_false, true_and, and_true, true_implies, false_implies, ne_eq, not_false_eq_true, not_true_eq_false, eq_self, exIA, exIS, exAI, exAS, exSI, exSA, true_or, or_true, false_or, or_false, Nat.reduceEqDiff, Bool.true_and, Bool.and_true, Bool.false_and, Bool.and_false, Bool.true_eq_false, Bool.false_eq_true, i10, i20, i30, vp0, nc0]
      exact k _ _ w.thr (fun e => absurd e (by decide))
  · skip
    cases h1 : inT b
    · refine ⟨1, 0, σ, iS, fun X m o K w k => ?_, fun X d o K w k => ?_⟩
      · have q := w.1
        have h : TR X 2 (zG σ) := w.2.1.1
        simp only [w_L_signaturesOn, w_X4_signaturesOn, q.t1, q.r1_0, q.t2, e_checkReel, e_checkTongue, h0, h1, hty_sI, hln_sI, hR_sI, cnd1, cnd2, b2i_0, b2i_1, b2i_z, if_true, if_false, true_and, and_true, true_implies, false_implies, ne_eq, not_false_eq_true, not_true_eq_false, eq_self, exIA, exIS, exAI, exAS, exSI, exSA, true_or, or_true, false_or, or_false, Nat.reduceEqDiff, Bool.true_and, Bool.and_true, Bool.false_and, Bool.and_false, Bool.true_eq_false, Bool.false_eq_true, i10, i20, i30, vp0, nc0]
        exact k _ _ w (fun e => absurd e (by decide))
      · have q := w.1
        have h := w.rr
        simp only [w_X5_signaturesOn, w_X5_signaturesOn_14, q.t123, q.r123_0, q.t124, q.n124, x_isPlace, qR, qT, h0, h1, rf0 q, rf1 q, rf2 q, rf3 q, hty_sI, hln_sI, hR_sI, cnd1, cnd2, b2i_0, b2i_1, b2i_z, if_true, if_false, true_and, and_true, true_implies, false_implies, ne_eq, not_false_eq_true, not_true_eq_false, eq_self, exIA, exIS, exAI, exAS, exSI, exSA, true_or, or_true, false_or, or_false, Nat.reduceEqDiff, Bool.true_and, Bool.and_true, Bool.false_and, Bool.and_false, Bool.true_eq_false, Bool.false_eq_true, i10, i20, i30, vp0, nc0]
        exact k _ _ w.thr (fun e => absurd e (by decide))
    · skip
      obtain ⟨r, hr, rfl⟩ := inR_ex h0
      obtain ⟨t, ht, rfl⟩ := inT_ex h1
      refine ⟨0, sSigs (zG σ) r t, σ, iS, fun X m o K w k => ?_, fun X d o K w k => ?_⟩
      · have q := w.1
        have h : TR X 2 (zG σ) := w.2.1.1
        simp only [w_L_signaturesOn, w_X4_signaturesOn, q.t1, q.r1_0, q.t2, q.t129, q.n129, e_checkReel, e_checkTongue, h0, h1, hty_sI, hln_sI, hR_sI, cnd1, cnd2, b2i_0, b2i_1, b2i_z, if_true, if_false, true_and, and_true, true_implies, false_implies, ne_eq, not_false_eq_true, not_true_eq_false, eq_self, exIA, exIS, exAI, exAS, exSI, exSA, true_or, or_true, false_or, or_false, Nat.reduceEqDiff, Bool.true_and, Bool.and_true, Bool.false_and, Bool.and_false, Bool.true_eq_false, Bool.false_eq_true, i10, i20, i30, vp0, nc0]
        refine s_signaturesAt q h hr ht (i.2.2.2.2.1 r hr t ht).2 ?_
        exact ⟨q.t129, vpX q, k _ _ w.out (fun _ => rfl)⟩
      · have q := w.1
        have h := w.rr
        have q1 : Shp (sI X 123 7 0) := q
        have hh : RR (sI X 123 7 0) (zG σ) := h.thr
        simp only [w_X5_signaturesOn, w_X5_signaturesOn_14, q.t123, q.r123_0, q.t124, q.n124, x_isPlace, qR, qT, h0, h1, rf0 q, rf1 q, rf2 q, rf3 q, hty_sI, hln_sI, hR_sI, cnd1, cnd2, b2i_0, b2i_1, b2i_z, if_true, if_false, true_and, and_true, true_implies, false_implies, ne_eq, not_false_eq_true, not_true_eq_false, eq_self, exIA, exIS, exAI, exAS, exSI, exSA, true_or, or_true, false_or, or_false, Nat.reduceEqDiff, Bool.true_and, Bool.and_true, Bool.false_and, Bool.and_false, Bool.true_eq_false, Bool.false_eq_true, i10, i20, i30, vp0, nc0]
        refine s_signatures q1 hh hr ht ?_
        exact k _ _ w.thr (fun _ => rfl)
theorem op_missingOn {σ : St} {n : Nat} (iS : InvS σ) (i : Inv (zG σ) n) (a b : Int32) : OpI (fun X K => w_L_missingOn 1 a b 129 X K) (fun X K => w_X5_missingOn 123 a b X K) σ := by
  have hn := i.cn
  cases h0 : inR a
  · refine ⟨1, 0, σ, iS, fun X m o K w k => ?_, fun X d o K w k => ?_⟩
    · have q := w.1
      have h : TR X 2 (zG σ) := w.2.1.1
      simp only [w_L_missingOn, w_X4_missingOn, q.t1, q.r1_0, q.t2, e_checkReel, e_checkTongue, h0, hty_sI, hln_sI, hR_sI, cnd1, cnd2, b2i_0, b2i_1, b2i_z, if_true, if_false, true_and, and_true, true_implies, false_implies, ne_eq, not_false_eq_true, not_true_eq_false, eq_self, exIA, exIS, exAI, exAS, exSI, exSA, true_or, or_true, false_or, or_false, Nat.reduceEqDiff, Bool.true_and, Bool.and_true, Bool.false_and, Bool.and_false, Bool.true_eq_false, Bool.false_eq_true, i10, i20, i30, vp0, nc0]
      exact k _ _ w (fun e => absurd e (by decide))
    · have q := w.1
      have h := w.rr
      simp only [w_X5_missingOn, w_X5_missingOn_14, q.t123, q.r123_0, q.t124, q.n124, x_isPlace, qR, qT, h0, rf0 q, rf1 q, rf2 q, rf3 q, hty_sI, hln_sI, hR_sI, cnd1, cnd2, b2i_0, b2i_1, b2i_z, if_true, if_false, true_and, and_true, true_implies, false_implies, ne_eq, not_false_eq_true, not_true_eq_false, eq_self, exIA, exIS, exAI, exAS, exSI, exSA, true_or, or_true, false_or, or_false, Nat.reduceEqDiff, Bool.true_and, Bool.and_true, Bool.false_and, Bool.and_false, Bool.true_eq_false, Bool.false_eq_true, i10, i20, i30, vp0, nc0]
      exact k _ _ w.thr (fun e => absurd e (by decide))
  · skip
    cases h1 : inT b
    · refine ⟨1, 0, σ, iS, fun X m o K w k => ?_, fun X d o K w k => ?_⟩
      · have q := w.1
        have h : TR X 2 (zG σ) := w.2.1.1
        simp only [w_L_missingOn, w_X4_missingOn, q.t1, q.r1_0, q.t2, e_checkReel, e_checkTongue, h0, h1, hty_sI, hln_sI, hR_sI, cnd1, cnd2, b2i_0, b2i_1, b2i_z, if_true, if_false, true_and, and_true, true_implies, false_implies, ne_eq, not_false_eq_true, not_true_eq_false, eq_self, exIA, exIS, exAI, exAS, exSI, exSA, true_or, or_true, false_or, or_false, Nat.reduceEqDiff, Bool.true_and, Bool.and_true, Bool.false_and, Bool.and_false, Bool.true_eq_false, Bool.false_eq_true, i10, i20, i30, vp0, nc0]
        exact k _ _ w (fun e => absurd e (by decide))
      · have q := w.1
        have h := w.rr
        simp only [w_X5_missingOn, w_X5_missingOn_14, q.t123, q.r123_0, q.t124, q.n124, x_isPlace, qR, qT, h0, h1, rf0 q, rf1 q, rf2 q, rf3 q, hty_sI, hln_sI, hR_sI, cnd1, cnd2, b2i_0, b2i_1, b2i_z, if_true, if_false, true_and, and_true, true_implies, false_implies, ne_eq, not_false_eq_true, not_true_eq_false, eq_self, exIA, exIS, exAI, exAS, exSI, exSA, true_or, or_true, false_or, or_false, Nat.reduceEqDiff, Bool.true_and, Bool.and_true, Bool.false_and, Bool.and_false, Bool.true_eq_false, Bool.false_eq_true, i10, i20, i30, vp0, nc0]
        exact k _ _ w.thr (fun e => absurd e (by decide))
    · skip
      obtain ⟨r, hr, rfl⟩ := inR_ex h0
      obtain ⟨t, ht, rfl⟩ := inT_ex h1
      refine ⟨0, sMiss (zG σ) n r t, σ, iS, fun X m o K w k => ?_, fun X d o K w k => ?_⟩
      · have q := w.1
        have h : TR X 2 (zG σ) := w.2.1.1
        simp only [w_L_missingOn, w_X4_missingOn, q.t1, q.r1_0, q.t2, q.t129, q.n129, e_checkReel, e_checkTongue, h0, h1, hty_sI, hln_sI, hR_sI, cnd1, cnd2, b2i_0, b2i_1, b2i_z, if_true, if_false, true_and, and_true, true_implies, false_implies, ne_eq, not_false_eq_true, not_true_eq_false, eq_self, exIA, exIS, exAI, exAS, exSI, exSA, true_or, or_true, false_or, or_false, Nat.reduceEqDiff, Bool.true_and, Bool.and_true, Bool.false_and, Bool.and_false, Bool.true_eq_false, Bool.false_eq_true, i10, i20, i30, vp0, nc0]
        refine s_signaturesMissing q h hn hr ht ?_
        exact ⟨q.t129, vpX q, k _ _ w.out (fun _ => rfl)⟩
      · have q := w.1
        have h := w.rr
        have q1 : Shp (sI X 123 7 0) := q
        have hh : RR (sI X 123 7 0) (zG σ) := h.thr
        simp only [w_X5_missingOn, w_X5_missingOn_14, q.t123, q.r123_0, q.t124, q.n124, x_isPlace, qR, qT, h0, h1, rf0 q, rf1 q, rf2 q, rf3 q, hty_sI, hln_sI, hR_sI, cnd1, cnd2, b2i_0, b2i_1, b2i_z, if_true, if_false, true_and, and_true, true_implies, false_implies, ne_eq, not_false_eq_true, not_true_eq_false, eq_self, exIA, exIS, exAI, exAS, exSI, exSA, true_or, or_true, false_or, or_false, Nat.reduceEqDiff, Bool.true_and, Bool.and_true, Bool.false_and, Bool.and_false, Bool.true_eq_false, Bool.false_eq_true, i10, i20, i30, vp0, nc0]
        refine s_missing q1 hh hn hr ht ?_
        exact k _ _ w.thr (fun _ => rfl)
theorem op_annexOf {σ : St} {n : Nat} (iS : InvS σ) (i : Inv (zG σ) n) (a : Int32) : OpI (fun X K => w_L_annexOf 1 a 129 X K) (fun X K => w_X5_annexOf 123 a X K) σ := by
  have hn := i.cn
  cases h0 : inT a
  · refine ⟨1, 0, σ, iS, fun X m o K w k => ?_, fun X d o K w k => ?_⟩
    · have q := w.1
      have h : TR X 2 (zG σ) := w.2.1.1
      simp only [w_L_annexOf, w_X4_annexOf, q.t1, q.r1_0, q.t2, e_checkTongue, h0, hty_sI, hln_sI, hR_sI, cnd1, cnd2, b2i_0, b2i_1, b2i_z, if_true, if_false, true_and, and_true, true_implies, false_implies, ne_eq, not_false_eq_true, not_true_eq_false, eq_self, exIA, exIS, exAI, exAS, exSI, exSA, true_or, or_true, false_or, or_false, Nat.reduceEqDiff, Bool.true_and, Bool.and_true, Bool.false_and, Bool.and_false, Bool.true_eq_false, Bool.false_eq_true, i10, i20, i30, vp0, nc0]
      exact k _ _ w (fun e => absurd e (by decide))
    · have q := w.1
      have h := w.rr
      simp only [w_X5_annexOf, w_X5_annexOf_13, q.t123, q.r123_0, q.t124, q.n124, x_isTongue, qT, h0, rf0 q, rf1 q, rf2 q, rf3 q, hty_sI, hln_sI, hR_sI, cnd1, cnd2, b2i_0, b2i_1, b2i_z, if_true, if_false, true_and, and_true, true_implies, false_implies, ne_eq, not_false_eq_true, not_true_eq_false, eq_self, exIA, exIS, exAI, exAS, exSI, exSA, true_or, or_true, false_or, or_false, Nat.reduceEqDiff, Bool.true_and, Bool.and_true, Bool.false_and, Bool.and_false, Bool.true_eq_false, Bool.false_eq_true, i10, i20, i30, vp0, nc0]
      exact k _ _ w.thr (fun e => absurd e (by decide))
  · skip
    obtain ⟨t, ht, rfl⟩ := inT_ex h0
    refine ⟨0, sAnnex (zG σ) n t, σ, iS, fun X m o K w k => ?_, fun X d o K w k => ?_⟩
    · have q := w.1
      have h : TR X 2 (zG σ) := w.2.1.1
      simp only [w_L_annexOf, w_X4_annexOf, q.t1, q.r1_0, q.t2, q.t129, q.n129, e_checkTongue, h0, hty_sI, hln_sI, hR_sI, cnd1, cnd2, b2i_0, b2i_1, b2i_z, if_true, if_false, true_and, and_true, true_implies, false_implies, ne_eq, not_false_eq_true, not_true_eq_false, eq_self, exIA, exIS, exAI, exAS, exSI, exSA, true_or, or_true, false_or, or_false, Nat.reduceEqDiff, Bool.true_and, Bool.and_true, Bool.false_and, Bool.and_false, Bool.true_eq_false, Bool.false_eq_true, i10, i20, i30, vp0, nc0]
      refine s_annexTotal q h hn ht ?_
      exact ⟨q.t129, vpX q, k _ _ w.out (fun _ => rfl)⟩
    · have q := w.1
      have h := w.rr
      have q1 : Shp (sI X 123 7 0) := q
      have hh : RR (sI X 123 7 0) (zG σ) := h.thr
      simp only [w_X5_annexOf, w_X5_annexOf_13, q.t123, q.r123_0, q.t124, q.n124, x_isTongue, qT, h0, rf0 q, rf1 q, rf2 q, rf3 q, hty_sI, hln_sI, hR_sI, cnd1, cnd2, b2i_0, b2i_1, b2i_z, if_true, if_false, true_and, and_true, true_implies, false_implies, ne_eq, not_false_eq_true, not_true_eq_false, eq_self, exIA, exIS, exAI, exAS, exSI, exSA, true_or, or_true, false_or, or_false, Nat.reduceEqDiff, Bool.true_and, Bool.and_true, Bool.false_and, Bool.and_false, Bool.true_eq_false, Bool.false_eq_true, i10, i20, i30, vp0, nc0]
      refine s_annexed q1 hh hn ht ?_
      exact k _ _ w.thr (fun _ => rfl)
theorem op_recordedIn {σ : St} {n : Nat} (iS : InvS σ) (i : Inv (zG σ) n) (a : Int32) : OpI (fun X K => w_L_recordedIn 1 a 129 X K) (fun X K => w_X5_recordedIn 123 a X K) σ := by
  have hn := i.cn
  cases h0 : inT a
  · refine ⟨1, 0, σ, iS, fun X m o K w k => ?_, fun X d o K w k => ?_⟩
    · have q := w.1
      have h : TR X 2 (zG σ) := w.2.1.1
      simp only [w_L_recordedIn, w_X4_recordedIn, q.t1, q.r1_0, q.t2, e_checkTongue, h0, hty_sI, hln_sI, hR_sI, cnd1, cnd2, b2i_0, b2i_1, b2i_z, if_true, if_false, true_and, and_true, true_implies, false_implies, ne_eq, not_false_eq_true, not_true_eq_false, eq_self, exIA, exIS, exAI, exAS, exSI, exSA, true_or, or_true, false_or, or_false, Nat.reduceEqDiff, Bool.true_and, Bool.and_true, Bool.false_and, Bool.and_false, Bool.true_eq_false, Bool.false_eq_true, i10, i20, i30, vp0, nc0]
      exact k _ _ w (fun e => absurd e (by decide))
    · have q := w.1
      have h := w.rr
      simp only [w_X5_recordedIn, w_X5_recordedIn_13, q.t123, q.r123_0, q.t124, q.n124, x_isTongue, qT, h0, rf0 q, rf1 q, rf2 q, rf3 q, hty_sI, hln_sI, hR_sI, cnd1, cnd2, b2i_0, b2i_1, b2i_z, if_true, if_false, true_and, and_true, true_implies, false_implies, ne_eq, not_false_eq_true, not_true_eq_false, eq_self, exIA, exIS, exAI, exAS, exSI, exSA, true_or, or_true, false_or, or_false, Nat.reduceEqDiff, Bool.true_and, Bool.and_true, Bool.false_and, Bool.and_false, Bool.true_eq_false, Bool.false_eq_true, i10, i20, i30, vp0, nc0]
      exact k _ _ w.thr (fun e => absurd e (by decide))
  · skip
    obtain ⟨t, ht, rfl⟩ := inT_ex h0
    refine ⟨0, sTaken (zG σ) n t, σ, iS, fun X m o K w k => ?_, fun X d o K w k => ?_⟩
    · have q := w.1
      have h : TR X 2 (zG σ) := w.2.1.1
      simp only [w_L_recordedIn, w_X4_recordedIn, q.t1, q.r1_0, q.t2, q.t129, q.n129, e_checkTongue, h0, hty_sI, hln_sI, hR_sI, cnd1, cnd2, b2i_0, b2i_1, b2i_z, if_true, if_false, true_and, and_true, true_implies, false_implies, ne_eq, not_false_eq_true, not_true_eq_false, eq_self, exIA, exIS, exAI, exAS, exSI, exSA, true_or, or_true, false_or, or_false, Nat.reduceEqDiff, Bool.true_and, Bool.and_true, Bool.false_and, Bool.and_false, Bool.true_eq_false, Bool.false_eq_true, i10, i20, i30, vp0, nc0]
      refine s_takenTotal q h hn ht ?_
      exact ⟨q.t129, vpX q, k _ _ w.out (fun _ => rfl)⟩
    · have q := w.1
      have h := w.rr
      have q1 : Shp (sI X 123 7 0) := q
      have hh : RR (sI X 123 7 0) (zG σ) := h.thr
      simp only [w_X5_recordedIn, w_X5_recordedIn_13, q.t123, q.r123_0, q.t124, q.n124, x_isTongue, qT, h0, rf0 q, rf1 q, rf2 q, rf3 q, hty_sI, hln_sI, hR_sI, cnd1, cnd2, b2i_0, b2i_1, b2i_z, if_true, if_false, true_and, and_true, true_implies, false_implies, ne_eq, not_false_eq_true, not_true_eq_false, eq_self, exIA, exIS, exAI, exAS, exSI, exSA, true_or, or_true, false_or, or_false, Nat.reduceEqDiff, Bool.true_and, Bool.and_true, Bool.false_and, Bool.and_false, Bool.true_eq_false, Bool.false_eq_true, i10, i20, i30, vp0, nc0]
      refine s_taken q1 hh hn ht ?_
      exact k _ _ w.thr (fun _ => rfl)
theorem op_readyByClauses {σ : St} {n : Nat} (iS : InvS σ) (i : Inv (zG σ) n) (a : Int32) : OpI (fun X K => w_L_readyByClauses 1 a 129 X K) (fun X K => w_X5_readyByClauses 123 a X K) σ := by
  have hn := i.cn
  cases h0 : inT a
  · refine ⟨1, 0, σ, iS, fun X m o K w k => ?_, fun X d o K w k => ?_⟩
    · have q := w.1
      have h : TR X 2 (zG σ) := w.2.1.1
      simp only [w_L_readyByClauses, w_X4_readyByClauses, q.t1, q.r1_0, q.t2, e_checkTongue, h0, hty_sI, hln_sI, hR_sI, cnd1, cnd2, b2i_0, b2i_1, b2i_z, if_true, if_false, true_and, and_true, true_implies, false_implies, ne_eq, not_false_eq_true, not_true_eq_false, eq_self, exIA, exIS, exAI, exAS, exSI, exSA, true_or, or_true, false_or, or_false, Nat.reduceEqDiff, Bool.true_and, Bool.and_true, Bool.false_and, Bool.and_false, Bool.true_eq_false, Bool.false_eq_true, i10, i20, i30, vp0, nc0]
      exact k _ _ w (fun e => absurd e (by decide))
    · have q := w.1
      have h := w.rr
      simp only [w_X5_readyByClauses, w_X5_readyByClauses_13, q.t123, q.r123_0, q.t124, q.n124, x_isTongue, qT, h0, rf0 q, rf1 q, rf2 q, rf3 q, hty_sI, hln_sI, hR_sI, cnd1, cnd2, b2i_0, b2i_1, b2i_z, if_true, if_false, true_and, and_true, true_implies, false_implies, ne_eq, not_false_eq_true, not_true_eq_false, eq_self, exIA, exIS, exAI, exAS, exSI, exSA, true_or, or_true, false_or, or_false, Nat.reduceEqDiff, Bool.true_and, Bool.and_true, Bool.false_and, Bool.and_false, Bool.true_eq_false, Bool.false_eq_true, i10, i20, i30, vp0, nc0]
      exact k _ _ w.thr (fun e => absurd e (by decide))
  · skip
    obtain ⟨t, ht, rfl⟩ := inT_ex h0
    refine ⟨0, sReady (zG σ) n t, σ, iS, fun X m o K w k => ?_, fun X d o K w k => ?_⟩
    · have q := w.1
      have h : TR X 2 (zG σ) := w.2.1.1
      simp only [w_L_readyByClauses, w_X4_readyByClauses, q.t1, q.r1_0, q.t2, q.t129, q.n129, e_checkTongue, h0, hty_sI, hln_sI, hR_sI, cnd1, cnd2, b2i_0, b2i_1, b2i_z, if_true, if_false, true_and, and_true, true_implies, false_implies, ne_eq, not_false_eq_true, not_true_eq_false, eq_self, exIA, exIS, exAI, exAS, exSI, exSA, true_or, or_true, false_or, or_false, Nat.reduceEqDiff, Bool.true_and, Bool.and_true, Bool.false_and, Bool.and_false, Bool.true_eq_false, Bool.false_eq_true, i10, i20, i30, vp0, nc0]
      refine s_readyTotal q h hn ht ?_
      exact ⟨q.t129, vpX q, k _ _ w.out (fun _ => rfl)⟩
    · have q := w.1
      have h := w.rr
      have q1 : Shp (sI X 123 7 0) := q
      have hh : RR (sI X 123 7 0) (zG σ) := h.thr
      simp only [w_X5_readyByClauses, w_X5_readyByClauses_13, q.t123, q.r123_0, q.t124, q.n124, x_isTongue, qT, h0, rf0 q, rf1 q, rf2 q, rf3 q, hty_sI, hln_sI, hR_sI, cnd1, cnd2, b2i_0, b2i_1, b2i_z, if_true, if_false, true_and, and_true, true_implies, false_implies, ne_eq, not_false_eq_true, not_true_eq_false, eq_self, exIA, exIS, exAI, exAS, exSI, exSA, true_or, or_true, false_or, or_false, Nat.reduceEqDiff, Bool.true_and, Bool.and_true, Bool.false_and, Bool.and_false, Bool.true_eq_false, Bool.false_eq_true, i10, i20, i30, vp0, nc0]
      refine s_ready q1 hh hn ht i.S (i.F ht) ?_
      exact k _ _ w.thr (fun _ => rfl)
theorem op_isRatified {σ : St} {n : Nat} (iS : InvS σ) (i : Inv (zG σ) n) (a : Int32) : OpB (fun X K => w_L_isRatified 1 a 129 X K) (fun X K => w_X5_isRatified 123 a X K) σ := by
  have hn := i.cn
  cases h0 : inT a
  · refine ⟨1, false, σ, iS, fun X m o K w k => ?_, fun X d o K w k => ?_⟩
    · have q := w.1
      have h : TR X 2 (zG σ) := w.2.1.1
      simp only [w_L_isRatified, w_X4_isRatified, q.t1, q.r1_0, q.t2, e_checkTongue, h0, hty_sI, hln_sI, hR_sI, cnd1, cnd2, b2i_0, b2i_1, b2i_z, if_true, if_false, true_and, and_true, true_implies, false_implies, ne_eq, not_false_eq_true, not_true_eq_false, eq_self, exIA, exIS, exAI, exAS, exSI, exSA, true_or, or_true, false_or, or_false, Nat.reduceEqDiff, Bool.true_and, Bool.and_true, Bool.false_and, Bool.and_false, Bool.true_eq_false, Bool.false_eq_true, i10, i20, i30, vp0, nc0]
      exact k _ _ w (fun e => absurd e (by decide))
    · have q := w.1
      have h := w.rr
      simp only [w_X5_isRatified, w_X5_isRatified_13, q.t123, q.r123_0, q.t124, q.n124, x_isTongue, qT, h0, rf0 q, rf1 q, rf2 q, rf3 q, hty_sI, hln_sI, hR_sI, cnd1, cnd2, b2i_0, b2i_1, b2i_z, if_true, if_false, true_and, and_true, true_implies, false_implies, ne_eq, not_false_eq_true, not_true_eq_false, eq_self, exIA, exIS, exAI, exAS, exSI, exSA, true_or, or_true, false_or, or_false, Nat.reduceEqDiff, Bool.true_and, Bool.and_true, Bool.false_and, Bool.and_false, Bool.true_eq_false, Bool.false_eq_true, i10, i20, i30, vp0, nc0]
      exact k _ _ w.thr (fun e => absurd e (by decide))
  · skip
    obtain ⟨t, ht, rfl⟩ := inT_ex h0
    cases hb : pRat (zG σ) n t
    · refine ⟨0, false, σ, iS, fun X m o K w k => ?_, fun X d o K w k => ?_⟩
      · have q := w.1
        have h : TR X 2 (zG σ) := w.2.1.1
        simp only [w_L_isRatified, w_X4_isRatified, q.t1, q.r1_0, q.t2, q.t129, q.n129, e_checkTongue, h0, hb, hty_sI, hln_sI, hR_sI, cnd1, cnd2, b2i_0, b2i_1, b2i_z, if_true, if_false, true_and, and_true, true_implies, false_implies, ne_eq, not_false_eq_true, not_true_eq_false, eq_self, exIA, exIS, exAI, exAS, exSI, exSA, true_or, or_true, false_or, or_false, Nat.reduceEqDiff, Bool.true_and, Bool.and_true, Bool.false_and, Bool.and_false, Bool.true_eq_false, Bool.false_eq_true, i10, i20, i30, vp0, nc0]
        refine s_hasRatification q h hn ht ?_
        simp only [q.t129, q.n129, h0, hb, hty_sI, hln_sI, hR_sI, cnd1, cnd2, b2i_0, b2i_1, b2i_z, if_true, if_false, true_and, and_true, true_implies, false_implies, ne_eq, not_false_eq_true, not_true_eq_false, eq_self, exIA, exIS, exAI, exAS, exSI, exSA, true_or, or_true, false_or, or_false, Nat.reduceEqDiff, Bool.true_and, Bool.and_true, Bool.false_and, Bool.and_false, Bool.true_eq_false, Bool.false_eq_true, i10, i20, i30, vp0, nc0]
        exact k _ _ w.out (fun _ => rfl)
      · have q := w.1
        have h := w.rr
        have q1 : Shp (sI X 123 7 0) := q
        have hh : RR (sI X 123 7 0) (zG σ) := h.thr
        simp only [w_X5_isRatified, w_X5_isRatified_13, q.t123, q.r123_0, q.t124, q.n124, x_isTongue, qT, h0, hb, rf0 q, rf1 q, rf2 q, rf3 q, hty_sI, hln_sI, hR_sI, cnd1, cnd2, b2i_0, b2i_1, b2i_z, if_true, if_false, true_and, and_true, true_implies, false_implies, ne_eq, not_false_eq_true, not_true_eq_false, eq_self, exIA, exIS, exAI, exAS, exSI, exSA, true_or, or_true, false_or, or_false, Nat.reduceEqDiff, Bool.true_and, Bool.and_true, Bool.false_and, Bool.and_false, Bool.true_eq_false, Bool.false_eq_true, i10, i20, i30, vp0, nc0]
        refine s_ratified q1 hh hn ht ?_
        simp only [h0, hb, hty_sI, hln_sI, hR_sI, cnd1, cnd2, b2i_0, b2i_1, b2i_z, if_true, if_false, true_and, and_true, true_implies, false_implies, ne_eq, not_false_eq_true, not_true_eq_false, eq_self, exIA, exIS, exAI, exAS, exSI, exSA, true_or, or_true, false_or, or_false, Nat.reduceEqDiff, Bool.true_and, Bool.and_true, Bool.false_and, Bool.and_false, Bool.true_eq_false, Bool.false_eq_true, i10, i20, i30, vp0, nc0]
        exact k _ _ w.thr (fun _ => rfl)
    · refine ⟨0, true, σ, iS, fun X m o K w k => ?_, fun X d o K w k => ?_⟩
      · have q := w.1
        have h : TR X 2 (zG σ) := w.2.1.1
        simp only [w_L_isRatified, w_X4_isRatified, q.t1, q.r1_0, q.t2, q.t129, q.n129, e_checkTongue, h0, hb, hty_sI, hln_sI, hR_sI, cnd1, cnd2, b2i_0, b2i_1, b2i_z, if_true, if_false, true_and, and_true, true_implies, false_implies, ne_eq, not_false_eq_true, not_true_eq_false, eq_self, exIA, exIS, exAI, exAS, exSI, exSA, true_or, or_true, false_or, or_false, Nat.reduceEqDiff, Bool.true_and, Bool.and_true, Bool.false_and, Bool.and_false, Bool.true_eq_false, Bool.false_eq_true, i10, i20, i30, vp0, nc0]
        refine s_hasRatification q h hn ht ?_
        simp only [q.t129, q.n129, h0, hb, hty_sI, hln_sI, hR_sI, cnd1, cnd2, b2i_0, b2i_1, b2i_z, if_true, if_false, true_and, and_true, true_implies, false_implies, ne_eq, not_false_eq_true, not_true_eq_false, eq_self, exIA, exIS, exAI, exAS, exSI, exSA, true_or, or_true, false_or, or_false, Nat.reduceEqDiff, Bool.true_and, Bool.and_true, Bool.false_and, Bool.and_false, Bool.true_eq_false, Bool.false_eq_true, i10, i20, i30, vp0, nc0]
        exact k _ _ w.out (fun _ => rfl)
      · have q := w.1
        have h := w.rr
        have q1 : Shp (sI X 123 7 0) := q
        have hh : RR (sI X 123 7 0) (zG σ) := h.thr
        simp only [w_X5_isRatified, w_X5_isRatified_13, q.t123, q.r123_0, q.t124, q.n124, x_isTongue, qT, h0, hb, rf0 q, rf1 q, rf2 q, rf3 q, hty_sI, hln_sI, hR_sI, cnd1, cnd2, b2i_0, b2i_1, b2i_z, if_true, if_false, true_and, and_true, true_implies, false_implies, ne_eq, not_false_eq_true, not_true_eq_false, eq_self, exIA, exIS, exAI, exAS, exSI, exSA, true_or, or_true, false_or, or_false, Nat.reduceEqDiff, Bool.true_and, Bool.and_true, Bool.false_and, Bool.and_false, Bool.true_eq_false, Bool.false_eq_true, i10, i20, i30, vp0, nc0]
        refine s_ratified q1 hh hn ht ?_
        simp only [h0, hb, hty_sI, hln_sI, hR_sI, cnd1, cnd2, b2i_0, b2i_1, b2i_z, if_true, if_false, true_and, and_true, true_implies, false_implies, ne_eq, not_false_eq_true, not_true_eq_false, eq_self, exIA, exIS, exAI, exAS, exSI, exSA, true_or, or_true, false_or, or_false, Nat.reduceEqDiff, Bool.true_and, Bool.and_true, Bool.false_and, Bool.and_false, Bool.true_eq_false, Bool.false_eq_true, i10, i20, i30, vp0, nc0]
        exact k _ _ w.thr (fun _ => rfl)
theorem op_misfitsIn {σ : St} {n : Nat} (iS : InvS σ) (i : Inv (zG σ) n) (a : Int32) : OpI (fun X K => w_L_misfitsIn 1 a 129 X K) (fun X K => w_X5_misfitsIn 123 a X K) σ := by
  have hn := i.cn
  cases h0 : inT a
  · refine ⟨1, 0, σ, iS, fun X m o K w k => ?_, fun X d o K w k => ?_⟩
    · have q := w.1
      have h : TR X 2 (zG σ) := w.2.1.1
      simp only [w_L_misfitsIn, w_X4_misfitsIn, q.t1, q.r1_0, q.t2, e_checkTongue, h0, hty_sI, hln_sI, hR_sI, cnd1, cnd2, b2i_0, b2i_1, b2i_z, if_true, if_false, true_and, and_true, true_implies, false_implies, ne_eq, not_false_eq_true, not_true_eq_false, eq_self, exIA, exIS, exAI, exAS, exSI, exSA, true_or, or_true, false_or, or_false, Nat.reduceEqDiff, Bool.true_and, Bool.and_true, Bool.false_and, Bool.and_false, Bool.true_eq_false, Bool.false_eq_true, i10, i20, i30, vp0, nc0]
      exact k _ _ w (fun e => absurd e (by decide))
    · have q := w.1
      have h := w.rr
      simp only [w_X5_misfitsIn, w_X5_misfitsIn_13, q.t123, q.r123_0, q.t124, q.n124, x_isTongue, qT, h0, rf0 q, rf1 q, rf2 q, rf3 q, hty_sI, hln_sI, hR_sI, cnd1, cnd2, b2i_0, b2i_1, b2i_z, if_true, if_false, true_and, and_true, true_implies, false_implies, ne_eq, not_false_eq_true, not_true_eq_false, eq_self, exIA, exIS, exAI, exAS, exSI, exSA, true_or, or_true, false_or, or_false, Nat.reduceEqDiff, Bool.true_and, Bool.and_true, Bool.false_and, Bool.and_false, Bool.true_eq_false, Bool.false_eq_true, i10, i20, i30, vp0, nc0]
      exact k _ _ w.thr (fun e => absurd e (by decide))
  · skip
    obtain ⟨t, ht, rfl⟩ := inT_ex h0
    refine ⟨0, sMis (zG σ) n t, σ, iS, fun X m o K w k => ?_, fun X d o K w k => ?_⟩
    · have q := w.1
      have h : TR X 2 (zG σ) := w.2.1.1
      simp only [w_L_misfitsIn, w_X4_misfitsIn, q.t1, q.r1_0, q.t2, q.t129, q.n129, e_checkTongue, h0, hty_sI, hln_sI, hR_sI, cnd1, cnd2, b2i_0, b2i_1, b2i_z, if_true, if_false, true_and, and_true, true_implies, false_implies, ne_eq, not_false_eq_true, not_true_eq_false, eq_self, exIA, exIS, exAI, exAS, exSI, exSA, true_or, or_true, false_or, or_false, Nat.reduceEqDiff, Bool.true_and, Bool.and_true, Bool.false_and, Bool.and_false, Bool.true_eq_false, Bool.false_eq_true, i10, i20, i30, vp0, nc0]
      refine s_misfitTotal q h hn ht ?_
      exact ⟨q.t129, vpX q, k _ _ w.out (fun _ => rfl)⟩
    · have q := w.1
      have h := w.rr
      have q1 : Shp (sI X 123 7 0) := q
      have hh : RR (sI X 123 7 0) (zG σ) := h.thr
      simp only [w_X5_misfitsIn, w_X5_misfitsIn_13, q.t123, q.r123_0, q.t124, q.n124, x_isTongue, qT, h0, rf0 q, rf1 q, rf2 q, rf3 q, hty_sI, hln_sI, hR_sI, cnd1, cnd2, b2i_0, b2i_1, b2i_z, if_true, if_false, true_and, and_true, true_implies, false_implies, ne_eq, not_false_eq_true, not_true_eq_false, eq_self, exIA, exIS, exAI, exAS, exSI, exSA, true_or, or_true, false_or, or_false, Nat.reduceEqDiff, Bool.true_and, Bool.and_true, Bool.false_and, Bool.and_false, Bool.true_eq_false, Bool.false_eq_true, i10, i20, i30, vp0, nc0]
      refine s_misfits q1 hh hn ht ?_
      exact k _ _ w.thr (fun _ => rfl)
end PK2
