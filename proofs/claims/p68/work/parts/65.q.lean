/-! the questions: bad indices, refusals, answers -/
section PQ
variable {X : XH} {g : Row} {n c t : Nat}
theorem pTL_b {s : Nat} (h : pTL g n s t = false) : ∀ k, k < rdM g (Int32.ofNat s) t n → rdB g (Int32.ofNat s) t n k ≤ gSA g s t := fun k hk => by
  refine Decidable.byContradiction fun hx => ?_
  have e := anyTo_in (p := fun k => !(decide (rdB g (Int32.ofNat s) t n k ≤ gSA g s t))) hk (by simp [hx])
  unfold pTL at h
  rw [h] at e
  exact absurd e (by decide)
theorem gGo_nn {s : Nat} (hn : n ≤ 24) : (0 ≤ gGo g n s t) = True := by
  refine eq_true ?_
  unfold gGo
  have h1 := rdM_le g (Int32.ofNat s) t n
  have h2 := Gr_le (b := rdB g (Int32.ofNat s) t n) (st := gST g s t) (sm := gSA g s t) (rdM g (Int32.ofNat s) t n)
  split
  · decide
  · rw [show (0 : Int32) = Int32.ofNat 0 from rfl, of_le (by decide) (by omega)]
    omega
theorem bi_5 {v : Int32} {b : Bool} : ∀ s, s < 5 → bi (decide (Int32.ofNat s = Int32.ofNat 0) && b) v + bi (decide (Int32.ofNat s = Int32.ofNat 1) && b) v + bi (decide (Int32.ofNat s = Int32.ofNat 2) && b) v + bi (decide (Int32.ofNat s = Int32.ofNat 3) && b) v + bi (decide (Int32.ofNat s = Int32.ofNat 4) && b) v = bi b v := fun s hs => by
  match s, hs with
  | 0, _ => simp only [show decide (Int32.ofNat 0 = Int32.ofNat 0) = true from rfl, show decide (Int32.ofNat 0 = Int32.ofNat 1) = false from rfl, show decide (Int32.ofNat 0 = Int32.ofNat 2) = false from rfl, show decide (Int32.ofNat 0 = Int32.ofNat 3) = false from rfl, show decide (Int32.ofNat 0 = Int32.ofNat 4) = false from rfl, decide_true, Bool.true_and, Bool.false_and, bi_f, Int32.zero_add, Int32.add_zero]
  | 1, _ => simp only [show decide (Int32.ofNat 1 = Int32.ofNat 0) = false from rfl, show decide (Int32.ofNat 1 = Int32.ofNat 1) = true from rfl, show decide (Int32.ofNat 1 = Int32.ofNat 2) = false from rfl, show decide (Int32.ofNat 1 = Int32.ofNat 3) = false from rfl, show decide (Int32.ofNat 1 = Int32.ofNat 4) = false from rfl, decide_true, Bool.true_and, Bool.false_and, bi_f, Int32.zero_add, Int32.add_zero]
  | 2, _ => simp only [show decide (Int32.ofNat 2 = Int32.ofNat 0) = false from rfl, show decide (Int32.ofNat 2 = Int32.ofNat 1) = false from rfl, show decide (Int32.ofNat 2 = Int32.ofNat 2) = true from rfl, show decide (Int32.ofNat 2 = Int32.ofNat 3) = false from rfl, show decide (Int32.ofNat 2 = Int32.ofNat 4) = false from rfl, decide_true, Bool.true_and, Bool.false_and, bi_f, Int32.zero_add, Int32.add_zero]
  | 3, _ => simp only [show decide (Int32.ofNat 3 = Int32.ofNat 0) = false from rfl, show decide (Int32.ofNat 3 = Int32.ofNat 1) = false from rfl, show decide (Int32.ofNat 3 = Int32.ofNat 2) = false from rfl, show decide (Int32.ofNat 3 = Int32.ofNat 3) = true from rfl, show decide (Int32.ofNat 3 = Int32.ofNat 4) = false from rfl, decide_true, Bool.true_and, Bool.false_and, bi_f, Int32.zero_add, Int32.add_zero]
  | 4, _ => simp only [show decide (Int32.ofNat 4 = Int32.ofNat 0) = false from rfl, show decide (Int32.ofNat 4 = Int32.ofNat 1) = false from rfl, show decide (Int32.ofNat 4 = Int32.ofNat 2) = false from rfl, show decide (Int32.ofNat 4 = Int32.ofNat 3) = false from rfl, show decide (Int32.ofNat 4 = Int32.ofNat 4) = true from rfl, decide_true, Bool.true_and, Bool.false_and, bi_f, Int32.zero_add, Int32.add_zero]
theorem ad5 (a0 a1 a2 a3 a4 x0 x1 x2 x3 x4 z : Int32) : z + (a0 + x0) + (a1 + x1) + (a2 + x2) + (a3 + x3) + (a4 + x4) = z + a0 + a1 + a2 + a3 + a4 + (x0 + x1 + x2 + x3 + x4) := by
  ac_rfl
theorem rdAll_eq : ∀ {n : Nat}, (∀ c, c < n → ∃ s, s < 5 ∧ gS g c = Int32.ofNat s) → sRdAll g n t = sReady g n t
  | 0, _ => rfl
  | n + 1, hS => by
    have ih := rdAll_eq (n := n) (fun c hc => hS c (by omega))
    obtain ⟨s, hs, e⟩ := hS n (by omega)
    have e1 : sRdAll g (n + 1) t = sRdAll g n t + (bi (decide (gS g n = Int32.ofNat 0) && pRd g n t) (gB g n t) + bi (decide (gS g n = Int32.ofNat 1) && pRd g n t) (gB g n t) + bi (decide (gS g n = Int32.ofNat 2) && pRd g n t) (gB g n t) + bi (decide (gS g n = Int32.ofNat 3) && pRd g n t) (gB g n t) + bi (decide (gS g n = Int32.ofNat 4) && pRd g n t) (gB g n t)) := ad5 _ _ _ _ _ _ _ _ _ _ _
    rw [e1, ih, e, bi_5 s hs]
    rfl
theorem sgn_x {x : Int32} (h : x = -1 ∨ 0 ≤ x) : ((x = -1) = False ∧ (0 ≤ x) = True) ∨ ((x = -1) = True ∧ (0 ≤ x) = False) := by
  rcases h with h | h
  · subst h
    exact Or.inr ⟨eq_true rfl, by decide⟩
  · refine Or.inl ⟨eq_false fun e => ?_, eq_true h⟩
    rw [e] at h
    revert h
    decide
theorem m1_x {p : Prop} [Decidable p] {v : Int32} (h : ¬ p → 0 ≤ v) : (if p then -1 else v) = -1 ∨ 0 ≤ (if p then -1 else v) := by
  by_cases hp : p
  · rw [if_pos hp]
    exact Or.inl rfl
  · rw [if_neg hp]
    exact Or.inr (h hp)
theorem mx_x {v : Int32} : 0 ≤ (if 0 < v then v else 0) := by
  by_cases hp : 0 < v
  · rw [if_pos hp]
    exact Int32.le_of_lt hp
  · rw [if_neg hp]
    decide
theorem gLA_x : gLA g c t = -1 ∨ 0 ≤ gLA g c t := by
  unfold gLA
  exact m1_x (fun _ => mx_x)
theorem gLo_x : gLo g c = -1 ∨ 0 ≤ gLo g c := by
  unfold gLo
  exact m1_x (fun h => Int32.not_lt.mp h)
theorem nx_x (hn : n ≤ 24) : encO (nxTo g t n) = -1 ∨ 0 ≤ encO (nxTo g t n) := by
  cases h : nxTo g t n with
  | none => exact Or.inl rfl
  | some j =>
    have := nxTo_lt h
    refine Or.inr ?_
    show 0 ≤ Int32.ofNat j
    rw [show (0 : Int32) = Int32.ofNat 0 from rfl, of_le (by decide) (by omega)]
    omega
end PQ
section PQ2
variable {σ : St} {n : Nat} {X Zz : XH}
theorem b_or : ∀ b : Bool, b = false ∨ b = true
  | false => Or.inl rfl
  | true => Or.inr rfl
theorem q_reelOf_b {a : Int32} {K : Int32 → XH → Prop} {KX : String → XH → Prop} (w : Wd X σ Zz) (h0 : inC (zG σ 366) a = false) (k : KX xcI X) : w_X4_reelOf 1 a X K KX := by
  have q := w.1
  have h : TR X 2 (zG σ) := w.2.1.1
  simp only [w_X4_reelOf, q.t1, q.r1_0, q.t2, e_checkClause q h, h0, hty_sI, hln_sI, hR_sI, cnd1, cnd2, b2i_0, b2i_1, b2i_z, if_true, if_false, true_and, and_true, true_implies, false_implies, ne_eq, not_false_eq_true, not_true_eq_false, eq_self, exIA, exIS, exAI, exAS, exSI, exSA, true_or, or_true, false_or, or_false, Nat.reduceEqDiff, Bool.true_and, Bool.and_true, Bool.false_and, Bool.and_false, Bool.true_eq_false, Bool.false_eq_true, i10, i20, i30, vp0, nc0]
  exact k
theorem q_reelOf {c : Nat} {K : Int32 → XH → Prop} {KX : String → XH → Prop} (w : Wd X σ Zz) (i : Inv (zG σ) n) (hc : c < n) (k : K (gR (zG σ) c) X) : w_X4_reelOf 1 (Int32.ofNat c) X K KX := by
  have q := w.1
  have h : TR X 2 (zG σ) := w.2.1.1
  have hn := i.cn
  have h0 : inC (zG σ 366) (Int32.ofNat c) = true := inC_of i.cn hc
  have hcn := hc
  replace hc : c < 24 := Nat.lt_of_lt_of_le hc hn.2
  simp only [w_X4_reelOf, q.t1, q.r1_0, q.t2, e_checkClause q h, e_reelAt q h hc, h0, hty_sI, hln_sI, hR_sI, cnd1, cnd2, b2i_0, b2i_1, b2i_z, if_true, if_false, true_and, and_true, true_implies, false_implies, ne_eq, not_false_eq_true, not_true_eq_false, eq_self, exIA, exIS, exAI, exAS, exSI, exSA, true_or, or_true, false_or, or_false, Nat.reduceEqDiff, Bool.true_and, Bool.and_true, Bool.false_and, Bool.and_false, Bool.true_eq_false, Bool.false_eq_true, i10, i20, i30, vp0, nc0]
  first | exact k | exact ⟨b_or _, k⟩
theorem q_speakerOf_b {a : Int32} {K : Int32 → XH → Prop} {KX : String → XH → Prop} (w : Wd X σ Zz) (h0 : inC (zG σ 366) a = false) (k : KX xcI X) : w_X4_speakerOf 1 a X K KX := by
  have q := w.1
  have h : TR X 2 (zG σ) := w.2.1.1
  simp only [w_X4_speakerOf, q.t1, q.r1_0, q.t2, e_checkClause q h, h0, hty_sI, hln_sI, hR_sI, cnd1, cnd2, b2i_0, b2i_1, b2i_z, if_true, if_false, true_and, and_true, true_implies, false_implies, ne_eq, not_false_eq_true, not_true_eq_false, eq_self, exIA, exIS, exAI, exAS, exSI, exSA, true_or, or_true, false_or, or_false, Nat.reduceEqDiff, Bool.true_and, Bool.and_true, Bool.false_and, Bool.and_false, Bool.true_eq_false, Bool.false_eq_true, i10, i20, i30, vp0, nc0]
  exact k
theorem q_speakerOf {c : Nat} {K : Int32 → XH → Prop} {KX : String → XH → Prop} (w : Wd X σ Zz) (i : Inv (zG σ) n) (hc : c < n) (k : K (gS (zG σ) c) X) : w_X4_speakerOf 1 (Int32.ofNat c) X K KX := by
  have q := w.1
  have h : TR X 2 (zG σ) := w.2.1.1
  have hn := i.cn
  have h0 : inC (zG σ 366) (Int32.ofNat c) = true := inC_of i.cn hc
  have hcn := hc
  replace hc : c < 24 := Nat.lt_of_lt_of_le hc hn.2
  simp only [w_X4_speakerOf, q.t1, q.r1_0, q.t2, e_checkClause q h, e_speakerAt q h hc, h0, hty_sI, hln_sI, hR_sI, cnd1, cnd2, b2i_0, b2i_1, b2i_z, if_true, if_false, true_and, and_true, true_implies, false_implies, ne_eq, not_false_eq_true, not_true_eq_false, eq_self, exIA, exIS, exAI, exAS, exSI, exSA, true_or, or_true, false_or, or_false, Nat.reduceEqDiff, Bool.true_and, Bool.and_true, Bool.false_and, Bool.and_false, Bool.true_eq_false, Bool.false_eq_true, i10, i20, i30, vp0, nc0]
  first | exact k | exact ⟨b_or _, k⟩
theorem q_lipsOf_b {a : Int32} {K : Int32 → XH → Prop} {KX : String → XH → Prop} (w : Wd X σ Zz) (h0 : inC (zG σ 366) a = false) (k : KX xcI X) : w_X4_lipsOf 1 a X K KX := by
  have q := w.1
  have h : TR X 2 (zG σ) := w.2.1.1
  simp only [w_X4_lipsOf, q.t1, q.r1_0, q.t2, e_checkClause q h, h0, hty_sI, hln_sI, hR_sI, cnd1, cnd2, b2i_0, b2i_1, b2i_z, if_true, if_false, true_and, and_true, true_implies, false_implies, ne_eq, not_false_eq_true, not_true_eq_false, eq_self, exIA, exIS, exAI, exAS, exSI, exSA, true_or, or_true, false_or, or_false, Nat.reduceEqDiff, Bool.true_and, Bool.and_true, Bool.false_and, Bool.and_false, Bool.true_eq_false, Bool.false_eq_true, i10, i20, i30, vp0, nc0]
  exact k
theorem q_lipsOf {c : Nat} {K : Int32 → XH → Prop} {KX : String → XH → Prop} (w : Wd X σ Zz) (i : Inv (zG σ) n) (hc : c < n) (k : K (gL (zG σ) c) X) : w_X4_lipsOf 1 (Int32.ofNat c) X K KX := by
  have q := w.1
  have h : TR X 2 (zG σ) := w.2.1.1
  have hn := i.cn
  have h0 : inC (zG σ 366) (Int32.ofNat c) = true := inC_of i.cn hc
  have hcn := hc
  replace hc : c < 24 := Nat.lt_of_lt_of_le hc hn.2
  simp only [w_X4_lipsOf, q.t1, q.r1_0, q.t2, e_checkClause q h, e_lipsAt q h hc, h0, hty_sI, hln_sI, hR_sI, cnd1, cnd2, b2i_0, b2i_1, b2i_z, if_true, if_false, true_and, and_true, true_implies, false_implies, ne_eq, not_false_eq_true, not_true_eq_false, eq_self, exIA, exIS, exAI, exAS, exSI, exSA, true_or, or_true, false_or, or_false, Nat.reduceEqDiff, Bool.true_and, Bool.and_true, Bool.false_and, Bool.and_false, Bool.true_eq_false, Bool.false_eq_true, i10, i20, i30, vp0, nc0]
  first | exact k | exact ⟨b_or _, k⟩
theorem q_sighOf_b {a : Int32} {K : Int32 → XH → Prop} {KX : String → XH → Prop} (w : Wd X σ Zz) (h0 : inC (zG σ 366) a = false) (k : KX xcI X) : w_X4_sighOf 1 a X K KX := by
  have q := w.1
  have h : TR X 2 (zG σ) := w.2.1.1
  simp only [w_X4_sighOf, q.t1, q.r1_0, q.t2, e_checkClause q h, h0, hty_sI, hln_sI, hR_sI, cnd1, cnd2, b2i_0, b2i_1, b2i_z, if_true, if_false, true_and, and_true, true_implies, false_implies, ne_eq, not_false_eq_true, not_true_eq_false, eq_self, exIA, exIS, exAI, exAS, exSI, exSA, true_or, or_true, false_or, or_false, Nat.reduceEqDiff, Bool.true_and, Bool.and_true, Bool.false_and, Bool.and_false, Bool.true_eq_false, Bool.false_eq_true, i10, i20, i30, vp0, nc0]
  exact k
theorem q_sighOf {c : Nat} {K : Int32 → XH → Prop} {KX : String → XH → Prop} (w : Wd X σ Zz) (i : Inv (zG σ) n) (hc : c < n) (k : K (gH (zG σ) c) X) : w_X4_sighOf 1 (Int32.ofNat c) X K KX := by
  have q := w.1
  have h : TR X 2 (zG σ) := w.2.1.1
  have hn := i.cn
  have h0 : inC (zG σ 366) (Int32.ofNat c) = true := inC_of i.cn hc
  have hcn := hc
  replace hc : c < 24 := Nat.lt_of_lt_of_le hc hn.2
  simp only [w_X4_sighOf, q.t1, q.r1_0, q.t2, e_checkClause q h, e_sighAt q h hc, h0, hty_sI, hln_sI, hR_sI, cnd1, cnd2, b2i_0, b2i_1, b2i_z, if_true, if_false, true_and, and_true, true_implies, false_implies, ne_eq, not_false_eq_true, not_true_eq_false, eq_self, exIA, exIS, exAI, exAS, exSI, exSA, true_or, or_true, false_or, or_false, Nat.reduceEqDiff, Bool.true_and, Bool.and_true, Bool.false_and, Bool.and_false, Bool.true_eq_false, Bool.false_eq_true, i10, i20, i30, vp0, nc0]
  first | exact k | exact ⟨b_or _, k⟩
theorem q_isTranslated_b {a b : Int32} {K : Int32 → XH → Prop} {KX : String → XH → Prop} (w : Wd X σ Zz) (h0 : (inC (zG σ 366) a && inT b) = false) (k : KX xcI X) : w_X4_isTranslated 1 a b X K KX := by
  have q := w.1
  have h : TR X 2 (zG σ) := w.2.1.1
  cases e0 : inC (zG σ 366) a <;> cases e1 : inT b <;> first | (simp only [w_X4_isTranslated, q.t1, q.r1_0, q.t2, e_checkTranslation q h, e0, e1, hty_sI, hln_sI, hR_sI, cnd1, cnd2, b2i_0, b2i_1, b2i_z, if_true, if_false, true_and, and_true, true_implies, false_implies, ne_eq, not_false_eq_true, not_true_eq_false, eq_self, exIA, exIS, exAI, exAS, exSI, exSA, true_or, or_true, false_or, or_false, Nat.reduceEqDiff, Bool.true_and, Bool.and_true, Bool.false_and, Bool.and_false, Bool.true_eq_false, Bool.false_eq_true, i10, i20, i30, vp0, nc0]; exact k) | (exfalso; rw [e0, e1] at h0; exact absurd h0 (by decide))
theorem q_isTranslated {c t : Nat} {K : Int32 → XH → Prop} {KX : String → XH → Prop} (w : Wd X σ Zz) (i : Inv (zG σ) n) (hc : c < n) (ht : t < 3) (k : K (b2i (pHas (zG σ) c t)) X) : w_X4_isTranslated 1 (Int32.ofNat c) (Int32.ofNat t) X K KX := by
  have q := w.1
  have h : TR X 2 (zG σ) := w.2.1.1
  have hn := i.cn
  have h0 : inC (zG σ 366) (Int32.ofNat c) = true := inC_of i.cn hc
  have h1 : inT (Int32.ofNat t) = true := inT_of ht
  have hcn := hc
  replace hc : c < 24 := Nat.lt_of_lt_of_le hc hn.2
  simp only [w_X4_isTranslated, q.t1, q.r1_0, q.t2, e_checkTranslation q h, e_hasTranslation q h hc ht, h0, h1, hty_sI, hln_sI, hR_sI, cnd1, cnd2, b2i_0, b2i_1, b2i_z, if_true, if_false, true_and, and_true, true_implies, false_implies, ne_eq, not_false_eq_true, not_true_eq_false, eq_self, exIA, exIS, exAI, exAS, exSI, exSA, true_or, or_true, false_or, or_false, Nat.reduceEqDiff, Bool.true_and, Bool.and_true, Bool.false_and, Bool.and_false, Bool.true_eq_false, Bool.false_eq_true, i10, i20, i30, vp0, nc0]
  first | exact k | exact ⟨b_or _, k⟩
theorem q_framesOf_b {a b : Int32} {K : Int32 → XH → Prop} {KX : String → XH → Prop} (w : Wd X σ Zz) (h0 : (inC (zG σ 366) a && inT b) = false) (k : KX xcI X) : w_X4_framesOf 1 a b X K KX := by
  have q := w.1
  have h : TR X 2 (zG σ) := w.2.1.1
  cases e0 : inC (zG σ 366) a <;> cases e1 : inT b <;> first | (simp only [w_X4_framesOf, q.t1, q.r1_0, q.t2, e_checkTranslation q h, e0, e1, hty_sI, hln_sI, hR_sI, cnd1, cnd2, b2i_0, b2i_1, b2i_z, if_true, if_false, true_and, and_true, true_implies, false_implies, ne_eq, not_false_eq_true, not_true_eq_false, eq_self, exIA, exIS, exAI, exAS, exSI, exSA, true_or, or_true, false_or, or_false, Nat.reduceEqDiff, Bool.true_and, Bool.and_true, Bool.false_and, Bool.and_false, Bool.true_eq_false, Bool.false_eq_true, i10, i20, i30, vp0, nc0]; exact k) | (exfalso; rw [e0, e1] at h0; exact absurd h0 (by decide))
theorem q_framesOf_s {c t : Nat} {K : Int32 → XH → Prop} {KX : String → XH → Prop} (w : Wd X σ Zz) (i : Inv (zG σ) n) (hc : c < n) (ht : t < 3) (hp : pHas (zG σ) c t = false) (k : KX xcS X) : w_X4_framesOf 1 (Int32.ofNat c) (Int32.ofNat t) X K KX := by
  have q := w.1
  have h : TR X 2 (zG σ) := w.2.1.1
  have hn := i.cn
  have h0 : inC (zG σ 366) (Int32.ofNat c) = true := inC_of i.cn hc
  have h1 : inT (Int32.ofNat t) = true := inT_of ht
  have hcn := hc
  replace hc : c < 24 := Nat.lt_of_lt_of_le hc hn.2
  simp only [w_X4_framesOf, q.t1, q.r1_0, q.t2, e_checkTranslation q h, e_checkTranslated q h hc ht, e_framesAt q h hc ht, h0, h1, hp, hty_sI, hln_sI, hR_sI, cnd1, cnd2, b2i_0, b2i_1, b2i_z, if_true, if_false, true_and, and_true, true_implies, false_implies, ne_eq, not_false_eq_true, not_true_eq_false, eq_self, exIA, exIS, exAI, exAS, exSI, exSA, true_or, or_true, false_or, or_false, Nat.reduceEqDiff, Bool.true_and, Bool.and_true, Bool.false_and, Bool.and_false, Bool.true_eq_false, Bool.false_eq_true, i10, i20, i30, vp0, nc0]
  exact k
theorem q_framesOf {c t : Nat} {K : Int32 → XH → Prop} {KX : String → XH → Prop} (w : Wd X σ Zz) (i : Inv (zG σ) n) (hc : c < n) (ht : t < 3) (hp : pHas (zG σ) c t = true) (k : K (gF (zG σ) c t) X) : w_X4_framesOf 1 (Int32.ofNat c) (Int32.ofNat t) X K KX := by
  have q := w.1
  have h : TR X 2 (zG σ) := w.2.1.1
  have hn := i.cn
  have h0 : inC (zG σ 366) (Int32.ofNat c) = true := inC_of i.cn hc
  have h1 : inT (Int32.ofNat t) = true := inT_of ht
  have hcn := hc
  replace hc : c < 24 := Nat.lt_of_lt_of_le hc hn.2
  simp only [w_X4_framesOf, q.t1, q.r1_0, q.t2, e_checkTranslation q h, e_checkTranslated q h hc ht, e_framesAt q h hc ht, h0, h1, hp, hty_sI, hln_sI, hR_sI, cnd1, cnd2, b2i_0, b2i_1, b2i_z, if_true, if_false, true_and, and_true, true_implies, false_implies, ne_eq, not_false_eq_true, not_true_eq_false, eq_self, exIA, exIS, exAI, exAS, exSI, exSA, true_or, or_true, false_or, or_false, Nat.reduceEqDiff, Bool.true_and, Bool.and_true, Bool.false_and, Bool.and_false, Bool.true_eq_false, Bool.false_eq_true, i10, i20, i30, vp0, nc0]
  first | exact k | exact ⟨b_or _, k⟩
theorem q_annexedOf_b {a b : Int32} {K : Int32 → XH → Prop} {KX : String → XH → Prop} (w : Wd X σ Zz) (h0 : (inC (zG σ 366) a && inT b) = false) (k : KX xcI X) : w_X4_annexedOf 1 a b X K KX := by
  have q := w.1
  have h : TR X 2 (zG σ) := w.2.1.1
  cases e0 : inC (zG σ 366) a <;> cases e1 : inT b <;> first | (simp only [w_X4_annexedOf, q.t1, q.r1_0, q.t2, e_checkTranslation q h, e0, e1, hty_sI, hln_sI, hR_sI, cnd1, cnd2, b2i_0, b2i_1, b2i_z, if_true, if_false, true_and, and_true, true_implies, false_implies, ne_eq, not_false_eq_true, not_true_eq_false, eq_self, exIA, exIS, exAI, exAS, exSI, exSA, true_or, or_true, false_or, or_false, Nat.reduceEqDiff, Bool.true_and, Bool.and_true, Bool.false_and, Bool.and_false, Bool.true_eq_false, Bool.false_eq_true, i10, i20, i30, vp0, nc0]; exact k) | (exfalso; rw [e0, e1] at h0; exact absurd h0 (by decide))
theorem q_annexedOf {c t : Nat} {K : Int32 → XH → Prop} {KX : String → XH → Prop} (w : Wd X σ Zz) (i : Inv (zG σ) n) (hc : c < n) (ht : t < 3) (k : K (gAn (zG σ) c t) X) : w_X4_annexedOf 1 (Int32.ofNat c) (Int32.ofNat t) X K KX := by
  have q := w.1
  have h : TR X 2 (zG σ) := w.2.1.1
  have hn := i.cn
  have h0 : inC (zG σ 366) (Int32.ofNat c) = true := inC_of i.cn hc
  have h1 : inT (Int32.ofNat t) = true := inT_of ht
  have hcn := hc
  replace hc : c < 24 := Nat.lt_of_lt_of_le hc hn.2
  simp only [w_X4_annexedOf, q.t1, q.r1_0, q.t2, e_checkTranslation q h, e_annexedAt q h hc ht, h0, h1, hty_sI, hln_sI, hR_sI, cnd1, cnd2, b2i_0, b2i_1, b2i_z, if_true, if_false, true_and, and_true, true_implies, false_implies, ne_eq, not_false_eq_true, not_true_eq_false, eq_self, exIA, exIS, exAI, exAS, exSI, exSA, true_or, or_true, false_or, or_false, Nat.reduceEqDiff, Bool.true_and, Bool.and_true, Bool.false_and, Bool.and_false, Bool.true_eq_false, Bool.false_eq_true, i10, i20, i30, vp0, nc0]
  first | exact k | exact ⟨b_or _, k⟩
theorem q_isRecorded_b {a b : Int32} {K : Int32 → XH → Prop} {KX : String → XH → Prop} (w : Wd X σ Zz) (h0 : (inC (zG σ 366) a && inT b) = false) (k : KX xcI X) : w_X4_isRecorded 1 a b X K KX := by
  have q := w.1
  have h : TR X 2 (zG σ) := w.2.1.1
  cases e0 : inC (zG σ 366) a <;> cases e1 : inT b <;> first | (simp only [w_X4_isRecorded, q.t1, q.r1_0, q.t2, e_checkTranslation q h, e0, e1, hty_sI, hln_sI, hR_sI, cnd1, cnd2, b2i_0, b2i_1, b2i_z, if_true, if_false, true_and, and_true, true_implies, false_implies, ne_eq, not_false_eq_true, not_true_eq_false, eq_self, exIA, exIS, exAI, exAS, exSI, exSA, true_or, or_true, false_or, or_false, Nat.reduceEqDiff, Bool.true_and, Bool.and_true, Bool.false_and, Bool.and_false, Bool.true_eq_false, Bool.false_eq_true, i10, i20, i30, vp0, nc0]; exact k) | (exfalso; rw [e0, e1] at h0; exact absurd h0 (by decide))
theorem q_isRecorded {c t : Nat} {K : Int32 → XH → Prop} {KX : String → XH → Prop} (w : Wd X σ Zz) (i : Inv (zG σ) n) (hc : c < n) (ht : t < 3) (k : K (b2i (pTk (zG σ) c t)) X) : w_X4_isRecorded 1 (Int32.ofNat c) (Int32.ofNat t) X K KX := by
  have q := w.1
  have h : TR X 2 (zG σ) := w.2.1.1
  have hn := i.cn
  have h0 : inC (zG σ 366) (Int32.ofNat c) = true := inC_of i.cn hc
  have h1 : inT (Int32.ofNat t) = true := inT_of ht
  have hcn := hc
  replace hc : c < 24 := Nat.lt_of_lt_of_le hc hn.2
  simp only [w_X4_isRecorded, q.t1, q.r1_0, q.t2, e_checkTranslation q h, e_isTaken q h hc ht, h0, h1, hty_sI, hln_sI, hR_sI, cnd1, cnd2, b2i_0, b2i_1, b2i_z, if_true, if_false, true_and, and_true, true_implies, false_implies, ne_eq, not_false_eq_true, not_true_eq_false, eq_self, exIA, exIS, exAI, exAS, exSI, exSA, true_or, or_true, false_or, or_false, Nat.reduceEqDiff, Bool.true_and, Bool.and_true, Bool.false_and, Bool.and_false, Bool.true_eq_false, Bool.false_eq_true, i10, i20, i30, vp0, nc0]
  first | exact k | exact ⟨b_or _, k⟩
theorem q_sessionOf_b {a b : Int32} {K : Int32 → XH → Prop} {KX : String → XH → Prop} (w : Wd X σ Zz) (h0 : (inC (zG σ 366) a && inT b) = false) (k : KX xcI X) : w_X4_sessionOf 1 a b X K KX := by
  have q := w.1
  have h : TR X 2 (zG σ) := w.2.1.1
  cases e0 : inC (zG σ 366) a <;> cases e1 : inT b <;> first | (simp only [w_X4_sessionOf, q.t1, q.r1_0, q.t2, e_checkTranslation q h, e0, e1, hty_sI, hln_sI, hR_sI, cnd1, cnd2, b2i_0, b2i_1, b2i_z, if_true, if_false, true_and, and_true, true_implies, false_implies, ne_eq, not_false_eq_true, not_true_eq_false, eq_self, exIA, exIS, exAI, exAS, exSI, exSA, true_or, or_true, false_or, or_false, Nat.reduceEqDiff, Bool.true_and, Bool.and_true, Bool.false_and, Bool.and_false, Bool.true_eq_false, Bool.false_eq_true, i10, i20, i30, vp0, nc0]; exact k) | (exfalso; rw [e0, e1] at h0; exact absurd h0 (by decide))
theorem q_sessionOf_s {c t : Nat} {K : Int32 → XH → Prop} {KX : String → XH → Prop} (w : Wd X σ Zz) (i : Inv (zG σ) n) (hc : c < n) (ht : t < 3) (hp : pTk (zG σ) c t = false) (k : KX xcS X) : w_X4_sessionOf 1 (Int32.ofNat c) (Int32.ofNat t) X K KX := by
  have q := w.1
  have h : TR X 2 (zG σ) := w.2.1.1
  have hn := i.cn
  have h0 : inC (zG σ 366) (Int32.ofNat c) = true := inC_of i.cn hc
  have h1 : inT (Int32.ofNat t) = true := inT_of ht
  have hcn := hc
  replace hc : c < 24 := Nat.lt_of_lt_of_le hc hn.2
  simp only [w_X4_sessionOf, q.t1, q.r1_0, q.t2, e_checkTranslation q h, e_checkTaken q h hc ht, e_takenIn q h hc ht, h0, h1, hp, hty_sI, hln_sI, hR_sI, cnd1, cnd2, b2i_0, b2i_1, b2i_z, if_true, if_false, true_and, and_true, true_implies, false_implies, ne_eq, not_false_eq_true, not_true_eq_false, eq_self, exIA, exIS, exAI, exAS, exSI, exSA, true_or, or_true, false_or, or_false, Nat.reduceEqDiff, Bool.true_and, Bool.and_true, Bool.false_and, Bool.and_false, Bool.true_eq_false, Bool.false_eq_true, i10, i20, i30, vp0, nc0]
  exact k
theorem q_sessionOf {c t : Nat} {K : Int32 → XH → Prop} {KX : String → XH → Prop} (w : Wd X σ Zz) (i : Inv (zG σ) n) (hc : c < n) (ht : t < 3) (hp : pTk (zG σ) c t = true) (k : K (gT (zG σ) c t - 1) X) : w_X4_sessionOf 1 (Int32.ofNat c) (Int32.ofNat t) X K KX := by
  have q := w.1
  have h : TR X 2 (zG σ) := w.2.1.1
  have hn := i.cn
  have h0 : inC (zG σ 366) (Int32.ofNat c) = true := inC_of i.cn hc
  have h1 : inT (Int32.ofNat t) = true := inT_of ht
  have hcn := hc
  replace hc : c < 24 := Nat.lt_of_lt_of_le hc hn.2
  simp only [w_X4_sessionOf, q.t1, q.r1_0, q.t2, e_checkTranslation q h, e_checkTaken q h hc ht, e_takenIn q h hc ht, h0, h1, hp, hty_sI, hln_sI, hR_sI, cnd1, cnd2, b2i_0, b2i_1, b2i_z, if_true, if_false, true_and, and_true, true_implies, false_implies, ne_eq, not_false_eq_true, not_true_eq_false, eq_self, exIA, exIS, exAI, exAS, exSI, exSA, true_or, or_true, false_or, or_false, Nat.reduceEqDiff, Bool.true_and, Bool.and_true, Bool.false_and, Bool.and_false, Bool.true_eq_false, Bool.false_eq_true, i10, i20, i30, vp0, nc0]
  first | exact k | exact ⟨b_or _, k⟩
theorem q_roomFor_b {a b : Int32} {K : Int32 → XH → Prop} {KX : String → XH → Prop} (w : Wd X σ Zz) (h0 : (inC (zG σ 366) a && inT b) = false) (k : KX xcI X) : w_X4_roomFor 1 a b X K KX := by
  have q := w.1
  have h : TR X 2 (zG σ) := w.2.1.1
  cases e0 : inC (zG σ 366) a <;> cases e1 : inT b <;> first | (simp only [w_X4_roomFor, q.t1, q.r1_0, q.t2, e_checkTranslation q h, e0, e1, hty_sI, hln_sI, hR_sI, cnd1, cnd2, b2i_0, b2i_1, b2i_z, if_true, if_false, true_and, and_true, true_implies, false_implies, ne_eq, not_false_eq_true, not_true_eq_false, eq_self, exIA, exIS, exAI, exAS, exSI, exSA, true_or, or_true, false_or, or_false, Nat.reduceEqDiff, Bool.true_and, Bool.and_true, Bool.false_and, Bool.and_false, Bool.true_eq_false, Bool.false_eq_true, i10, i20, i30, vp0, nc0]; exact k) | (exfalso; rw [e0, e1] at h0; exact absurd h0 (by decide))
theorem q_roomFor_s {c t : Nat} {K : Int32 → XH → Prop} {KX : String → XH → Prop} (w : Wd X σ Zz) (i : Inv (zG σ) n) (hc : c < n) (ht : t < 3) (hp : pHas (zG σ) c t = false) (k : KX xcS X) : w_X4_roomFor 1 (Int32.ofNat c) (Int32.ofNat t) X K KX := by
  have q := w.1
  have h : TR X 2 (zG σ) := w.2.1.1
  have hn := i.cn
  have h0 : inC (zG σ 366) (Int32.ofNat c) = true := inC_of i.cn hc
  have h1 : inT (Int32.ofNat t) = true := inT_of ht
  have hcn := hc
  replace hc : c < 24 := Nat.lt_of_lt_of_le hc hn.2
  simp only [w_X4_roomFor, q.t1, q.r1_0, q.t2, e_checkTranslation q h, e_checkTranslated q h hc ht, e_roomAt q h hc ht, h0, h1, hp, hty_sI, hln_sI, hR_sI, cnd1, cnd2, b2i_0, b2i_1, b2i_z, if_true, if_false, true_and, and_true, true_implies, false_implies, ne_eq, not_false_eq_true, not_true_eq_false, eq_self, exIA, exIS, exAI, exAS, exSI, exSA, true_or, or_true, false_or, or_false, Nat.reduceEqDiff, Bool.true_and, Bool.and_true, Bool.false_and, Bool.and_false, Bool.true_eq_false, Bool.false_eq_true, i10, i20, i30, vp0, nc0]
  exact k
theorem q_roomFor {c t : Nat} {K : Int32 → XH → Prop} {KX : String → XH → Prop} (w : Wd X σ Zz) (i : Inv (zG σ) n) (hc : c < n) (ht : t < 3) (hp : pHas (zG σ) c t = true) (k : K (gRm (zG σ) c t) X) : w_X4_roomFor 1 (Int32.ofNat c) (Int32.ofNat t) X K KX := by
  have q := w.1
  have h : TR X 2 (zG σ) := w.2.1.1
  have hn := i.cn
  have h0 : inC (zG σ 366) (Int32.ofNat c) = true := inC_of i.cn hc
  have h1 : inT (Int32.ofNat t) = true := inT_of ht
  have hcn := hc
  replace hc : c < 24 := Nat.lt_of_lt_of_le hc hn.2
  simp only [w_X4_roomFor, q.t1, q.r1_0, q.t2, e_checkTranslation q h, e_checkTranslated q h hc ht, e_roomAt q h hc ht, h0, h1, hp, hty_sI, hln_sI, hR_sI, cnd1, cnd2, b2i_0, b2i_1, b2i_z, if_true, if_false, true_and, and_true, true_implies, false_implies, ne_eq, not_false_eq_true, not_true_eq_false, eq_self, exIA, exIS, exAI, exAS, exSI, exSA, true_or, or_true, false_or, or_false, Nat.reduceEqDiff, Bool.true_and, Bool.and_true, Bool.false_and, Bool.and_false, Bool.true_eq_false, Bool.false_eq_true, i10, i20, i30, vp0, nc0]
  first | exact k | exact ⟨b_or _, k⟩
theorem q_fits_b {a b : Int32} {K : Int32 → XH → Prop} {KX : String → XH → Prop} (w : Wd X σ Zz) (h0 : (inC (zG σ 366) a && inT b) = false) (k : KX xcI X) : w_X4_fits 1 a b X K KX := by
  have q := w.1
  have h : TR X 2 (zG σ) := w.2.1.1
  cases e0 : inC (zG σ 366) a <;> cases e1 : inT b <;> first | (simp only [w_X4_fits, q.t1, q.r1_0, q.t2, e_checkTranslation q h, e0, e1, hty_sI, hln_sI, hR_sI, cnd1, cnd2, b2i_0, b2i_1, b2i_z, if_true, if_false, true_and, and_true, true_implies, false_implies, ne_eq, not_false_eq_true, not_true_eq_false, eq_self, exIA, exIS, exAI, exAS, exSI, exSA, true_or, or_true, false_or, or_false, Nat.reduceEqDiff, Bool.true_and, Bool.and_true, Bool.false_and, Bool.and_false, Bool.true_eq_false, Bool.false_eq_true, i10, i20, i30, vp0, nc0]; exact k) | (exfalso; rw [e0, e1] at h0; exact absurd h0 (by decide))
theorem q_fits {c t : Nat} {K : Int32 → XH → Prop} {KX : String → XH → Prop} (w : Wd X σ Zz) (i : Inv (zG σ) n) (hc : c < n) (ht : t < 3) (k : K (b2i (pFit (zG σ) c t)) X) : w_X4_fits 1 (Int32.ofNat c) (Int32.ofNat t) X K KX := by
  have q := w.1
  have h : TR X 2 (zG σ) := w.2.1.1
  have hn := i.cn
  have h0 : inC (zG σ 366) (Int32.ofNat c) = true := inC_of i.cn hc
  have h1 : inT (Int32.ofNat t) = true := inT_of ht
  have hcn := hc
  replace hc : c < 24 := Nat.lt_of_lt_of_le hc hn.2
  simp only [w_X4_fits, q.t1, q.r1_0, q.t2, e_checkTranslation q h, e_hasFit q h hc ht, h0, h1, hty_sI, hln_sI, hR_sI, cnd1, cnd2, b2i_0, b2i_1, b2i_z, if_true, if_false, true_and, and_true, true_implies, false_implies, ne_eq, not_false_eq_true, not_true_eq_false, eq_self, exIA, exIS, exAI, exAS, exSI, exSA, true_or, or_true, false_or, or_false, Nat.reduceEqDiff, Bool.true_and, Bool.and_true, Bool.false_and, Bool.and_false, Bool.true_eq_false, Bool.false_eq_true, i10, i20, i30, vp0, nc0]
  first | exact k | exact ⟨b_or _, k⟩
theorem q_hundredthsOf_b {a b : Int32} {K : Int32 → XH → Prop} {KX : String → XH → Prop} (w : Wd X σ Zz) (h0 : (inC (zG σ 366) a && inT b) = false) (k : KX xcI X) : w_X4_hundredthsOf 1 a b X K KX := by
  have q := w.1
  have h : TR X 2 (zG σ) := w.2.1.1
  cases e0 : inC (zG σ 366) a <;> cases e1 : inT b <;> first | (simp only [w_X4_hundredthsOf, q.t1, q.r1_0, q.t2, e_checkTranslation q h, e0, e1, hty_sI, hln_sI, hR_sI, cnd1, cnd2, b2i_0, b2i_1, b2i_z, if_true, if_false, true_and, and_true, true_implies, false_implies, ne_eq, not_false_eq_true, not_true_eq_false, eq_self, exIA, exIS, exAI, exAS, exSI, exSA, true_or, or_true, false_or, or_false, Nat.reduceEqDiff, Bool.true_and, Bool.and_true, Bool.false_and, Bool.and_false, Bool.true_eq_false, Bool.false_eq_true, i10, i20, i30, vp0, nc0]; exact k) | (exfalso; rw [e0, e1] at h0; exact absurd h0 (by decide))
theorem q_hundredthsOf_s {c t : Nat} {K : Int32 → XH → Prop} {KX : String → XH → Prop} (w : Wd X σ Zz) (i : Inv (zG σ) n) (hc : c < n) (ht : t < 3) (hp : pHas (zG σ) c t = false) (k : KX xcS X) : w_X4_hundredthsOf 1 (Int32.ofNat c) (Int32.ofNat t) X K KX := by
  have q := w.1
  have h : TR X 2 (zG σ) := w.2.1.1
  have hn := i.cn
  have h0 : inC (zG σ 366) (Int32.ofNat c) = true := inC_of i.cn hc
  have h1 : inT (Int32.ofNat t) = true := inT_of ht
  have hcn := hc
  replace hc : c < 24 := Nat.lt_of_lt_of_le hc hn.2
  simp only [w_X4_hundredthsOf, q.t1, q.r1_0, q.t2, e_checkTranslation q h, e_checkTranslated q h hc ht, e_hundredthsAt q h hc ht (i.L c hcn), h0, h1, hp, hty_sI, hln_sI, hR_sI, cnd1, cnd2, b2i_0, b2i_1, b2i_z, if_true, if_false, true_and, and_true, true_implies, false_implies, ne_eq, not_false_eq_true, not_true_eq_false, eq_self, exIA, exIS, exAI, exAS, exSI, exSA, true_or, or_true, false_or, or_false, Nat.reduceEqDiff, Bool.true_and, Bool.and_true, Bool.false_and, Bool.and_false, Bool.true_eq_false, Bool.false_eq_true, i10, i20, i30, vp0, nc0]
  exact k
theorem q_hundredthsOf {c t : Nat} {K : Int32 → XH → Prop} {KX : String → XH → Prop} (w : Wd X σ Zz) (i : Inv (zG σ) n) (hc : c < n) (ht : t < 3) (hp : pHas (zG σ) c t = true) (k : K (gP (zG σ) c t) X) : w_X4_hundredthsOf 1 (Int32.ofNat c) (Int32.ofNat t) X K KX := by
  have q := w.1
  have h : TR X 2 (zG σ) := w.2.1.1
  have hn := i.cn
  have h0 : inC (zG σ 366) (Int32.ofNat c) = true := inC_of i.cn hc
  have h1 : inT (Int32.ofNat t) = true := inT_of ht
  have hcn := hc
  replace hc : c < 24 := Nat.lt_of_lt_of_le hc hn.2
  simp only [w_X4_hundredthsOf, q.t1, q.r1_0, q.t2, e_checkTranslation q h, e_checkTranslated q h hc ht, e_hundredthsAt q h hc ht (i.L c hcn), h0, h1, hp, hty_sI, hln_sI, hR_sI, cnd1, cnd2, b2i_0, b2i_1, b2i_z, if_true, if_false, true_and, and_true, true_implies, false_implies, ne_eq, not_false_eq_true, not_true_eq_false, eq_self, exIA, exIS, exAI, exAS, exSI, exSA, true_or, or_true, false_or, or_false, Nat.reduceEqDiff, Bool.true_and, Bool.and_true, Bool.false_and, Bool.and_false, Bool.true_eq_false, Bool.false_eq_true, i10, i20, i30, vp0, nc0]
  first | exact k | exact ⟨b_or _, k⟩
theorem q_reasonAgainst_b {a b : Int32} {K : Int32 → XH → Prop} {KX : String → XH → Prop} (w : Wd X σ Zz) (h0 : (inC (zG σ 366) a && inT b) = false) (k : KX xcI X) : w_X4_reasonAgainst 1 a b X K KX := by
  have q := w.1
  have h : TR X 2 (zG σ) := w.2.1.1
  cases e0 : inC (zG σ 366) a <;> cases e1 : inT b <;> first | (simp only [w_X4_reasonAgainst, q.t1, q.r1_0, q.t2, e_checkTranslation q h, e0, e1, hty_sI, hln_sI, hR_sI, cnd1, cnd2, b2i_0, b2i_1, b2i_z, if_true, if_false, true_and, and_true, true_implies, false_implies, ne_eq, not_false_eq_true, not_true_eq_false, eq_self, exIA, exIS, exAI, exAS, exSI, exSA, true_or, or_true, false_or, or_false, Nat.reduceEqDiff, Bool.true_and, Bool.and_true, Bool.false_and, Bool.and_false, Bool.true_eq_false, Bool.false_eq_true, i10, i20, i30, vp0, nc0]; exact k) | (exfalso; rw [e0, e1] at h0; exact absurd h0 (by decide))
theorem q_reasonAgainst {c t : Nat} {K : Int32 → XH → Prop} {KX : String → XH → Prop} (w : Wd X σ Zz) (i : Inv (zG σ) n) (hc : c < n) (ht : t < 3) (k : K (gRs (zG σ) c t) X) : w_X4_reasonAgainst 1 (Int32.ofNat c) (Int32.ofNat t) X K KX := by
  have q := w.1
  have h : TR X 2 (zG σ) := w.2.1.1
  have hn := i.cn
  have h0 : inC (zG σ 366) (Int32.ofNat c) = true := inC_of i.cn hc
  have h1 : inT (Int32.ofNat t) = true := inT_of ht
  have hcn := hc
  replace hc : c < 24 := Nat.lt_of_lt_of_le hc hn.2
  simp only [w_X4_reasonAgainst, q.t1, q.r1_0, q.t2, e_checkTranslation q h, e_reasonAt q h hc ht (i.S c hcn), h0, h1, hty_sI, hln_sI, hR_sI, cnd1, cnd2, b2i_0, b2i_1, b2i_z, if_true, if_false, true_and, and_true, true_implies, false_implies, ne_eq, not_false_eq_true, not_true_eq_false, eq_self, exIA, exIS, exAI, exAS, exSI, exSA, true_or, or_true, false_or, or_false, Nat.reduceEqDiff, Bool.true_and, Bool.and_true, Bool.false_and, Bool.and_false, Bool.true_eq_false, Bool.false_eq_true, i10, i20, i30, vp0, nc0]
  first | exact k | exact ⟨b_or _, k⟩
theorem q_staminaOf_b {a b : Int32} {K : Int32 → XH → Prop} {KX : String → XH → Prop} (w : Wd X σ Zz) (h0 : (inS a && inT b) = false) (k : KX xcI X) : w_X4_staminaOf 1 a b X K KX := by
  have q := w.1
  have h : TR X 2 (zG σ) := w.2.1.1
  cases e0 : inS a <;> cases e1 : inT b <;> first | (simp only [w_X4_staminaOf, q.t1, q.r1_0, q.t2, e_checkVoice, e0, e1, hty_sI, hln_sI, hR_sI, cnd1, cnd2, b2i_0, b2i_1, b2i_z, if_true, if_false, true_and, and_true, true_implies, false_implies, ne_eq, not_false_eq_true, not_true_eq_false, eq_self, exIA, exIS, exAI, exAS, exSI, exSA, true_or, or_true, false_or, or_false, Nat.reduceEqDiff, Bool.true_and, Bool.and_true, Bool.false_and, Bool.and_false, Bool.true_eq_false, Bool.false_eq_true, i10, i20, i30, vp0, nc0]; exact k) | (exfalso; rw [e0, e1] at h0; exact absurd h0 (by decide))
theorem q_staminaOf {s t : Nat} {K : Int32 → XH → Prop} {KX : String → XH → Prop} (w : Wd X σ Zz) (i : Inv (zG σ) n) (hs : s < 5) (ht : t < 3) (k : K (gSt (zG σ) s t) X) : w_X4_staminaOf 1 (Int32.ofNat s) (Int32.ofNat t) X K KX := by
  have q := w.1
  have h : TR X 2 (zG σ) := w.2.1.1
  have hn := i.cn
  have h0 : inS (Int32.ofNat s) = true := inS_of hs
  have h1 : inT (Int32.ofNat t) = true := inT_of ht
  simp only [w_X4_staminaOf, q.t1, q.r1_0, q.t2, e_checkVoice, e_staminaAt q h hs ht, h0, h1, hty_sI, hln_sI, hR_sI, cnd1, cnd2, b2i_0, b2i_1, b2i_z, if_true, if_false, true_and, and_true, true_implies, false_implies, ne_eq, not_false_eq_true, not_true_eq_false, eq_self, exIA, exIS, exAI, exAS, exSI, exSA, true_or, or_true, false_or, or_false, Nat.reduceEqDiff, Bool.true_and, Bool.and_true, Bool.false_and, Bool.and_false, Bool.true_eq_false, Bool.false_eq_true, i10, i20, i30, vp0, nc0]
  first | exact k | exact ⟨b_or _, k⟩
theorem q_strengthLeft_b {a b : Int32} {K : Int32 → XH → Prop} {KX : String → XH → Prop} (w : Wd X σ Zz) (h0 : (inS a && inT b) = false) (k : KX xcI X) : w_X4_strengthLeft 1 a b X K KX := by
  have q := w.1
  have h : TR X 2 (zG σ) := w.2.1.1
  cases e0 : inS a <;> cases e1 : inT b <;> first | (simp only [w_X4_strengthLeft, q.t1, q.r1_0, q.t2, e_checkVoice, e0, e1, hty_sI, hln_sI, hR_sI, cnd1, cnd2, b2i_0, b2i_1, b2i_z, if_true, if_false, true_and, and_true, true_implies, false_implies, ne_eq, not_false_eq_true, not_true_eq_false, eq_self, exIA, exIS, exAI, exAS, exSI, exSA, true_or, or_true, false_or, or_false, Nat.reduceEqDiff, Bool.true_and, Bool.and_true, Bool.false_and, Bool.and_false, Bool.true_eq_false, Bool.false_eq_true, i10, i20, i30, vp0, nc0]; exact k) | (exfalso; rw [e0, e1] at h0; exact absurd h0 (by decide))
theorem q_strengthLeft {s t : Nat} {K : Int32 → XH → Prop} {KX : String → XH → Prop} (w : Wd X σ Zz) (i : Inv (zG σ) n) (hs : s < 5) (ht : t < 3) (k : K (gSn (zG σ) s t) X) : w_X4_strengthLeft 1 (Int32.ofNat s) (Int32.ofNat t) X K KX := by
  have q := w.1
  have h : TR X 2 (zG σ) := w.2.1.1
  have hn := i.cn
  have h0 : inS (Int32.ofNat s) = true := inS_of hs
  have h1 : inT (Int32.ofNat t) = true := inT_of ht
  simp only [w_X4_strengthLeft, q.t1, q.r1_0, q.t2, e_checkVoice, e_strengthAt q h hs ht, h0, h1, hty_sI, hln_sI, hR_sI, cnd1, cnd2, b2i_0, b2i_1, b2i_z, if_true, if_false, true_and, and_true, true_implies, false_implies, ne_eq, not_false_eq_true, not_true_eq_false, eq_self, exIA, exIS, exAI, exAS, exSI, exSA, true_or, or_true, false_or, or_false, Nat.reduceEqDiff, Bool.true_and, Bool.and_true, Bool.false_and, Bool.and_false, Bool.true_eq_false, Bool.false_eq_true, i10, i20, i30, vp0, nc0]
  first | exact k | exact ⟨b_or _, k⟩
theorem q_framesOfVoice_b {a b : Int32} {K : Int32 → XH → Prop} {KX : String → XH → Prop} (w : Wd X σ Zz) (h0 : (inS a && inT b) = false) (k : KX xcI X) : w_X4_framesOfVoice 1 a b X K KX := by
  have q := w.1
  have h : TR X 2 (zG σ) := w.2.1.1
  cases e0 : inS a <;> cases e1 : inT b <;> first | (simp only [w_X4_framesOfVoice, q.t1, q.r1_0, q.t2, e_checkVoice, e0, e1, hty_sI, hln_sI, hR_sI, cnd1, cnd2, b2i_0, b2i_1, b2i_z, if_true, if_false, true_and, and_true, true_implies, false_implies, ne_eq, not_false_eq_true, not_true_eq_false, eq_self, exIA, exIS, exAI, exAS, exSI, exSA, true_or, or_true, false_or, or_false, Nat.reduceEqDiff, Bool.true_and, Bool.and_true, Bool.false_and, Bool.and_false, Bool.true_eq_false, Bool.false_eq_true, i10, i20, i30, vp0, nc0]; exact k) | (exfalso; rw [e0, e1] at h0; exact absurd h0 (by decide))
theorem q_framesOfVoice {s t : Nat} {K : Int32 → XH → Prop} {KX : String → XH → Prop} (w : Wd X σ Zz) (i : Inv (zG σ) n) (hs : s < 5) (ht : t < 3) (k : K (sVoiced (zG σ) n (Int32.ofNat s) t) X) : w_X4_framesOfVoice 1 (Int32.ofNat s) (Int32.ofNat t) X K KX := by
  have q := w.1
  have h : TR X 2 (zG σ) := w.2.1.1
  have hn := i.cn
  have h0 : inS (Int32.ofNat s) = true := inS_of hs
  have h1 : inT (Int32.ofNat t) = true := inT_of ht
  simp only [w_X4_framesOfVoice, q.t1, q.r1_0, q.t2, e_checkVoice, h0, h1, hty_sI, hln_sI, hR_sI, cnd1, cnd2, b2i_0, b2i_1, b2i_z, if_true, if_false, true_and, and_true, true_implies, false_implies, ne_eq, not_false_eq_true, not_true_eq_false, eq_self, exIA, exIS, exAI, exAS, exSI, exSA, true_or, or_true, false_or, or_false, Nat.reduceEqDiff, Bool.true_and, Bool.and_true, Bool.false_and, Bool.and_false, Bool.true_eq_false, Bool.false_eq_true, i10, i20, i30, vp0, nc0]
  refine s_takenFramesOf q h hn ht ?_
  first | exact k | exact ⟨b_or _, k⟩
theorem q_clausesIn_b {a : Int32} {K : Int32 → XH → Prop} {KX : String → XH → Prop} (w : Wd X σ Zz) (h0 : inR a = false) (k : KX xcI X) : w_X4_clausesIn 1 a X K KX := by
  have q := w.1
  have h : TR X 2 (zG σ) := w.2.1.1
  simp only [w_X4_clausesIn, q.t1, q.r1_0, q.t2, e_checkReel, h0, hty_sI, hln_sI, hR_sI, cnd1, cnd2, b2i_0, b2i_1, b2i_z, if_true, if_false, true_and, and_true, true_implies, false_implies, ne_eq, not_false_eq_true, not_true_eq_false, eq_self, exIA, exIS, exAI, exAS, exSI, exSA, true_or, or_true, false_or, or_false, Nat.reduceEqDiff, Bool.true_and, Bool.and_true, Bool.false_and, Bool.and_false, Bool.true_eq_false, Bool.false_eq_true, i10, i20, i30, vp0, nc0]
  exact k
theorem q_clausesIn {r : Nat} {K : Int32 → XH → Prop} {KX : String → XH → Prop} (w : Wd X σ Zz) (i : Inv (zG σ) n) (hr : r < 4) (k : K (sMany (zG σ) n (Int32.ofNat r)) X) : w_X4_clausesIn 1 (Int32.ofNat r) X K KX := by
  have q := w.1
  have h : TR X 2 (zG σ) := w.2.1.1
  have hn := i.cn
  have h0 : inR (Int32.ofNat r) = true := inR_of hr
  simp only [w_X4_clausesIn, q.t1, q.r1_0, q.t2, e_checkReel, h0, hty_sI, hln_sI, hR_sI, cnd1, cnd2, b2i_0, b2i_1, b2i_z, if_true, if_false, true_and, and_true, true_implies, false_implies, ne_eq, not_false_eq_true, not_true_eq_false, eq_self, exIA, exIS, exAI, exAS, exSI, exSA, true_or, or_true, false_or, or_false, Nat.reduceEqDiff, Bool.true_and, Bool.and_true, Bool.false_and, Bool.and_false, Bool.true_eq_false, Bool.false_eq_true, i10, i20, i30, vp0, nc0]
  refine s_clausesOn q h hn ?_
  first | exact k | exact ⟨b_or _, k⟩
theorem q_lengthOf_b {a : Int32} {K : Int32 → XH → Prop} {KX : String → XH → Prop} (w : Wd X σ Zz) (h0 : inR a = false) (k : KX xcI X) : w_X4_lengthOf 1 a X K KX := by
  have q := w.1
  have h : TR X 2 (zG σ) := w.2.1.1
  simp only [w_X4_lengthOf, q.t1, q.r1_0, q.t2, e_checkReel, h0, hty_sI, hln_sI, hR_sI, cnd1, cnd2, b2i_0, b2i_1, b2i_z, if_true, if_false, true_and, and_true, true_implies, false_implies, ne_eq, not_false_eq_true, not_true_eq_false, eq_self, exIA, exIS, exAI, exAS, exSI, exSA, true_or, or_true, false_or, or_false, Nat.reduceEqDiff, Bool.true_and, Bool.and_true, Bool.false_and, Bool.and_false, Bool.true_eq_false, Bool.false_eq_true, i10, i20, i30, vp0, nc0]
  exact k
theorem q_lengthOf {r : Nat} {K : Int32 → XH → Prop} {KX : String → XH → Prop} (w : Wd X σ Zz) (i : Inv (zG σ) n) (hr : r < 4) (k : K (sLong (zG σ) n (Int32.ofNat r)) X) : w_X4_lengthOf 1 (Int32.ofNat r) X K KX := by
  have q := w.1
  have h : TR X 2 (zG σ) := w.2.1.1
  have hn := i.cn
  have h0 : inR (Int32.ofNat r) = true := inR_of hr
  simp only [w_X4_lengthOf, q.t1, q.r1_0, q.t2, e_checkReel, h0, hty_sI, hln_sI, hR_sI, cnd1, cnd2, b2i_0, b2i_1, b2i_z, if_true, if_false, true_and, and_true, true_implies, false_implies, ne_eq, not_false_eq_true, not_true_eq_false, eq_self, exIA, exIS, exAI, exAS, exSI, exSA, true_or, or_true, false_or, or_false, Nat.reduceEqDiff, Bool.true_and, Bool.and_true, Bool.false_and, Bool.and_false, Bool.true_eq_false, Bool.false_eq_true, i10, i20, i30, vp0, nc0]
  refine s_lipsOn q h hn ?_
  first | exact k | exact ⟨b_or _, k⟩
theorem q_speaksIn_b {a b : Int32} {K : Int32 → XH → Prop} {KX : String → XH → Prop} (w : Wd X σ Zz) (h0 : (inS a && inR b) = false) (k : KX xcI X) : w_X4_speaksIn 1 a b X K KX := by
  have q := w.1
  have h : TR X 2 (zG σ) := w.2.1.1
  cases e0 : inS a <;> cases e1 : inR b <;> first | (simp only [w_X4_speaksIn, q.t1, q.r1_0, q.t2, e_checkState, e_checkReel, e0, e1, hty_sI, hln_sI, hR_sI, cnd1, cnd2, b2i_0, b2i_1, b2i_z, if_true, if_false, true_and, and_true, true_implies, false_implies, ne_eq, not_false_eq_true, not_true_eq_false, eq_self, exIA, exIS, exAI, exAS, exSI, exSA, true_or, or_true, false_or, or_false, Nat.reduceEqDiff, Bool.true_and, Bool.and_true, Bool.false_and, Bool.and_false, Bool.true_eq_false, Bool.false_eq_true, i10, i20, i30, vp0, nc0]; exact k) | (exfalso; rw [e0, e1] at h0; exact absurd h0 (by decide))
theorem q_speaksIn {s r : Nat} {K : Int32 → XH → Prop} {KX : String → XH → Prop} (w : Wd X σ Zz) (i : Inv (zG σ) n) (hs : s < 5) (hr : r < 4) (k : K (b2i (pHd (zG σ) n (Int32.ofNat s) (Int32.ofNat r))) X) : w_X4_speaksIn 1 (Int32.ofNat s) (Int32.ofNat r) X K KX := by
  have q := w.1
  have h : TR X 2 (zG σ) := w.2.1.1
  have hn := i.cn
  have h0 : inS (Int32.ofNat s) = true := inS_of hs
  have h1 : inR (Int32.ofNat r) = true := inR_of hr
  simp only [w_X4_speaksIn, q.t1, q.r1_0, q.t2, e_checkState, e_checkReel, h0, h1, hty_sI, hln_sI, hR_sI, cnd1, cnd2, b2i_0, b2i_1, b2i_z, if_true, if_false, true_and, and_true, true_implies, false_implies, ne_eq, not_false_eq_true, not_true_eq_false, eq_self, exIA, exIS, exAI, exAS, exSI, exSA, true_or, or_true, false_or, or_false, Nat.reduceEqDiff, Bool.true_and, Bool.and_true, Bool.false_and, Bool.and_false, Bool.true_eq_false, Bool.false_eq_true, i10, i20, i30, vp0, nc0]
  refine s_isHeardIn q h hn ?_
  try simp only [hty_sI, hln_sI, hR_sI, cnd1, cnd2, b2i_0, b2i_1, b2i_z, if_true, if_false, true_and, and_true, true_implies, false_implies, ne_eq, not_false_eq_true, not_true_eq_false, eq_self, exIA, exIS, exAI, exAS, exSI, exSA, true_or, or_true, false_or, or_false, Nat.reduceEqDiff, Bool.true_and, Bool.and_true, Bool.false_and, Bool.and_false, Bool.true_eq_false, Bool.false_eq_true, i10, i20, i30, vp0, nc0]
  first | exact k | exact ⟨b_or _, k⟩
theorem q_isComplete_b {a b : Int32} {K : Int32 → XH → Prop} {KX : String → XH → Prop} (w : Wd X σ Zz) (h0 : (inR a && inT b) = false) (k : KX xcI X) : w_X4_isComplete 1 a b X K KX := by
  have q := w.1
  have h : TR X 2 (zG σ) := w.2.1.1
  cases e0 : inR a <;> cases e1 : inT b <;> first | (simp only [w_X4_isComplete, q.t1, q.r1_0, q.t2, e_checkReel, e_checkTongue, e0, e1, hty_sI, hln_sI, hR_sI, cnd1, cnd2, b2i_0, b2i_1, b2i_z, if_true, if_false, true_and, and_true, true_implies, false_implies, ne_eq, not_false_eq_true, not_true_eq_false, eq_self, exIA, exIS, exAI, exAS, exSI, exSA, true_or, or_true, false_or, or_false, Nat.reduceEqDiff, Bool.true_and, Bool.and_true, Bool.false_and, Bool.and_false, Bool.true_eq_false, Bool.false_eq_true, i10, i20, i30, vp0, nc0]; exact k) | (exfalso; rw [e0, e1] at h0; exact absurd h0 (by decide))
theorem q_isComplete {r t : Nat} {K : Int32 → XH → Prop} {KX : String → XH → Prop} (w : Wd X σ Zz) (i : Inv (zG σ) n) (hr : r < 4) (ht : t < 3) (k : K (b2i (pWh (zG σ) n (Int32.ofNat r) t)) X) : w_X4_isComplete 1 (Int32.ofNat r) (Int32.ofNat t) X K KX := by
  have q := w.1
  have h : TR X 2 (zG σ) := w.2.1.1
  have hn := i.cn
  have h0 : inR (Int32.ofNat r) = true := inR_of hr
  have h1 : inT (Int32.ofNat t) = true := inT_of ht
  simp only [w_X4_isComplete, q.t1, q.r1_0, q.t2, e_checkReel, e_checkTongue, h0, h1, hty_sI, hln_sI, hR_sI, cnd1, cnd2, b2i_0, b2i_1, b2i_z, if_true, if_false, true_and, and_true, true_implies, false_implies, ne_eq, not_false_eq_true, not_true_eq_false, eq_self, exIA, exIS, exAI, exAS, exSI, exSA, true_or, or_true, false_or, or_false, Nat.reduceEqDiff, Bool.true_and, Bool.and_true, Bool.false_and, Bool.and_false, Bool.true_eq_false, Bool.false_eq_true, i10, i20, i30, vp0, nc0]
  refine s_isWholeReel q h hn ht ?_
  try simp only [hty_sI, hln_sI, hR_sI, cnd1, cnd2, b2i_0, b2i_1, b2i_z, if_true, if_false, true_and, and_true, true_implies, false_implies, ne_eq, not_false_eq_true, not_true_eq_false, eq_self, exIA, exIS, exAI, exAS, exSI, exSA, true_or, or_true, false_or, or_false, Nat.reduceEqDiff, Bool.true_and, Bool.and_true, Bool.false_and, Bool.and_false, Bool.true_eq_false, Bool.false_eq_true, i10, i20, i30, vp0, nc0]
  first | exact k | exact ⟨b_or _, k⟩
theorem q_isMixed_b {a b : Int32} {K : Int32 → XH → Prop} {KX : String → XH → Prop} (w : Wd X σ Zz) (h0 : (inR a && inT b) = false) (k : KX xcI X) : w_X4_isMixed 1 a b X K KX := by
  have q := w.1
  have h : TR X 2 (zG σ) := w.2.1.1
  cases e0 : inR a <;> cases e1 : inT b <;> first | (simp only [w_X4_isMixed, q.t1, q.r1_0, q.t2, e_checkReel, e_checkTongue, e0, e1, hty_sI, hln_sI, hR_sI, cnd1, cnd2, b2i_0, b2i_1, b2i_z, if_true, if_false, true_and, and_true, true_implies, false_implies, ne_eq, not_false_eq_true, not_true_eq_false, eq_self, exIA, exIS, exAI, exAS, exSI, exSA, true_or, or_true, false_or, or_false, Nat.reduceEqDiff, Bool.true_and, Bool.and_true, Bool.false_and, Bool.and_false, Bool.true_eq_false, Bool.false_eq_true, i10, i20, i30, vp0, nc0]; exact k) | (exfalso; rw [e0, e1] at h0; exact absurd h0 (by decide))
theorem q_isMixed {r t : Nat} {K : Int32 → XH → Prop} {KX : String → XH → Prop} (w : Wd X σ Zz) (i : Inv (zG σ) n) (hr : r < 4) (ht : t < 3) (k : K (b2i (pMx (zG σ) r t)) X) : w_X4_isMixed 1 (Int32.ofNat r) (Int32.ofNat t) X K KX := by
  have q := w.1
  have h : TR X 2 (zG σ) := w.2.1.1
  have hn := i.cn
  have h0 : inR (Int32.ofNat r) = true := inR_of hr
  have h1 : inT (Int32.ofNat t) = true := inT_of ht
  simp only [w_X4_isMixed, q.t1, q.r1_0, q.t2, e_checkReel, e_checkTongue, e_hasMix q h hr ht, h0, h1, hty_sI, hln_sI, hR_sI, cnd1, cnd2, b2i_0, b2i_1, b2i_z, if_true, if_false, true_and, and_true, true_implies, false_implies, ne_eq, not_false_eq_true, not_true_eq_false, eq_self, exIA, exIS, exAI, exAS, exSI, exSA, true_or, or_true, false_or, or_false, Nat.reduceEqDiff, Bool.true_and, Bool.and_true, Bool.false_and, Bool.and_false, Bool.true_eq_false, Bool.false_eq_true, i10, i20, i30, vp0, nc0]
  first | exact k | exact ⟨b_or _, k⟩
theorem q_hasSigned_b {a b e : Int32} {K : Int32 → XH → Prop} {KX : String → XH → Prop} (w : Wd X σ Zz) (h0 : (inS a && (inR b && inT e)) = false) (k : KX xcI X) : w_X4_hasSigned 1 a b e X K KX := by
  have q := w.1
  have h : TR X 2 (zG σ) := w.2.1.1
  cases e0 : inS a <;> cases e1 : inR b <;> cases e2 : inT e <;> first | (simp only [w_X4_hasSigned, q.t1, q.r1_0, q.t2, e_checkState, e_checkReel, e_checkTongue, e0, e1, e2, hty_sI, hln_sI, hR_sI, cnd1, cnd2, b2i_0, b2i_1, b2i_z, if_true, if_false, true_and, and_true, true_implies, false_implies, ne_eq, not_false_eq_true, not_true_eq_false, eq_self, exIA, exIS, exAI, exAS, exSI, exSA, true_or, or_true, false_or, or_false, Nat.reduceEqDiff, Bool.true_and, Bool.and_true, Bool.false_and, Bool.and_false, Bool.true_eq_false, Bool.false_eq_true, i10, i20, i30, vp0, nc0]; exact k) | (exfalso; rw [e0, e1, e2] at h0; exact absurd h0 (by decide))
theorem q_hasSigned {s r t : Nat} {K : Int32 → XH → Prop} {KX : String → XH → Prop} (w : Wd X σ Zz) (i : Inv (zG σ) n) (hs : s < 5) (hr : r < 4) (ht : t < 3) (k : K (b2i (pSg (zG σ) s r t)) X) : w_X4_hasSigned 1 (Int32.ofNat s) (Int32.ofNat r) (Int32.ofNat t) X K KX := by
  have q := w.1
  have h : TR X 2 (zG σ) := w.2.1.1
  have hn := i.cn
  have h0 : inS (Int32.ofNat s) = true := inS_of hs
  have h1 : inR (Int32.ofNat r) = true := inR_of hr
  have h2 : inT (Int32.ofNat t) = true := inT_of ht
  simp only [w_X4_hasSigned, q.t1, q.r1_0, q.t2, e_checkState, e_checkReel, e_checkTongue, e_hasSignature q h hs hr ht, h0, h1, h2, hty_sI, hln_sI, hR_sI, cnd1, cnd2, b2i_0, b2i_1, b2i_z, if_true, if_false, true_and, and_true, true_implies, false_implies, ne_eq, not_false_eq_true, not_true_eq_false, eq_self, exIA, exIS, exAI, exAS, exSI, exSA, true_or, or_true, false_or, or_false, Nat.reduceEqDiff, Bool.true_and, Bool.and_true, Bool.false_and, Bool.and_false, Bool.true_eq_false, Bool.false_eq_true, i10, i20, i30, vp0, nc0]
  first | exact k | exact ⟨b_or _, k⟩
theorem q_signaturesOn_b {a b : Int32} {K : Int32 → XH → Prop} {KX : String → XH → Prop} (w : Wd X σ Zz) (h0 : (inR a && inT b) = false) (k : KX xcI X) : w_X4_signaturesOn 1 a b X K KX := by
  have q := w.1
  have h : TR X 2 (zG σ) := w.2.1.1
  cases e0 : inR a <;> cases e1 : inT b <;> first | (simp only [w_X4_signaturesOn, q.t1, q.r1_0, q.t2, e_checkReel, e_checkTongue, e0, e1, hty_sI, hln_sI, hR_sI, cnd1, cnd2, b2i_0, b2i_1, b2i_z, if_true, if_false, true_and, and_true, true_implies, false_implies, ne_eq, not_false_eq_true, not_true_eq_false, eq_self, exIA, exIS, exAI, exAS, exSI, exSA, true_or, or_true, false_or, or_false, Nat.reduceEqDiff, Bool.true_and, Bool.and_true, Bool.false_and, Bool.and_false, Bool.true_eq_false, Bool.false_eq_true, i10, i20, i30, vp0, nc0]; exact k) | (exfalso; rw [e0, e1] at h0; exact absurd h0 (by decide))
theorem q_signaturesOn {r t : Nat} {K : Int32 → XH → Prop} {KX : String → XH → Prop} (w : Wd X σ Zz) (i : Inv (zG σ) n) (hr : r < 4) (ht : t < 3) (k : K (sSigs (zG σ) r t) X) : w_X4_signaturesOn 1 (Int32.ofNat r) (Int32.ofNat t) X K KX := by
  have q := w.1
  have h : TR X 2 (zG σ) := w.2.1.1
  have hn := i.cn
  have h0 : inR (Int32.ofNat r) = true := inR_of hr
  have h1 : inT (Int32.ofNat t) = true := inT_of ht
  simp only [w_X4_signaturesOn, q.t1, q.r1_0, q.t2, e_checkReel, e_checkTongue, h0, h1, hty_sI, hln_sI, hR_sI, cnd1, cnd2, b2i_0, b2i_1, b2i_z, if_true, if_false, true_and, and_true, true_implies, false_implies, ne_eq, not_false_eq_true, not_true_eq_false, eq_self, exIA, exIS, exAI, exAS, exSI, exSA, true_or, or_true, false_or, or_false, Nat.reduceEqDiff, Bool.true_and, Bool.and_true, Bool.false_and, Bool.and_false, Bool.true_eq_false, Bool.false_eq_true, i10, i20, i30, vp0, nc0]
  refine s_signaturesAt q h hr ht (i.2.2.2.2.1 r hr t ht).2 ?_
  first | exact k | exact ⟨b_or _, k⟩
theorem q_missingOn_b {a b : Int32} {K : Int32 → XH → Prop} {KX : String → XH → Prop} (w : Wd X σ Zz) (h0 : (inR a && inT b) = false) (k : KX xcI X) : w_X4_missingOn 1 a b X K KX := by
  have q := w.1
  have h : TR X 2 (zG σ) := w.2.1.1
  cases e0 : inR a <;> cases e1 : inT b <;> first | (simp only [w_X4_missingOn, q.t1, q.r1_0, q.t2, e_checkReel, e_checkTongue, e0, e1, hty_sI, hln_sI, hR_sI, cnd1, cnd2, b2i_0, b2i_1, b2i_z, if_true, if_false, true_and, and_true, true_implies, false_implies, ne_eq, not_false_eq_true, not_true_eq_false, eq_self, exIA, exIS, exAI, exAS, exSI, exSA, true_or, or_true, false_or, or_false, Nat.reduceEqDiff, Bool.true_and, Bool.and_true, Bool.false_and, Bool.and_false, Bool.true_eq_false, Bool.false_eq_true, i10, i20, i30, vp0, nc0]; exact k) | (exfalso; rw [e0, e1] at h0; exact absurd h0 (by decide))
theorem q_missingOn {r t : Nat} {K : Int32 → XH → Prop} {KX : String → XH → Prop} (w : Wd X σ Zz) (i : Inv (zG σ) n) (hr : r < 4) (ht : t < 3) (k : K (sMiss (zG σ) n r t) X) : w_X4_missingOn 1 (Int32.ofNat r) (Int32.ofNat t) X K KX := by
  have q := w.1
  have h : TR X 2 (zG σ) := w.2.1.1
  have hn := i.cn
  have h0 : inR (Int32.ofNat r) = true := inR_of hr
  have h1 : inT (Int32.ofNat t) = true := inT_of ht
  simp only [w_X4_missingOn, q.t1, q.r1_0, q.t2, e_checkReel, e_checkTongue, h0, h1, hty_sI, hln_sI, hR_sI, cnd1, cnd2, b2i_0, b2i_1, b2i_z, if_true, if_false, true_and, and_true, true_implies, false_implies, ne_eq, not_false_eq_true, not_true_eq_false, eq_self, exIA, exIS, exAI, exAS, exSI, exSA, true_or, or_true, false_or, or_false, Nat.reduceEqDiff, Bool.true_and, Bool.and_true, Bool.false_and, Bool.and_false, Bool.true_eq_false, Bool.false_eq_true, i10, i20, i30, vp0, nc0]
  refine s_signaturesMissing q h hn hr ht ?_
  first | exact k | exact ⟨b_or _, k⟩
theorem q_annexOf_b {a : Int32} {K : Int32 → XH → Prop} {KX : String → XH → Prop} (w : Wd X σ Zz) (h0 : inT a = false) (k : KX xcI X) : w_X4_annexOf 1 a X K KX := by
  have q := w.1
  have h : TR X 2 (zG σ) := w.2.1.1
  simp only [w_X4_annexOf, q.t1, q.r1_0, q.t2, e_checkTongue, h0, hty_sI, hln_sI, hR_sI, cnd1, cnd2, b2i_0, b2i_1, b2i_z, if_true, if_false, true_and, and_true, true_implies, false_implies, ne_eq, not_false_eq_true, not_true_eq_false, eq_self, exIA, exIS, exAI, exAS, exSI, exSA, true_or, or_true, false_or, or_false, Nat.reduceEqDiff, Bool.true_and, Bool.and_true, Bool.false_and, Bool.and_false, Bool.true_eq_false, Bool.false_eq_true, i10, i20, i30, vp0, nc0]
  exact k
theorem q_annexOf {t : Nat} {K : Int32 → XH → Prop} {KX : String → XH → Prop} (w : Wd X σ Zz) (i : Inv (zG σ) n) (ht : t < 3) (k : K (sAnnex (zG σ) n t) X) : w_X4_annexOf 1 (Int32.ofNat t) X K KX := by
  have q := w.1
  have h : TR X 2 (zG σ) := w.2.1.1
  have hn := i.cn
  have h0 : inT (Int32.ofNat t) = true := inT_of ht
  simp only [w_X4_annexOf, q.t1, q.r1_0, q.t2, e_checkTongue, h0, hty_sI, hln_sI, hR_sI, cnd1, cnd2, b2i_0, b2i_1, b2i_z, if_true, if_false, true_and, and_true, true_implies, false_implies, ne_eq, not_false_eq_true, not_true_eq_false, eq_self, exIA, exIS, exAI, exAS, exSI, exSA, true_or, or_true, false_or, or_false, Nat.reduceEqDiff, Bool.true_and, Bool.and_true, Bool.false_and, Bool.and_false, Bool.true_eq_false, Bool.false_eq_true, i10, i20, i30, vp0, nc0]
  refine s_annexTotal q h hn ht ?_
  first | exact k | exact ⟨b_or _, k⟩
theorem q_recordedIn_b {a : Int32} {K : Int32 → XH → Prop} {KX : String → XH → Prop} (w : Wd X σ Zz) (h0 : inT a = false) (k : KX xcI X) : w_X4_recordedIn 1 a X K KX := by
  have q := w.1
  have h : TR X 2 (zG σ) := w.2.1.1
  simp only [w_X4_recordedIn, q.t1, q.r1_0, q.t2, e_checkTongue, h0, hty_sI, hln_sI, hR_sI, cnd1, cnd2, b2i_0, b2i_1, b2i_z, if_true, if_false, true_and, and_true, true_implies, false_implies, ne_eq, not_false_eq_true, not_true_eq_false, eq_self, exIA, exIS, exAI, exAS, exSI, exSA, true_or, or_true, false_or, or_false, Nat.reduceEqDiff, Bool.true_and, Bool.and_true, Bool.false_and, Bool.and_false, Bool.true_eq_false, Bool.false_eq_true, i10, i20, i30, vp0, nc0]
  exact k
theorem q_recordedIn {t : Nat} {K : Int32 → XH → Prop} {KX : String → XH → Prop} (w : Wd X σ Zz) (i : Inv (zG σ) n) (ht : t < 3) (k : K (sTaken (zG σ) n t) X) : w_X4_recordedIn 1 (Int32.ofNat t) X K KX := by
  have q := w.1
  have h : TR X 2 (zG σ) := w.2.1.1
  have hn := i.cn
  have h0 : inT (Int32.ofNat t) = true := inT_of ht
  simp only [w_X4_recordedIn, q.t1, q.r1_0, q.t2, e_checkTongue, h0, hty_sI, hln_sI, hR_sI, cnd1, cnd2, b2i_0, b2i_1, b2i_z, if_true, if_false, true_and, and_true, true_implies, false_implies, ne_eq, not_false_eq_true, not_true_eq_false, eq_self, exIA, exIS, exAI, exAS, exSI, exSA, true_or, or_true, false_or, or_false, Nat.reduceEqDiff, Bool.true_and, Bool.and_true, Bool.false_and, Bool.and_false, Bool.true_eq_false, Bool.false_eq_true, i10, i20, i30, vp0, nc0]
  refine s_takenTotal q h hn ht ?_
  first | exact k | exact ⟨b_or _, k⟩
theorem q_readyByClauses_b {a : Int32} {K : Int32 → XH → Prop} {KX : String → XH → Prop} (w : Wd X σ Zz) (h0 : inT a = false) (k : KX xcI X) : w_X4_readyByClauses 1 a X K KX := by
  have q := w.1
  have h : TR X 2 (zG σ) := w.2.1.1
  simp only [w_X4_readyByClauses, q.t1, q.r1_0, q.t2, e_checkTongue, h0, hty_sI, hln_sI, hR_sI, cnd1, cnd2, b2i_0, b2i_1, b2i_z, if_true, if_false, true_and, and_true, true_implies, false_implies, ne_eq, not_false_eq_true, not_true_eq_false, eq_self, exIA, exIS, exAI, exAS, exSI, exSA, true_or, or_true, false_or, or_false, Nat.reduceEqDiff, Bool.true_and, Bool.and_true, Bool.false_and, Bool.and_false, Bool.true_eq_false, Bool.false_eq_true, i10, i20, i30, vp0, nc0]
  exact k
theorem q_readyByClauses {t : Nat} {K : Int32 → XH → Prop} {KX : String → XH → Prop} (w : Wd X σ Zz) (i : Inv (zG σ) n) (ht : t < 3) (k : K (sReady (zG σ) n t) X) : w_X4_readyByClauses 1 (Int32.ofNat t) X K KX := by
  have q := w.1
  have h : TR X 2 (zG σ) := w.2.1.1
  have hn := i.cn
  have h0 : inT (Int32.ofNat t) = true := inT_of ht
  simp only [w_X4_readyByClauses, q.t1, q.r1_0, q.t2, e_checkTongue, h0, hty_sI, hln_sI, hR_sI, cnd1, cnd2, b2i_0, b2i_1, b2i_z, if_true, if_false, true_and, and_true, true_implies, false_implies, ne_eq, not_false_eq_true, not_true_eq_false, eq_self, exIA, exIS, exAI, exAS, exSI, exSA, true_or, or_true, false_or, or_false, Nat.reduceEqDiff, Bool.true_and, Bool.and_true, Bool.false_and, Bool.and_false, Bool.true_eq_false, Bool.false_eq_true, i10, i20, i30, vp0, nc0]
  refine s_readyTotal q h hn ht ?_
  first | exact k | exact ⟨b_or _, k⟩
theorem q_readyByVoices_b {a : Int32} {K : Int32 → XH → Prop} {KX : String → XH → Prop} (w : Wd X σ Zz) (h0 : inT a = false) (k : KX xcI X) : w_X4_readyByVoices 1 a X K KX := by
  have q := w.1
  have h : TR X 2 (zG σ) := w.2.1.1
  simp only [w_X4_readyByVoices, q.t1, q.r1_0, q.t2, e_checkTongue, h0, hty_sI, hln_sI, hR_sI, cnd1, cnd2, b2i_0, b2i_1, b2i_z, if_true, if_false, true_and, and_true, true_implies, false_implies, ne_eq, not_false_eq_true, not_true_eq_false, eq_self, exIA, exIS, exAI, exAS, exSI, exSA, true_or, or_true, false_or, or_false, Nat.reduceEqDiff, Bool.true_and, Bool.and_true, Bool.false_and, Bool.and_false, Bool.true_eq_false, Bool.false_eq_true, i10, i20, i30, vp0, nc0]
  exact k
theorem q_readyByVoices {t : Nat} {K : Int32 → XH → Prop} {KX : String → XH → Prop} (w : Wd X σ Zz) (i : Inv (zG σ) n) (ht : t < 3) (k : K (sReady (zG σ) n t) X) : w_X4_readyByVoices 1 (Int32.ofNat t) X K KX := by
  have q := w.1
  have h : TR X 2 (zG σ) := w.2.1.1
  have hn := i.cn
  have h0 : inT (Int32.ofNat t) = true := inT_of ht
  simp only [w_X4_readyByVoices, q.t1, q.r1_0, q.t2, e_checkTongue, h0, hty_sI, hln_sI, hR_sI, cnd1, cnd2, b2i_0, b2i_1, b2i_z, if_true, if_false, true_and, and_true, true_implies, false_implies, ne_eq, not_false_eq_true, not_true_eq_false, eq_self, exIA, exIS, exAI, exAS, exSI, exSA, true_or, or_true, false_or, or_false, Nat.reduceEqDiff, Bool.true_and, Bool.and_true, Bool.false_and, Bool.and_false, Bool.true_eq_false, Bool.false_eq_true, i10, i20, i30, vp0, nc0]
  refine s_readyOfAllVoices q h hn ht ?_
  rw [rdAll_eq i.S]
  first | exact k | exact ⟨b_or _, k⟩
theorem q_isRatified_b {a : Int32} {K : Int32 → XH → Prop} {KX : String → XH → Prop} (w : Wd X σ Zz) (h0 : inT a = false) (k : KX xcI X) : w_X4_isRatified 1 a X K KX := by
  have q := w.1
  have h : TR X 2 (zG σ) := w.2.1.1
  simp only [w_X4_isRatified, q.t1, q.r1_0, q.t2, e_checkTongue, h0, hty_sI, hln_sI, hR_sI, cnd1, cnd2, b2i_0, b2i_1, b2i_z, if_true, if_false, true_and, and_true, true_implies, false_implies, ne_eq, not_false_eq_true, not_true_eq_false, eq_self, exIA, exIS, exAI, exAS, exSI, exSA, true_or, or_true, false_or, or_false, Nat.reduceEqDiff, Bool.true_and, Bool.and_true, Bool.false_and, Bool.and_false, Bool.true_eq_false, Bool.false_eq_true, i10, i20, i30, vp0, nc0]
  exact k
theorem q_isRatified {t : Nat} {K : Int32 → XH → Prop} {KX : String → XH → Prop} (w : Wd X σ Zz) (i : Inv (zG σ) n) (ht : t < 3) (k : K (b2i (pRat (zG σ) n t)) X) : w_X4_isRatified 1 (Int32.ofNat t) X K KX := by
  have q := w.1
  have h : TR X 2 (zG σ) := w.2.1.1
  have hn := i.cn
  have h0 : inT (Int32.ofNat t) = true := inT_of ht
  simp only [w_X4_isRatified, q.t1, q.r1_0, q.t2, e_checkTongue, h0, hty_sI, hln_sI, hR_sI, cnd1, cnd2, b2i_0, b2i_1, b2i_z, if_true, if_false, true_and, and_true, true_implies, false_implies, ne_eq, not_false_eq_true, not_true_eq_false, eq_self, exIA, exIS, exAI, exAS, exSI, exSA, true_or, or_true, false_or, or_false, Nat.reduceEqDiff, Bool.true_and, Bool.and_true, Bool.false_and, Bool.and_false, Bool.true_eq_false, Bool.false_eq_true, i10, i20, i30, vp0, nc0]
  refine s_hasRatification q h hn ht ?_
  try simp only [hty_sI, hln_sI, hR_sI, cnd1, cnd2, b2i_0, b2i_1, b2i_z, if_true, if_false, true_and, and_true, true_implies, false_implies, ne_eq, not_false_eq_true, not_true_eq_false, eq_self, exIA, exIS, exAI, exAS, exSI, exSA, true_or, or_true, false_or, or_false, Nat.reduceEqDiff, Bool.true_and, Bool.and_true, Bool.false_and, Bool.and_false, Bool.true_eq_false, Bool.false_eq_true, i10, i20, i30, vp0, nc0]
  first | exact k | exact ⟨b_or _, k⟩
theorem q_misfitsIn_b {a : Int32} {K : Int32 → XH → Prop} {KX : String → XH → Prop} (w : Wd X σ Zz) (h0 : inT a = false) (k : KX xcI X) : w_X4_misfitsIn 1 a X K KX := by
  have q := w.1
  have h : TR X 2 (zG σ) := w.2.1.1
  simp only [w_X4_misfitsIn, q.t1, q.r1_0, q.t2, e_checkTongue, h0, hty_sI, hln_sI, hR_sI, cnd1, cnd2, b2i_0, b2i_1, b2i_z, if_true, if_false, true_and, and_true, true_implies, false_implies, ne_eq, not_false_eq_true, not_true_eq_false, eq_self, exIA, exIS, exAI, exAS, exSI, exSA, true_or, or_true, false_or, or_false, Nat.reduceEqDiff, Bool.true_and, Bool.and_true, Bool.false_and, Bool.and_false, Bool.true_eq_false, Bool.false_eq_true, i10, i20, i30, vp0, nc0]
  exact k
theorem q_misfitsIn {t : Nat} {K : Int32 → XH → Prop} {KX : String → XH → Prop} (w : Wd X σ Zz) (i : Inv (zG σ) n) (ht : t < 3) (k : K (sMis (zG σ) n t) X) : w_X4_misfitsIn 1 (Int32.ofNat t) X K KX := by
  have q := w.1
  have h : TR X 2 (zG σ) := w.2.1.1
  have hn := i.cn
  have h0 : inT (Int32.ofNat t) = true := inT_of ht
  simp only [w_X4_misfitsIn, q.t1, q.r1_0, q.t2, e_checkTongue, h0, hty_sI, hln_sI, hR_sI, cnd1, cnd2, b2i_0, b2i_1, b2i_z, if_true, if_false, true_and, and_true, true_implies, false_implies, ne_eq, not_false_eq_true, not_true_eq_false, eq_self, exIA, exIS, exAI, exAS, exSI, exSA, true_or, or_true, false_or, or_false, Nat.reduceEqDiff, Bool.true_and, Bool.and_true, Bool.false_and, Bool.and_false, Bool.true_eq_false, Bool.false_eq_true, i10, i20, i30, vp0, nc0]
  refine s_misfitTotal q h hn ht ?_
  first | exact k | exact ⟨b_or _, k⟩
theorem q_longestSigh_b {a : Int32} {K : Int32 → XH → Prop} {KX : String → XH → Prop} (w : Wd X σ Zz) (h0 : inC (zG σ 366) a = false) (k : KX xcI X) : w_X4_longestSigh 1 a X K KX := by
  have q := w.1
  have h : TR X 2 (zG σ) := w.2.1.1
  simp only [w_X4_longestSigh, q.t1, q.r1_0, q.t2, e_checkClause q h, h0, hty_sI, hln_sI, hR_sI, cnd1, cnd2, b2i_0, b2i_1, b2i_z, if_true, if_false, true_and, and_true, true_implies, false_implies, ne_eq, not_false_eq_true, not_true_eq_false, eq_self, exIA, exIS, exAI, exAS, exSI, exSA, true_or, or_true, false_or, or_false, Nat.reduceEqDiff, Bool.true_and, Bool.and_true, Bool.false_and, Bool.and_false, Bool.true_eq_false, Bool.false_eq_true, i10, i20, i30, vp0, nc0]
  exact k
theorem q_longestSigh_m {c : Nat} {K : Int32 → XH → Prop} {KX : String → XH → Prop} (w : Wd X σ Zz) (i : Inv (zG σ) n) (hc : c < n) (s1 : gLo (zG σ) c = -1) (k : KX xcS X) : w_X4_longestSigh 1 (Int32.ofNat c) X K KX := by
  have q := w.1
  have h : TR X 2 (zG σ) := w.2.1.1
  have hn := i.cn
  have h0 : inC (zG σ 366) (Int32.ofNat c) = true := inC_of i.cn hc
  have hcn := hc
  replace hc : c < 24 := Nat.lt_of_lt_of_le hc hn.2
  simp only [w_X4_longestSigh, q.t1, q.r1_0, q.t2, e_checkClause q h, h0, hty_sI, hln_sI, hR_sI, cnd1, cnd2, b2i_0, b2i_1, b2i_z, if_true, if_false, true_and, and_true, true_implies, false_implies, ne_eq, not_false_eq_true, not_true_eq_false, eq_self, exIA, exIS, exAI, exAS, exSI, exSA, true_or, or_true, false_or, or_false, Nat.reduceEqDiff, Bool.true_and, Bool.and_true, Bool.false_and, Bool.and_false, Bool.true_eq_false, Bool.false_eq_true, i10, i20, i30, vp0, nc0]
  refine s_longestSighAt q h hc ?_
  simp only [s1, q.t1, q.r1_0, q.t2, hty_sI, hln_sI, hR_sI, cnd1, cnd2, b2i_0, b2i_1, b2i_z, if_true, if_false, true_and, and_true, true_implies, false_implies, ne_eq, not_false_eq_true, not_true_eq_false, eq_self, exIA, exIS, exAI, exAS, exSI, exSA, true_or, or_true, false_or, or_false, Nat.reduceEqDiff, Bool.true_and, Bool.and_true, Bool.false_and, Bool.and_false, Bool.true_eq_false, Bool.false_eq_true, i10, i20, i30, vp0, nc0]
  exact k
theorem q_longestSigh {c : Nat} {K : Int32 → XH → Prop} {KX : String → XH → Prop} (w : Wd X σ Zz) (i : Inv (zG σ) n) (hc : c < n) (s1 : ¬ (gLo (zG σ) c = -1)) (k : K (gLo (zG σ) c) X) : w_X4_longestSigh 1 (Int32.ofNat c) X K KX := by
  have q := w.1
  have h : TR X 2 (zG σ) := w.2.1.1
  have hn := i.cn
  have h0 : inC (zG σ 366) (Int32.ofNat c) = true := inC_of i.cn hc
  have hcn := hc
  replace hc : c < 24 := Nat.lt_of_lt_of_le hc hn.2
  simp only [w_X4_longestSigh, q.t1, q.r1_0, q.t2, e_checkClause q h, h0, hty_sI, hln_sI, hR_sI, cnd1, cnd2, b2i_0, b2i_1, b2i_z, if_true, if_false, true_and, and_true, true_implies, false_implies, ne_eq, not_false_eq_true, not_true_eq_false, eq_self, exIA, exIS, exAI, exAS, exSI, exSA, true_or, or_true, false_or, or_false, Nat.reduceEqDiff, Bool.true_and, Bool.and_true, Bool.false_and, Bool.and_false, Bool.true_eq_false, Bool.false_eq_true, i10, i20, i30, vp0, nc0]
  refine s_longestSighAt q h hc ?_
  simp only [s1, q.t1, q.r1_0, q.t2, hty_sI, hln_sI, hR_sI, cnd1, cnd2, b2i_0, b2i_1, b2i_z, if_true, if_false, true_and, and_true, true_implies, false_implies, ne_eq, not_false_eq_true, not_true_eq_false, eq_self, exIA, exIS, exAI, exAS, exSI, exSA, true_or, or_true, false_or, or_false, Nat.reduceEqDiff, Bool.true_and, Bool.and_true, Bool.false_and, Bool.and_false, Bool.true_eq_false, Bool.false_eq_true, i10, i20, i30, vp0, nc0]
  exact k
theorem q_nextClause_b {a : Int32} {K : Int32 → XH → Prop} {KX : String → XH → Prop} (w : Wd X σ Zz) (h0 : inT a = false) (k : KX xcI X) : w_X4_nextClause 1 a X K KX := by
  have q := w.1
  have h : TR X 2 (zG σ) := w.2.1.1
  simp only [w_X4_nextClause, q.t1, q.r1_0, q.t2, e_checkTongue, h0, hty_sI, hln_sI, hR_sI, cnd1, cnd2, b2i_0, b2i_1, b2i_z, if_true, if_false, true_and, and_true, true_implies, false_implies, ne_eq, not_false_eq_true, not_true_eq_false, eq_self, exIA, exIS, exAI, exAS, exSI, exSA, true_or, or_true, false_or, or_false, Nat.reduceEqDiff, Bool.true_and, Bool.and_true, Bool.false_and, Bool.and_false, Bool.true_eq_false, Bool.false_eq_true, i10, i20, i30, vp0, nc0]
  exact k
theorem q_nextClause_m {t : Nat} {K : Int32 → XH → Prop} {KX : String → XH → Prop} (w : Wd X σ Zz) (i : Inv (zG σ) n) (ht : t < 3) (s1 : encO (nxTo (zG σ) t n) = -1) (k : KX xcS X) : w_X4_nextClause 1 (Int32.ofNat t) X K KX := by
  have q := w.1
  have h : TR X 2 (zG σ) := w.2.1.1
  have hn := i.cn
  have h0 : inT (Int32.ofNat t) = true := inT_of ht
  simp only [w_X4_nextClause, q.t1, q.r1_0, q.t2, e_checkTongue, h0, hty_sI, hln_sI, hR_sI, cnd1, cnd2, b2i_0, b2i_1, b2i_z, if_true, if_false, true_and, and_true, true_implies, false_implies, ne_eq, not_false_eq_true, not_true_eq_false, eq_self, exIA, exIS, exAI, exAS, exSI, exSA, true_or, or_true, false_or, or_false, Nat.reduceEqDiff, Bool.true_and, Bool.and_true, Bool.false_and, Bool.and_false, Bool.true_eq_false, Bool.false_eq_true, i10, i20, i30, vp0, nc0]
  refine s_longestToTake q h hn i.S ht ?_
  simp only [s1, q.t1, q.r1_0, q.t2, hty_sI, hln_sI, hR_sI, cnd1, cnd2, b2i_0, b2i_1, b2i_z, if_true, if_false, true_and, and_true, true_implies, false_implies, ne_eq, not_false_eq_true, not_true_eq_false, eq_self, exIA, exIS, exAI, exAS, exSI, exSA, true_or, or_true, false_or, or_false, Nat.reduceEqDiff, Bool.true_and, Bool.and_true, Bool.false_and, Bool.and_false, Bool.true_eq_false, Bool.false_eq_true, i10, i20, i30, vp0, nc0]
  exact k
theorem q_nextClause {t : Nat} {K : Int32 → XH → Prop} {KX : String → XH → Prop} (w : Wd X σ Zz) (i : Inv (zG σ) n) (ht : t < 3) (s1 : ¬ (encO (nxTo (zG σ) t n) = -1)) (k : K (encO (nxTo (zG σ) t n)) X) : w_X4_nextClause 1 (Int32.ofNat t) X K KX := by
  have q := w.1
  have h : TR X 2 (zG σ) := w.2.1.1
  have hn := i.cn
  have h0 : inT (Int32.ofNat t) = true := inT_of ht
  simp only [w_X4_nextClause, q.t1, q.r1_0, q.t2, e_checkTongue, h0, hty_sI, hln_sI, hR_sI, cnd1, cnd2, b2i_0, b2i_1, b2i_z, if_true, if_false, true_and, and_true, true_implies, false_implies, ne_eq, not_false_eq_true, not_true_eq_false, eq_self, exIA, exIS, exAI, exAS, exSI, exSA, true_or, or_true, false_or, or_false, Nat.reduceEqDiff, Bool.true_and, Bool.and_true, Bool.false_and, Bool.and_false, Bool.true_eq_false, Bool.false_eq_true, i10, i20, i30, vp0, nc0]
  refine s_longestToTake q h hn i.S ht ?_
  simp only [s1, q.t1, q.r1_0, q.t2, hty_sI, hln_sI, hR_sI, cnd1, cnd2, b2i_0, b2i_1, b2i_z, if_true, if_false, true_and, and_true, true_implies, false_implies, ne_eq, not_false_eq_true, not_true_eq_false, eq_self, exIA, exIS, exAI, exAS, exSI, exSA, true_or, or_true, false_or, or_false, Nat.reduceEqDiff, Bool.true_and, Bool.and_true, Bool.false_and, Bool.and_false, Bool.true_eq_false, Bool.false_eq_true, i10, i20, i30, vp0, nc0]
  exact k
theorem q_leastAnnex_b {a b : Int32} {K : Int32 → XH → Prop} {KX : String → XH → Prop} (w : Wd X σ Zz) (h0 : (inC (zG σ 366) a && inT b) = false) (k : KX xcI X) : w_X4_leastAnnex 1 a b X K KX := by
  have q := w.1
  have h : TR X 2 (zG σ) := w.2.1.1
  cases e0 : inC (zG σ 366) a <;> cases e1 : inT b <;> first | (simp only [w_X4_leastAnnex, q.t1, q.r1_0, q.t2, e_checkTranslation q h, e0, e1, hty_sI, hln_sI, hR_sI, cnd1, cnd2, b2i_0, b2i_1, b2i_z, if_true, if_false, true_and, and_true, true_implies, false_implies, ne_eq, not_false_eq_true, not_true_eq_false, eq_self, exIA, exIS, exAI, exAS, exSI, exSA, true_or, or_true, false_or, or_false, Nat.reduceEqDiff, Bool.true_and, Bool.and_true, Bool.false_and, Bool.and_false, Bool.true_eq_false, Bool.false_eq_true, i10, i20, i30, vp0, nc0]; exact k) | (exfalso; rw [e0, e1] at h0; exact absurd h0 (by decide))
theorem q_leastAnnex_s {c t : Nat} {K : Int32 → XH → Prop} {KX : String → XH → Prop} (w : Wd X σ Zz) (i : Inv (zG σ) n) (hc : c < n) (ht : t < 3) (hp : pHas (zG σ) c t = false) (k : KX xcS X) : w_X4_leastAnnex 1 (Int32.ofNat c) (Int32.ofNat t) X K KX := by
  have q := w.1
  have h : TR X 2 (zG σ) := w.2.1.1
  have hn := i.cn
  have h0 : inC (zG σ 366) (Int32.ofNat c) = true := inC_of i.cn hc
  have h1 : inT (Int32.ofNat t) = true := inT_of ht
  have hcn := hc
  replace hc : c < 24 := Nat.lt_of_lt_of_le hc hn.2
  simp only [w_X4_leastAnnex, q.t1, q.r1_0, q.t2, e_checkTranslation q h, e_checkTranslated q h hc ht, e_leastAnnexAt q h hc ht, h0, h1, hp, hty_sI, hln_sI, hR_sI, cnd1, cnd2, b2i_0, b2i_1, b2i_z, if_true, if_false, true_and, and_true, true_implies, false_implies, ne_eq, not_false_eq_true, not_true_eq_false, eq_self, exIA, exIS, exAI, exAS, exSI, exSA, true_or, or_true, false_or, or_false, Nat.reduceEqDiff, Bool.true_and, Bool.and_true, Bool.false_and, Bool.and_false, Bool.true_eq_false, Bool.false_eq_true, i10, i20, i30, vp0, nc0]
  exact k
theorem q_leastAnnex_m {c t : Nat} {K : Int32 → XH → Prop} {KX : String → XH → Prop} (w : Wd X σ Zz) (i : Inv (zG σ) n) (hc : c < n) (ht : t < 3) (hp : pHas (zG σ) c t = true) (s1 : gLA (zG σ) c t = -1) (k : KX xcS X) : w_X4_leastAnnex 1 (Int32.ofNat c) (Int32.ofNat t) X K KX := by
  have q := w.1
  have h : TR X 2 (zG σ) := w.2.1.1
  have hn := i.cn
  have h0 : inC (zG σ 366) (Int32.ofNat c) = true := inC_of i.cn hc
  have h1 : inT (Int32.ofNat t) = true := inT_of ht
  have hcn := hc
  replace hc : c < 24 := Nat.lt_of_lt_of_le hc hn.2
  simp only [w_X4_leastAnnex, q.t1, q.r1_0, q.t2, e_checkTranslation q h, e_checkTranslated q h hc ht, e_leastAnnexAt q h hc ht, h0, h1, hp, hty_sI, hln_sI, hR_sI, cnd1, cnd2, b2i_0, b2i_1, b2i_z, if_true, if_false, true_and, and_true, true_implies, false_implies, ne_eq, not_false_eq_true, not_true_eq_false, eq_self, exIA, exIS, exAI, exAS, exSI, exSA, true_or, or_true, false_or, or_false, Nat.reduceEqDiff, Bool.true_and, Bool.and_true, Bool.false_and, Bool.and_false, Bool.true_eq_false, Bool.false_eq_true, i10, i20, i30, vp0, nc0]
  simp only [s1, q.t1, q.r1_0, q.t2, hty_sI, hln_sI, hR_sI, cnd1, cnd2, b2i_0, b2i_1, b2i_z, if_true, if_false, true_and, and_true, true_implies, false_implies, ne_eq, not_false_eq_true, not_true_eq_false, eq_self, exIA, exIS, exAI, exAS, exSI, exSA, true_or, or_true, false_or, or_false, Nat.reduceEqDiff, Bool.true_and, Bool.and_true, Bool.false_and, Bool.and_false, Bool.true_eq_false, Bool.false_eq_true, i10, i20, i30, vp0, nc0]
  exact k
theorem q_leastAnnex {c t : Nat} {K : Int32 → XH → Prop} {KX : String → XH → Prop} (w : Wd X σ Zz) (i : Inv (zG σ) n) (hc : c < n) (ht : t < 3) (hp : pHas (zG σ) c t = true) (s1 : ¬ (gLA (zG σ) c t = -1)) (k : K (gLA (zG σ) c t) X) : w_X4_leastAnnex 1 (Int32.ofNat c) (Int32.ofNat t) X K KX := by
  have q := w.1
  have h : TR X 2 (zG σ) := w.2.1.1
  have hn := i.cn
  have h0 : inC (zG σ 366) (Int32.ofNat c) = true := inC_of i.cn hc
  have h1 : inT (Int32.ofNat t) = true := inT_of ht
  have hcn := hc
  replace hc : c < 24 := Nat.lt_of_lt_of_le hc hn.2
  simp only [w_X4_leastAnnex, q.t1, q.r1_0, q.t2, e_checkTranslation q h, e_checkTranslated q h hc ht, e_leastAnnexAt q h hc ht, h0, h1, hp, hty_sI, hln_sI, hR_sI, cnd1, cnd2, b2i_0, b2i_1, b2i_z, if_true, if_false, true_and, and_true, true_implies, false_implies, ne_eq, not_false_eq_true, not_true_eq_false, eq_self, exIA, exIS, exAI, exAS, exSI, exSA, true_or, or_true, false_or, or_false, Nat.reduceEqDiff, Bool.true_and, Bool.and_true, Bool.false_and, Bool.and_false, Bool.true_eq_false, Bool.false_eq_true, i10, i20, i30, vp0, nc0]
  simp only [s1, q.t1, q.r1_0, q.t2, hty_sI, hln_sI, hR_sI, cnd1, cnd2, b2i_0, b2i_1, b2i_z, if_true, if_false, true_and, and_true, true_implies, false_implies, ne_eq, not_false_eq_true, not_true_eq_false, eq_self, exIA, exIS, exAI, exAS, exSI, exSA, true_or, or_true, false_or, or_false, Nat.reduceEqDiff, Bool.true_and, Bool.and_true, Bool.false_and, Bool.and_false, Bool.true_eq_false, Bool.false_eq_true, i10, i20, i30, vp0, nc0]
  exact k
theorem q_sessionsByGoing_b {a b : Int32} {K : Int32 → XH → Prop} {KX : String → XH → Prop} (w : Wd X σ Zz) (h0 : (inS a && inT b) = false) (k : KX xcI X) : w_X4_sessionsByGoing 1 a b X K KX := by
  have q := w.1
  have h : TR X 2 (zG σ) := w.2.1.1
  cases e0 : inS a <;> cases e1 : inT b <;> first | (simp only [w_X4_sessionsByGoing, q.t1, q.r1_0, q.t2, e_checkVoice, e0, e1, hty_sI, hln_sI, hR_sI, cnd1, cnd2, b2i_0, b2i_1, b2i_z, if_true, if_false, true_and, and_true, true_implies, false_implies, ne_eq, not_false_eq_true, not_true_eq_false, eq_self, exIA, exIS, exAI, exAS, exSI, exSA, true_or, or_true, false_or, or_false, Nat.reduceEqDiff, Bool.true_and, Bool.and_true, Bool.false_and, Bool.and_false, Bool.true_eq_false, Bool.false_eq_true, i10, i20, i30, vp0, nc0]; exact k) | (exfalso; rw [e0, e1] at h0; exact absurd h0 (by decide))
theorem q_sessionsByGoing_s {s t : Nat} {K : Int32 → XH → Prop} {KX : String → XH → Prop} (w : Wd X σ Zz) (i : Inv (zG σ) n) (hs : s < 5) (ht : t < 3) (hp : pTL (zG σ) n s t = true) (k : ∀ X1, Wd X1 σ Zz → KX xcS X1) : w_X4_sessionsByGoing 1 (Int32.ofNat s) (Int32.ofNat t) X K KX := by
  have q := w.1
  have h : TR X 2 (zG σ) := w.2.1.1
  have hn := i.cn
  have h0 : inS (Int32.ofNat s) = true := inS_of hs
  have h1 : inT (Int32.ofNat t) = true := inT_of ht
  obtain ⟨v1, v2, v3, v4, v5⟩ := i.V hs ht
  have hm : rdM (zG σ) (Int32.ofNat s) t n ≤ 24 := Nat.le_trans (rdM_le _ _ _ _) hn.2
  have hb := rdB_le (a := Int32.ofNat s) i ht n (Nat.le_refl n)
  have hT : anyTo (fun k => !(decide (rdB (zG σ) (Int32.ofNat s) t n k ≤ gSA (zG σ) s t))) (rdM (zG σ) (Int32.ofNat s) t n) = true := hp
  simp only [w_X4_sessionsByGoing, w_X4_checkPlan, q.t1, q.r1_0, q.r1_5, q.t2, q.t120, e_checkVoice, h0, h1, hty_sI, hln_sI, hR_sI, cnd1, cnd2, b2i_0, b2i_1, b2i_z, if_true, if_false, true_and, and_true, true_implies, false_implies, ne_eq, not_false_eq_true, not_true_eq_false, eq_self, exIA, exIS, exAI, exAS, exSI, exSA, true_or, or_true, false_or, or_false, Nat.reduceEqDiff, Bool.true_and, Bool.and_true, Bool.false_and, Bool.and_false, Bool.true_eq_false, Bool.false_eq_true, i10, i20, i30, vp0, nc0]
  refine s_fillPlan q h i hs ht (fun X1 a p => ?_)
  have q2 := a.shp q
  simp only [q2.t1, q2.r1_5, q2.t120, hty_sI, hln_sI, hR_sI, cnd1, cnd2, b2i_0, b2i_1, b2i_z, if_true, if_false, true_and, and_true, true_implies, false_implies, ne_eq, not_false_eq_true, not_true_eq_false, eq_self, exIA, exIS, exAI, exAS, exSI, exSA, true_or, or_true, false_or, or_false, Nat.reduceEqDiff, Bool.true_and, Bool.and_true, Bool.false_and, Bool.and_false, Bool.true_eq_false, Bool.false_eq_true, i10, i20, i30, vp0, nc0]
  refine s_hasTooLong q2 p hm hb v3 ?_
  simp only [hT, q2.t1, q2.r1_5, q2.t120, hty_sI, hln_sI, hR_sI, cnd1, cnd2, b2i_0, b2i_1, b2i_z, if_true, if_false, true_and, and_true, true_implies, false_implies, ne_eq, not_false_eq_true, not_true_eq_false, eq_self, exIA, exIS, exAI, exAS, exSI, exSA, true_or, or_true, false_or, or_false, Nat.reduceEqDiff, Bool.true_and, Bool.and_true, Bool.false_and, Bool.and_false, Bool.true_eq_false, Bool.false_eq_true, i10, i20, i30, vp0, nc0]
  exact k _ (w.pl (a.fr q))
theorem q_sessionsByGoing {s t : Nat} {K : Int32 → XH → Prop} {KX : String → XH → Prop} (w : Wd X σ Zz) (i : Inv (zG σ) n) (hs : s < 5) (ht : t < 3) (hp : pTL (zG σ) n s t = false) (k : ∀ X1, Wd X1 σ Zz → K (gGo (zG σ) n s t) X1) : w_X4_sessionsByGoing 1 (Int32.ofNat s) (Int32.ofNat t) X K KX := by
  have q := w.1
  have h : TR X 2 (zG σ) := w.2.1.1
  have hn := i.cn
  have h0 : inS (Int32.ofNat s) = true := inS_of hs
  have h1 : inT (Int32.ofNat t) = true := inT_of ht
  obtain ⟨v1, v2, v3, v4, v5⟩ := i.V hs ht
  have hm : rdM (zG σ) (Int32.ofNat s) t n ≤ 24 := Nat.le_trans (rdM_le _ _ _ _) hn.2
  have hb := rdB_le (a := Int32.ofNat s) i ht n (Nat.le_refl n)
  have hT : anyTo (fun k => !(decide (rdB (zG σ) (Int32.ofNat s) t n k ≤ gSA (zG σ) s t))) (rdM (zG σ) (Int32.ofNat s) t n) = false := hp
  simp only [w_X4_sessionsByGoing, w_X4_checkPlan, q.t1, q.r1_0, q.r1_5, q.t2, q.t120, e_checkVoice, h0, h1, hty_sI, hln_sI, hR_sI, cnd1, cnd2, b2i_0, b2i_1, b2i_z, if_true, if_false, true_and, and_true, true_implies, false_implies, ne_eq, not_false_eq_true, not_true_eq_false, eq_self, exIA, exIS, exAI, exAS, exSI, exSA, true_or, or_true, false_or, or_false, Nat.reduceEqDiff, Bool.true_and, Bool.and_true, Bool.false_and, Bool.and_false, Bool.true_eq_false, Bool.false_eq_true, i10, i20, i30, vp0, nc0]
  refine s_fillPlan q h i hs ht (fun X1 a p => ?_)
  have q2 := a.shp q
  simp only [q2.t1, q2.r1_5, q2.t120, hty_sI, hln_sI, hR_sI, cnd1, cnd2, b2i_0, b2i_1, b2i_z, if_true, if_false, true_and, and_true, true_implies, false_implies, ne_eq, not_false_eq_true, not_true_eq_false, eq_self, exIA, exIS, exAI, exAS, exSI, exSA, true_or, or_true, false_or, or_false, Nat.reduceEqDiff, Bool.true_and, Bool.and_true, Bool.false_and, Bool.and_false, Bool.true_eq_false, Bool.false_eq_true, i10, i20, i30, vp0, nc0]
  refine s_hasTooLong q2 p hm hb v3 ?_
  simp only [hT, q2.t1, q2.r1_5, q2.t120, hty_sI, hln_sI, hR_sI, cnd1, cnd2, b2i_0, b2i_1, b2i_z, if_true, if_false, true_and, and_true, true_implies, false_implies, ne_eq, not_false_eq_true, not_true_eq_false, eq_self, exIA, exIS, exAI, exAS, exSI, exSA, true_or, or_true, false_or, or_false, Nat.reduceEqDiff, Bool.true_and, Bool.and_true, Bool.false_and, Bool.and_false, Bool.true_eq_false, Bool.false_eq_true, i10, i20, i30, vp0, nc0]
  exact s_goThrough q2 p hm (pTL_b hp) v3 v4 (k _ (w.pl (a.fr q)))
theorem q_sessionsByTable_b {a b : Int32} {K : Int32 → XH → Prop} {KX : String → XH → Prop} (w : Wd X σ Zz) (h0 : (inS a && inT b) = false) (k : KX xcI X) : w_X4_sessionsByTable 1 a b X K KX := by
  have q := w.1
  have h : TR X 2 (zG σ) := w.2.1.1
  cases e0 : inS a <;> cases e1 : inT b <;> first | (simp only [w_X4_sessionsByTable, q.t1, q.r1_0, q.t2, e_checkVoice, e0, e1, hty_sI, hln_sI, hR_sI, cnd1, cnd2, b2i_0, b2i_1, b2i_z, if_true, if_false, true_and, and_true, true_implies, false_implies, ne_eq, not_false_eq_true, not_true_eq_false, eq_self, exIA, exIS, exAI, exAS, exSI, exSA, true_or, or_true, false_or, or_false, Nat.reduceEqDiff, Bool.true_and, Bool.and_true, Bool.false_and, Bool.and_false, Bool.true_eq_false, Bool.false_eq_true, i10, i20, i30, vp0, nc0]; exact k) | (exfalso; rw [e0, e1] at h0; exact absurd h0 (by decide))
theorem q_sessionsByTable_s {s t : Nat} {K : Int32 → XH → Prop} {KX : String → XH → Prop} (w : Wd X σ Zz) (i : Inv (zG σ) n) (hs : s < 5) (ht : t < 3) (hp : pTL (zG σ) n s t = true) (k : ∀ X1, Wd X1 σ Zz → KX xcS X1) : w_X4_sessionsByTable 1 (Int32.ofNat s) (Int32.ofNat t) X K KX := by
  have q := w.1
  have h : TR X 2 (zG σ) := w.2.1.1
  have hn := i.cn
  have h0 : inS (Int32.ofNat s) = true := inS_of hs
  have h1 : inT (Int32.ofNat t) = true := inT_of ht
  obtain ⟨v1, v2, v3, v4, v5⟩ := i.V hs ht
  have hm : rdM (zG σ) (Int32.ofNat s) t n ≤ 24 := Nat.le_trans (rdM_le _ _ _ _) hn.2
  have hb := rdB_le (a := Int32.ofNat s) i ht n (Nat.le_refl n)
  have hT : anyTo (fun k => !(decide (rdB (zG σ) (Int32.ofNat s) t n k ≤ gSA (zG σ) s t))) (rdM (zG σ) (Int32.ofNat s) t n) = true := hp
  simp only [w_X4_sessionsByTable, w_X4_checkPlan, q.t1, q.r1_0, q.r1_5, q.t2, q.t120, e_checkVoice, h0, h1, hty_sI, hln_sI, hR_sI, cnd1, cnd2, b2i_0, b2i_1, b2i_z, if_true, if_false, true_and, and_true, true_implies, false_implies, ne_eq, not_false_eq_true, not_true_eq_false, eq_self, exIA, exIS, exAI, exAS, exSI, exSA, true_or, or_true, false_or, or_false, Nat.reduceEqDiff, Bool.true_and, Bool.and_true, Bool.false_and, Bool.and_false, Bool.true_eq_false, Bool.false_eq_true, i10, i20, i30, vp0, nc0]
  refine s_fillPlan q h i hs ht (fun X1 a p => ?_)
  have q2 := a.shp q
  simp only [q2.t1, q2.r1_5, q2.t120, hty_sI, hln_sI, hR_sI, cnd1, cnd2, b2i_0, b2i_1, b2i_z, if_true, if_false, true_and, and_true, true_implies, false_implies, ne_eq, not_false_eq_true, not_true_eq_false, eq_self, exIA, exIS, exAI, exAS, exSI, exSA, true_or, or_true, false_or, or_false, Nat.reduceEqDiff, Bool.true_and, Bool.and_true, Bool.false_and, Bool.and_false, Bool.true_eq_false, Bool.false_eq_true, i10, i20, i30, vp0, nc0]
  refine s_hasTooLong q2 p hm hb v3 ?_
  simp only [hT, q2.t1, q2.r1_5, q2.t120, hty_sI, hln_sI, hR_sI, cnd1, cnd2, b2i_0, b2i_1, b2i_z, if_true, if_false, true_and, and_true, true_implies, false_implies, ne_eq, not_false_eq_true, not_true_eq_false, eq_self, exIA, exIS, exAI, exAS, exSI, exSA, true_or, or_true, false_or, or_false, Nat.reduceEqDiff, Bool.true_and, Bool.and_true, Bool.false_and, Bool.and_false, Bool.true_eq_false, Bool.false_eq_true, i10, i20, i30, vp0, nc0]
  exact k _ (w.pl (a.fr q))
theorem q_sessionsByTable {s t : Nat} {K : Int32 → XH → Prop} {KX : String → XH → Prop} (w : Wd X σ Zz) (i : Inv (zG σ) n) (hs : s < 5) (ht : t < 3) (hp : pTL (zG σ) n s t = false) (k : ∀ X1, Wd X1 σ Zz → K (gGo (zG σ) n s t) X1) : w_X4_sessionsByTable 1 (Int32.ofNat s) (Int32.ofNat t) X K KX := by
  have q := w.1
  have h : TR X 2 (zG σ) := w.2.1.1
  have hn := i.cn
  have h0 : inS (Int32.ofNat s) = true := inS_of hs
  have h1 : inT (Int32.ofNat t) = true := inT_of ht
  obtain ⟨v1, v2, v3, v4, v5⟩ := i.V hs ht
  have hm : rdM (zG σ) (Int32.ofNat s) t n ≤ 24 := Nat.le_trans (rdM_le _ _ _ _) hn.2
  have hb := rdB_le (a := Int32.ofNat s) i ht n (Nat.le_refl n)
  have hT : anyTo (fun k => !(decide (rdB (zG σ) (Int32.ofNat s) t n k ≤ gSA (zG σ) s t))) (rdM (zG σ) (Int32.ofNat s) t n) = false := hp
  simp only [w_X4_sessionsByTable, w_X4_checkPlan, q.t1, q.r1_0, q.r1_5, q.t2, q.t120, e_checkVoice, h0, h1, hty_sI, hln_sI, hR_sI, cnd1, cnd2, b2i_0, b2i_1, b2i_z, if_true, if_false, true_and, and_true, true_implies, false_implies, ne_eq, not_false_eq_true, not_true_eq_false, eq_self, exIA, exIS, exAI, exAS, exSI, exSA, true_or, or_true, false_or, or_false, Nat.reduceEqDiff, Bool.true_and, Bool.and_true, Bool.false_and, Bool.and_false, Bool.true_eq_false, Bool.false_eq_true, i10, i20, i30, vp0, nc0]
  refine s_fillPlan q h i hs ht (fun X1 a p => ?_)
  have q2 := a.shp q
  simp only [q2.t1, q2.r1_5, q2.t120, hty_sI, hln_sI, hR_sI, cnd1, cnd2, b2i_0, b2i_1, b2i_z, if_true, if_false, true_and, and_true, true_implies, false_implies, ne_eq, not_false_eq_true, not_true_eq_false, eq_self, exIA, exIS, exAI, exAS, exSI, exSA, true_or, or_true, false_or, or_false, Nat.reduceEqDiff, Bool.true_and, Bool.and_true, Bool.false_and, Bool.and_false, Bool.true_eq_false, Bool.false_eq_true, i10, i20, i30, vp0, nc0]
  refine s_hasTooLong q2 p hm hb v3 ?_
  simp only [hT, q2.t1, q2.r1_5, q2.t120, hty_sI, hln_sI, hR_sI, cnd1, cnd2, b2i_0, b2i_1, b2i_z, if_true, if_false, true_and, and_true, true_implies, false_implies, ne_eq, not_false_eq_true, not_true_eq_false, eq_self, exIA, exIS, exAI, exAS, exSI, exSA, true_or, or_true, false_or, or_false, Nat.reduceEqDiff, Bool.true_and, Bool.and_true, Bool.false_and, Bool.and_false, Bool.true_eq_false, Bool.false_eq_true, i10, i20, i30, vp0, nc0]
  exact s_fillTable q2 p hm (pTL_b hp) v3 v4 (fun X2 a2 => k _ ((w.pl (a.fr q)).pl (a2.fr q2)))
end PQ2
