/-! the world: what an operation leaves as it was; copies of treaties; the saved ones -/
section PJ
def BL : List Nat := [2, 16, 28, 40, 52, 64, 76, 89, 101]
theorem BL_tab : ∀ b ∈ BL, tyL.getD b 0 = 3 ∧ b ≤ 122 ∧ ∀ j, j < 12 → 0 < j → tyL.getD (b + j) 0 = 100 ∧ lnL.getD (b + j) 0 = lenT j ∧ (rfL.getD b []).getD j 0 = b + j ∧ b + j ≤ 122 := by decide +kernel
theorem BL_ap : ∀ b ∈ BL, ∀ b' ∈ BL, b ≠ b' → b + 12 ≤ b' ∨ b' + 12 ≤ b := by decide
theorem Shp.bt {X : XH} {b : Nat} (q : Shp X) (hb : b ∈ BL) : hty X b = 3 := (q.2.1 b (BL_tab b hb).2.1).trans (BL_tab b hb).1
theorem Shp.br {X : XH} {b j : Nat} (q : Shp X) (hb : b ∈ BL) (hj : j < 12) (h0 : 0 < j) : hR X b j = b + j := by
  obtain ⟨h1, h2, h3, h4⟩ := (BL_tab b hb).2.2 j hj h0
  refine (q.2.2.2 b j ?_).trans h3
  unfold rfO
  rw [h3]
  simp
  omega
theorem Shp.bz {X : XH} {b j : Nat} (q : Shp X) (hb : b ∈ BL) (hj : j < 12) (h0 : 0 < j) : hR X b j ≠ 0 := by
  rw [q.br hb hj h0]
  omega
theorem Shp.ba {X : XH} {b j : Nat} (q : Shp X) (hb : b ∈ BL) (hj : j < 12) (h0 : 0 < j) : hty X (b + j) = 100 ∧ hln X (b + j) = lenT j := by
  obtain ⟨h1, h2, h3, h4⟩ := (BL_tab b hb).2.2 j hj h0
  exact ⟨(q.2.1 _ h4).trans h1, (q.2.2.1 _ h4).trans h2⟩
theorem copy_eq {X : XH} {a1 a2 n : Nat} {K : XH → Prop} (t1 : hty X a1 = 100) (t2 : hty X a2 = 100) (l1 : hln X a1 = n) (l2 : hln X a2 = n) (hn : n < 4096) : w_X4_copyRow a1 a2 X K = K (sIr X a2 (va_cpy (hI X a1) (hI X a2) 0 0 n)) := by
  unfold w_X4_copyRow
  simp only [t1, t2, l1, l2, ite_self, of_nn hn, nc hn, not_false_eq_true, true_and, show (0 : Int32).toNatClampNeg = 0 from rfl, Nat.zero_add, Nat.le_refl, show (100 ≤ 100) = True from eq_true (Nat.le_refl 100)]
theorem sIr_ne {X : XH} {a b : Nat} {f : Nat → Int32} (h : b ≠ a) : hI (sIr X a f) b = hI X b := up1_ne h
theorem sIr_at {X : XH} {a : Nat} {f : Nat → Int32} : hI (sIr X a f) a = f := up1_eq _ _ _
theorem Ag.sIr {D : Nat → Bool} {X X1 : XH} {a : Nat} {f : Nat → Int32} (h : Ag D X X1) (hd : D a = true) : Ag D X (sIr X1 a f) := by
  obtain ⟨h1, h2, h3, h4, h5, h6, h7⟩ := h
  refine ⟨h1, h2, h3, h4, h5, h6, fun b hb => ?_⟩
  rw [sIr_ne (fun e => by rw [e, hd] at hb; cases hb)]
  exact h7 b hb
def dB (b a : Nat) : Bool := decide (b ≤ a) && decide (a < b + 12)
theorem dB_in {b j : Nat} (hj : j < 12) : dB b (b + j) = true := by
  unfold dB
  simp
  omega
theorem dB_out {b b' j : Nat} (hb : b ∈ BL) (hb' : b' ∈ BL) (ne : b ≠ b') (hj : j < 12) : dB b (b' + j) = false := by
  unfold dB
  rcases BL_ap b hb b' hb' ne with h | h
  · have : ¬ (b' + j < b + 12) := by omega
    simp [this]
  · have : ¬ (b ≤ b' + j) := by omega
    simp [this]
def Cpd (X X1 : XH) (b b' j : Nat) : Prop := Ag (dB b) X X1 ∧ hI X1 b 0 = hI X b' 0 ∧ ∀ i, 0 < i → i ≤ j → ∀ k, k < lenT i → hI X1 (b + i) k = hI X (b' + i) k
theorem lenT_lt : ∀ j, j < 12 → lenT j < 4096 := by decide
theorem cp_step {X X1 : XH} {b b' : Nat} (j : Nat) {K : XH → Prop} (q : Shp X) (hb : b ∈ BL) (hb' : b' ∈ BL) (ne : b ≠ b') (hj : j + 1 < 12) (c : Cpd X X1 b b' j) (k : ∀ X2, Cpd X X2 b b' (j + 1) → K X2) : w_X4_copyRow (hR X1 b' (j + 1)) (hR X1 b (j + 1)) X1 K := by
  obtain ⟨a, c0, c1⟩ := c
  have q1 := a.shp q
  obtain ⟨t1, l1⟩ := q1.ba hb' hj (by omega)
  obtain ⟨t2, l2⟩ := q1.ba hb hj (by omega)
  rw [q1.br hb' hj (by omega), q1.br hb hj (by omega), copy_eq t1 t2 l1 l2 (lenT_lt _ hj)]
  refine k _ ⟨a.sIr (dB_in hj), ?_, fun i h0 hi kk hk => ?_⟩
  · rw [sIr_ne (by omega)]
    exact c0
  · by_cases h : i = j + 1
    · subst h
      rw [sIr_at]
      unfold va_cpy
      rw [if_pos (by omega), a.2.2.2.2.2.2 _ (dB_out hb hb' ne hj), Nat.zero_add, Nat.sub_zero]
    · rw [sIr_ne (by omega)]
      exact c1 i h0 (by omega) kk hk
theorem okT_0 : ∀ k, k < 72 → okT 0 k = true → k = 0 ∨ k = 12 ∨ k = 13 ∨ k = 14 ∨ k = 15 := by decide +kernel
theorem okT_len {j k : Nat} (h : okT j k = true) : k < lenT j := by
  unfold okT at h
  simp only [Bool.and_eq_true, decide_eq_true_eq] at h
  exact h.1
theorem s_becomeLike {X : XH} {b b' : Nat} {g : Row} {K : XH → Prop} (q : Shp X) (hb : b ∈ BL) (hb' : b' ∈ BL) (ne : b ≠ b') (h : TR X b' g) (k : ∀ X1, Ag (dB b) X X1 → TR X1 b g → K X1) : w_X3_becomeLike b b' X K := by
  have h0 : Cpd X (sI X b 0 (hI X b' 0)) b b' 0 := ⟨Ag.rf.sI (by unfold dB; simp), sI_at, fun i h0 hi => by omega⟩
  have ne' : b' ≠ b := fun e => ne e.symm
  unfold w_X3_becomeLike
  refine ⟨q.bt hb', q.bt hb, q.bz hb' (by decide) (by decide), q.bz hb (by decide) (by decide), cp_step 0 q hb hb' ne (by decide) h0 (fun X1 c1 => ?_)⟩
  have q1 := c1.1.shp q
  refine ⟨q1.bt hb', q1.bz hb' (by decide) (by decide), q1.bt hb, q1.bz hb (by decide) (by decide), cp_step 1 q hb hb' ne (by decide) c1 (fun X2 c2 => ?_)⟩
  have q2 := c2.1.shp q
  refine ⟨q2.bt hb', q2.bz hb' (by decide) (by decide), q2.bt hb, q2.bz hb (by decide) (by decide), cp_step 2 q hb hb' ne (by decide) c2 (fun X3 c3 => ?_)⟩
  have q3 := c3.1.shp q
  refine ⟨q3.bt hb', q3.bz hb' (by decide) (by decide), q3.bt hb, q3.bz hb (by decide) (by decide), cp_step 3 q hb hb' ne (by decide) c3 (fun X4 c4 => ?_)⟩
  have q4 := c4.1.shp q
  refine ⟨q4.bt hb', q4.bz hb' (by decide) (by decide), q4.bt hb, q4.bz hb (by decide) (by decide), cp_step 4 q hb hb' ne (by decide) c4 (fun X5 c5 => ?_)⟩
  have q5 := c5.1.shp q
  refine ⟨q5.bt hb', q5.bz hb' (by decide) (by decide), q5.bt hb, q5.bz hb (by decide) (by decide), cp_step 5 q hb hb' ne (by decide) c5 (fun X6 c6 => ?_)⟩
  have q6 := c6.1.shp q
  refine ⟨q6.bt hb', q6.bz hb' (by decide) (by decide), q6.bt hb, q6.bz hb (by decide) (by decide), cp_step 6 q hb hb' ne (by decide) c6 (fun X7 c7 => ?_)⟩
  have q7 := c7.1.shp q
  refine ⟨q7.bt hb', q7.bz hb' (by decide) (by decide), q7.bt hb, q7.bz hb (by decide) (by decide), cp_step 7 q hb hb' ne (by decide) c7 (fun X8 c8 => ?_)⟩
  have q8 := c8.1.shp q
  refine ⟨q8.bt hb', q8.bz hb' (by decide) (by decide), q8.bt hb, q8.bz hb (by decide) (by decide), cp_step 8 q hb hb' ne (by decide) c8 (fun X9 c9 => ?_)⟩
  have q9 := c9.1.shp q
  refine ⟨q9.bt hb', q9.bz hb' (by decide) (by decide), q9.bt hb, q9.bz hb (by decide) (by decide), cp_step 9 q hb hb' ne (by decide) c9 (fun X10 c10 => ?_)⟩
  have q10 := c10.1.shp q
  refine ⟨q10.bt hb', q10.bz hb' (by decide) (by decide), q10.bt hb, q10.bz hb (by decide) (by decide), cp_step 10 q hb hb' ne (by decide) c10 (fun X11 c11 => ?_)⟩
  have q11 := c11.1.shp q
  obtain ⟨a, cc0, cc1⟩ := c11
  clear c1 c2 c3 c4 c5 c6 c7 c8 c9 c10
  have e : ∀ i, hI X11 b' i = hI X b' i := fun i => by rw [a.2.2.2.2.2.2 b' (by have := dB_out hb hb' ne (j := 0) (by decide); exact this)]
  refine ⟨q11.bt hb', q11.bt hb, k _ ((((a.sI ?_).sI ?_).sI ?_).sI ?_) ?_⟩
  · exact dB_in (j := 0) (by decide)
  · exact dB_in (j := 0) (by decide)
  · exact dB_in (j := 0) (by decide)
  · exact dB_in (j := 0) (by decide)
  · intro j i hj
    by_cases hj0 : j = 0
    · subst hj0
      rw [← h 0 i hj]
      show hI _ b i = hI X b' i
      rcases okT_0 i (okT_j hj).2 hj with rfl | rfl | rfl | rfl | rfl
      · rw [sI_nk (by decide), sI_nk (by decide), sI_nk (by decide), sI_nk (by decide)]
        exact cc0
      · rw [sI_nk (by decide), sI_nk (by decide), sI_nk (by decide), sI_at]
        exact e 12
      · rw [sI_nk (by decide), sI_nk (by decide), sI_at, sI_ne ne']
        exact e 13
      · rw [sI_nk (by decide), sI_at, sI_ne ne', sI_ne ne']
        exact e 14
      · rw [sI_at, sI_ne ne', sI_ne ne', sI_ne ne']
        exact e 15
    · rw [sI_ne (by omega), sI_ne (by omega), sI_ne (by omega), sI_ne (by omega), cc1 j (by omega) (by have := (okT_j hj).1; omega) i (okT_len hj)]
      exact h j i hj
end PJ
section PJ2
/-- what is outside D is as it was -/
def Fr (D : Nat → Bool) (X X1 : XH) : Prop := Shp X1 ∧ (hz X1, hty X1, hln X1) = (hz X, hty X, hln X) ∧ (hL X1, hDd X1) = (hL X, hDd X) ∧ ∀ a, D a = false → hI X1 a = hI X a ∧ hR X1 a = hR X a
theorem Ag.fr {D : Nat → Bool} {X X1 : XH} (h : Ag D X X1) (q : Shp X) : Fr D X X1 := ⟨h.shp q, by rw [h.1, h.2.1, h.2.2.1], by rw [h.2.2.2.2.1, h.2.2.2.2.2.1], fun a ha => ⟨h.2.2.2.2.2.2 a ha, by rw [h.2.2.2.1]⟩⟩
theorem Fr.tr {D : Nat → Bool} {X X1 X2 : XH} (h : Fr D X X1) (h' : Fr D X1 X2) : Fr D X X2 := ⟨h'.1, h'.2.1.trans h.2.1, h'.2.2.1.trans h.2.2.1, fun a ha => ⟨(h'.2.2.2 a ha).1.trans (h.2.2.2 a ha).1, (h'.2.2.2 a ha).2.trans (h.2.2.2 a ha).2⟩⟩
theorem Fr.wk {D D' : Nat → Bool} {X X1 : XH} (h : Fr D X X1) (hd : ∀ a, D' a = false → D a = false) : Fr D' X X1 := ⟨h.1, h.2.1, h.2.2.1, fun a ha => h.2.2.2 a (hd a ha)⟩
def dRg (lo hi a : Nat) : Bool := decide (lo ≤ a) && decide (a ≤ hi)
theorem dRg_o {lo hi a : Nat} (h : a < lo ∨ hi < a) : dRg lo hi a = false := by
  unfold dRg
  rcases h with h | h
  · have : ¬ lo ≤ a := by omega
    simp [this]
  · have : ¬ a ≤ hi := by omega
    simp [this]
theorem dRg_f {lo hi a : Nat} (h : dRg lo hi a = false) : a < lo ∨ hi < a := by
  unfold dRg at h
  simp only [Bool.and_eq_false_iff, decide_eq_false_iff_not] at h
  omega
variable {X X1 Y : XH} {c : St} {lo hi : Nat}
theorem TR.fr {D : Nat → Bool} {b : Nat} {g : Row} (f : Fr D X X1) (hd : ∀ j, j < 12 → D (b + j) = false) (k : TR X b g) : TR X1 b g := fun j i hj => by
  rw [(f.2.2.2 _ (hd j (okT_j hj).1)).1]
  exact k j i hj
theorem HS.fr {h : Nat} {p : Nat → Row} {D : Nat → Bool} (f : Fr D X X1) (hd : ∀ a, 14 ≤ a → a ≤ 87 → D a = false) (k : HS X h p) : HS X1 h p := by
  obtain ⟨h1, h2, ρ, h3, h4, h5⟩ := k
  refine ⟨by rw [(f.2.2.2 14 (hd 14 (by decide) (by decide))).1]; exact h1, h2, ρ, fun k hk => ?_, h4, fun k hk => TR.fr f (fun j hj => hd _ (by omega) ?_) (h5 k hk)⟩
  · rw [(f.2.2.2 15 (hd 15 (by decide) (by decide))).2]
    exact h3 k hk
  · have := (h3 k (by omega)).2
    omega
theorem SS.fr {kp : Row} {sl : Nat → Row} {D : Nat → Bool} (f : Fr D X X1) (hd : ∀ a, 88 ≤ a → a ≤ 113 → D a = false) (k : SS X kp sl) : SS X1 kp sl := fun i hi => by
  obtain ⟨h1, h2, h3⟩ := k i hi
  refine ⟨by rw [(f.2.2.2 113 (hd 113 (by decide) (by decide))).1]; exact h1, h2, fun h => TR.fr f (fun j hj => hd _ (by omega) (by omega)) (h3 h)⟩
theorem TS.fr {n : Nat} {tx : Row} {D : Nat → Bool} (f : Fr D X X1) (hd : ∀ a, 114 ≤ a → a ≤ 115 → D a = false) (k : TS X n tx) : TS X1 n tx := by
  unfold TS
  rw [(f.2.2.2 114 (hd 114 (by decide) (by decide))).1, (f.2.2.2 115 (hd 115 (by decide) (by decide))).1]
  exact k
theorem Rst.fr {D : Nat → Bool} (r : Rst X Y) (f : Fr D X X1) (hd : ∀ a, (a = 0 ∨ 122 < a) → D a = false) : Rst X1 Y := ⟨f.2.1.trans r.1, f.2.2.1.trans r.2.1, fun a ha => ⟨(f.2.2.2 a (hd a ha)).1.trans (r.2.2 a ha).1, (f.2.2.2 a (hd a ha)).2.trans (r.2.2 a ha).2⟩⟩
theorem Wd.now {g : Row} (w : Wd X c Y) (f : Fr (dRg 2 13) X X1) (k : TR X1 2 g) : Wd X1 (g, c.2) Y := by
  obtain ⟨q, ⟨h1, h2, h3, h4⟩, h5⟩ := w
  exact ⟨f.1, ⟨k, h2.fr f fun a h h' => dRg_o (by omega), h3.fr f fun a h h' => dRg_o (by omega), h4.fr f fun a h h' => dRg_o (by omega)⟩, h5.fr f fun a ha => dRg_o (by omega)⟩
theorem Wd.his {h : Nat} {p : Nat → Row} (w : Wd X c Y) (f : Fr (dRg 14 87) X X1) (k : HS X1 h p) : Wd X1 (c.1, h, p, c.2.2.2) Y := by
  obtain ⟨q, ⟨h1, h2, h3, h4⟩, h5⟩ := w
  exact ⟨f.1, ⟨h1.fr f fun j hj => dRg_o (by omega), k, h3.fr f fun a h h' => dRg_o (by omega), h4.fr f fun a h h' => dRg_o (by omega)⟩, h5.fr f fun a ha => dRg_o (by omega)⟩
theorem Wd.slo {kp : Row} {sl : Nat → Row} (w : Wd X c Y) (f : Fr (dRg 88 113) X X1) (k : SS X1 kp sl) : Wd X1 (c.1, c.2.1, c.2.2.1, kp, sl, c.2.2.2.2.2) Y := by
  obtain ⟨q, ⟨h1, h2, h3, h4⟩, h5⟩ := w
  exact ⟨f.1, ⟨h1.fr f fun j hj => dRg_o (by omega), h2.fr f fun a h h' => dRg_o (by omega), k, h4.fr f fun a h h' => dRg_o (by omega)⟩, h5.fr f fun a ha => dRg_o (by omega)⟩
theorem Wd.txt {n : Nat} {tx : Row} (w : Wd X c Y) (f : Fr (dRg 114 119) X X1) (k : TS X1 n tx) : Wd X1 (c.1, c.2.1, c.2.2.1, c.2.2.2.1, c.2.2.2.2.1, n, tx) Y := by
  obtain ⟨q, ⟨h1, h2, h3, h4⟩, h5⟩ := w
  exact ⟨f.1, ⟨h1.fr f fun j hj => dRg_o (by omega), h2.fr f fun a h h' => dRg_o (by omega), h3.fr f fun a h h' => dRg_o (by omega), k⟩, h5.fr f fun a ha => dRg_o (by omega)⟩
theorem Wd.pl (w : Wd X c Y) (f : Fr dPl X X1) : Wd X1 c Y := by
  obtain ⟨q, ⟨h1, h2, h3, h4⟩, h5⟩ := w
  have hd : ∀ a, a < 120 ∨ 122 < a → dPl a = false := fun a ha => dRg_o (lo := 120) (hi := 122) ha
  exact ⟨f.1, ⟨h1.fr f fun j hj => hd _ (by omega), h2.fr f fun a h h' => hd _ (by omega), h3.fr f fun a h h' => hd _ (by omega), h4.fr f fun a h h' => hd _ (by omega)⟩, h5.fr f fun a ha => hd _ (by omega)⟩
end PJ2
section PJ3
variable {X X1 Y : XH} {c : St}
def pushS (c : St) : St := (c.1, if c.2.1 < 6 then c.2.1 + 1 else 6, if c.2.1 < 6 then (fun j => if j = c.2.1 then c.1 else c.2.2.1 j) else (fun j => if j = 5 then c.1 else c.2.2.1 (j + 1)), c.2.2.2)
theorem tAt_eq {k : Nat} {K : Nat → XH → Prop} (q : Shp X) (hk : k < 6) (hne : hR X 15 k ≠ 0) : w_X4_treatyAt 15 (Int32.ofNat k) X K = K (hR X 15 k) X := by
  unfold w_X4_treatyAt
  simp only [q.t15, q.n15, of_nn (show k < 4096 by omega), of_le (show 6 < 4096 by decide) (show k < 4096 by omega), vp_of hk (show 6 < 4096 by decide), nc (show k < 4096 by omega), le_f hk, hne, ne_eq, not_false_eq_true, true_and, false_implies, true_implies, show (100 ≤ 107) = True from by decide, show (107 = 104 + 3) = True from by decide]
theorem BL_h : ∀ r, r < 6 → 16 + 12 * r ∈ BL := by decide
theorem s_push16 {h : Nat} {p : Nat → Row} {g : Row} {K : XH → Prop} (q : Shp X) (hg : TR X 2 g) (hh : HS X h p) (h6 : h < 6) (k : ∀ X1, Fr (dRg 14 87) X X1 → HS X1 (h + 1) (fun j => if j = h then g else p j) → K X1) : w_X1_push_16 14 2 X K := by
  obtain ⟨h1, h2, ρ, h3, h4, h5⟩ := hh
  obtain ⟨e, e6⟩ := h3 h h6
  unfold w_X1_push_16
  rw [q.r14_0, h1, tAt_eq q h6 (by rw [e]; omega), e]
  refine ⟨q.t14, by decide, q.bt (BL_h _ e6), s_becomeLike q (BL_h _ e6) (by decide) (by omega) hg (fun X1 a t => ⟨(a.shp q).t14, ?_⟩)⟩
  have a14 : dB (16 + 12 * ρ h) 14 = false := by
    unfold dB
    have : ¬ (16 + 12 * ρ h ≤ 14) := by omega
    simp [this]
  have e14 : hI X1 14 1 = Int32.ofNat h := by rw [a.2.2.2.2.2.2 14 a14]; exact h1
  rw [e14, of_s]
  have q1 := a.shp q
  refine k _ (((a.fr q).wk (fun x hx => ?_)).tr ⟨q1, rfl, rfl, fun x hx => ⟨sI_ne (fun ex => by rw [ex] at hx; revert hx; decide), rfl⟩⟩) ⟨sI_at, by omega, ρ, fun i hi => ?_, h4, fun i hi => ?_⟩
  · have := dRg_f hx
    unfold dB
    have h9 : ¬ (16 + 12 * ρ h ≤ x ∧ x < 16 + 12 * ρ h + 12) := by omega
    simpa using h9
  · show hR X1 15 i = _ ∧ _
    rw [a.2.2.2.1]
    exact h3 i hi
  · have hne : ∀ j, j < 12 → 16 + 12 * ρ i + j ≠ 14 := fun j hj => by omega
    by_cases hi2 : i = h
    · simp only [hi2, if_true]
      intro j l hj
      rw [sI_ne (by omega)]
      exact t j l hj
    · simp only [hi2, if_false]
      intro j l hj
      have hj12 := (okT_j hj).1
      have hρ : ρ h ≠ ρ i := fun e => hi2 (h4 i (by omega) h h6 e.symm)
      rw [sI_ne (by omega), a.2.2.2.2.2.2 _ (dB_out (BL_h _ e6) (BL_h _ (h3 i (by omega)).2) (by omega) hj12)]
      exact h5 i (by omega) j l hj
theorem sR_ne {X : XH} {a k b r : Nat} (h : b ≠ a) : hR (sR X a k r) b = hR X b := by
  funext j
  exact up2_ne h
theorem sR_at {X : XH} {a k r : Nat} : hR (sR X a k r) a k = r := by
  show up2 (hR X) a k r a k = r
  unfold up2
  rw [if_pos rfl, if_pos rfl]
theorem sR_nk {X : XH} {a k j r : Nat} (h : j ≠ k) : hR (sR X a k r) a j = hR X a j := by
  show up2 (hR X) a k r a j = _
  unfold up2
  rw [if_pos rfl, if_neg h]
theorem Shp.sR15 {k r : Nat} (q : Shp X) : Shp (sR X 15 k r) := by
  refine ⟨q.1, q.2.1, q.2.2.1, fun a j hj => ?_⟩
  by_cases h : a = 15
  · subst h
    unfold rfO at hj
    simp [rfL] at hj
  · rw [sR_ne h]
    exact q.2.2.2 a j hj
def AgR (X X1 : XH) : Prop := Shp X1 ∧ (hz X1, hty X1, hln X1) = (hz X, hty X, hln X) ∧ (hL X1, hDd X1) = (hL X, hDd X) ∧ hI X1 = hI X ∧ ∀ a, a ≠ 15 → hR X1 a = hR X a
theorem AgR.sR {k r : Nat} (a : AgR X X1) : AgR X (sR X1 15 k r) := ⟨a.1.sR15, a.2.1, a.2.2.1, a.2.2.2.1, fun b hb => by rw [sR_ne hb]; exact a.2.2.2.2 b hb⟩
theorem s_dropOldest {p : Nat → Row} {K : XH → Prop} (q : Shp X) (hh : HS X 6 p) (k : ∀ X1, Fr (dRg 14 87) X X1 → HS X1 5 (fun j => p (j + 1)) → K X1) : w_X1_dropOldest 14 X K := by
  obtain ⟨h1, h2, ρ, h3, h4, h5⟩ := hh
  obtain ⟨e0, e6⟩ := h3 0 (by decide)
  have e0' : w_X4_treatyAt 15 0 X = w_X4_treatyAt 15 (Int32.ofNat 0) X := rfl
  unfold w_X1_dropOldest
  rw [q.r14_0, e0', tAt_eq q (by decide) (by rw [e0]; omega), e0]
  refine ⟨q.t14, by decide, ?_⟩
  intro P hP
  have := dwn (n := 5) (p := fun i => ∀ X1, AgR X X1 → (∀ j, j < 6 → hR X1 15 j = 16 + 12 * ρ (if j < i then j + 1 else j)) → P 14 (16 + 12 * ρ 0) (Int32.ofNat (i + 1)) X1) (fun X1 a hr => hP _ _ _ _ ?_) (fun i hi ih X1 a hr => hP _ _ _ _ ?_)
  · exact this X ⟨q, rfl, rfl, rfl, fun _ _ => rfl⟩ (fun j hj => by simpa using (h3 j hj).1)
  · clear hP
    have q1 := a.1
    have e61 : (Int32.ofNat 6 - 1) = Int32.ofNat 5 := rfl
    have e6n : (Int32.ofNat 6 ≤ 0) = False := by decide
    have t0 : hty X1 (16 + 12 * ρ 0) = 3 := q1.bt (BL_h _ e6)
    simp only [q1.t14, q1.r14_0, q1.t15, q1.n15, ltt (show 6 < 4096 by decide), e61, e6n, t0, vp_of (show 5 < 6 by decide) (show 6 < 4096 by decide), nc (show 5 < 4096 by decide), ne_eq, not_false_eq_true, not_true_eq_false, true_and, and_true, true_implies, false_implies, Nat.reduceEqDiff, Nat.reduceLeDiff, Nat.reduceAdd]
    have e14 : hI X1 14 1 = Int32.ofNat 6 := by rw [a.2.2.2.1]; exact h1
    rw [e14, e61]
    refine k _ ⟨q1.sR15, a.2.1, a.2.2.1, fun x hx => ?_⟩ ⟨sI_at, by decide, fun i => if i < 5 then ρ (i + 1) else ρ 0, fun i hi => ?_, fun i hi j hj e => ?_, fun i hi => ?_⟩
    · have hx' := dRg_f hx
      exact ⟨(sI_ne (by omega)).trans (congrFun a.2.2.2.1 x), (sR_ne (by omega)).trans (a.2.2.2.2 x (by omega))⟩
    · show hR (sR X1 15 5 (16 + 12 * ρ 0)) 15 i = 16 + 12 * (if i < 5 then ρ (i + 1) else ρ 0) ∧ (if i < 5 then ρ (i + 1) else ρ 0) < 6
      by_cases h : i = 5
      · subst h
        rw [sR_at]
        exact ⟨rfl, e6⟩
      · have hi5 : i < 5 := by omega
        rw [sR_nk h, hr i hi, if_pos hi5, if_pos hi5]
        exact ⟨rfl, (h3 (i + 1) (by omega)).2⟩
    · simp only at e
      by_cases hi5 : i < 5 <;> by_cases hj5 : j < 5
      · rw [if_pos hi5, if_pos hj5] at e
        have := h4 _ (by omega) _ (by omega) e
        omega
      · rw [if_pos hi5, if_neg hj5] at e
        have := h4 _ (by omega) _ (by omega) e
        omega
      · rw [if_neg hi5, if_pos hj5] at e
        have := h4 _ (by omega) _ (by omega) e
        omega
      · omega
    · simp only [hi, if_true]
      intro j l hj
      rw [sI_ne (by omega)]
      show hI X1 _ _ = _
      rw [a.2.2.2.1]
      exact h5 (i + 1) (by omega) j l hj
  · clear hP
    have q1 := a.1
    have hri : hR X1 15 (i + 1) = 16 + 12 * ρ (i + 1) := by rw [hr (i + 1) (by omega), if_neg (by omega)]
    have hne : ¬ (16 + 12 * ρ (i + 1) = 0) := by omega
    have t0 : hty X1 (16 + 12 * ρ (i + 1)) = 3 := q1.bt (BL_h _ (h3 (i + 1) (by omega)).2)
    have es : Int32.ofNat (i + 1) - 1 = Int32.ofNat i := by rw [← of_s, Int32.add_sub_cancel]
    simp only [q1.t14, q1.r14_0, q1.t15, q1.n15, ltl (show i + 1 < 6 by omega) (show 6 < 4096 by decide), vp_of (show i + 1 < 6 by omega) (show 6 < 4096 by decide), vp_of (show i < 6 by omega) (show 6 < 4096 by decide), nc (show i + 1 < 4096 by omega), nc (show i < 4096 by omega), hri, hne, t0, es, of_s, ne_eq, not_false_eq_true, not_true_eq_false, true_and, and_true, true_implies, false_implies, Nat.reduceEqDiff, Nat.reduceLeDiff, Nat.reduceAdd]
    refine ih _ a.sR (fun j hj => ?_)
    by_cases h : j = i
    · subst h
      rw [sR_at, if_pos (by omega)]
    · rw [sR_nk h, hr j hj]
      by_cases h9 : j < i
      · rw [if_pos h9, if_pos (by omega)]
      · rw [if_neg h9, if_neg (by omega)]
theorem s_push {K : XH → Prop} (w : Wd X c Y) (k : ∀ X1, Wd X1 (pushS c) Y → K X1) : w_X1_push 14 2 X K := by
  have q := w.1
  have hg : TR X 2 (zG c) := w.2.1.1
  have hh : HS X (zH c) (zP c) := w.2.1.2.1
  have h1 := hh.1
  have h2 : zH c ≤ 6 := hh.2.1
  unfold w_X1_push
  have e6 : (100 ≤ 107) = True := by decide
  have en : (15 ≠ 0) = True := by decide
  rw [q.r14_0, q.t14, q.t15, q.n15, h1, of_lt (by omega) (by decide), e6, en]
  refine ⟨rfl, trivial, trivial, fun h => ?_, fun h => ?_⟩
  · refine s_push16 q hg hh h (fun X1 f t => k X1 ?_)
    have w1 := w.his f t
    unfold pushS
    have h' : c.2.1 < 6 := h
    rw [if_pos h', if_pos h']
    exact w1
  · have h6 : zH c = 6 := by omega
    rw [h6] at hh
    refine s_dropOldest q hh (fun X1 f t => s_push16 f.1 (hg.fr f fun j hj => dRg_o (by omega)) t (by decide) (fun X2 f2 t2 => k X2 ?_))
    have w1 := w.his (f.tr f2) t2
    unfold pushS
    have h' : ¬ c.2.1 < 6 := h
    rw [if_neg h', if_neg h']
    exact w1
end PJ3
