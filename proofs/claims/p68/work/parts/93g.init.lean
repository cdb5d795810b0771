/-! the heap at the start -/
section PA0
theorem hz_sN {X : XH} {t n : Nat} : hz (sN X t n) = hz X + 1 := rfl
theorem hz_sR {X : XH} {a k v : Nat} : hz (sR X a k v) = hz X := rfl
def tyF (a : Nat) : Nat := if 122 < a then tyL.getD (a - 122) 0 else tyL.getD a 0
def lnF (a : Nat) : Nat := if 122 < a then lnL.getD (a - 122) 0 else lnL.getD a 0
def rT0 (a k : Nat) : Nat := if a = 15 then 16 + 12 * k else (rfL.getD a []).getD k 0
def rT (a k : Nat) : Nat := if 122 < a then 122 + rT0 (a - 122) k else rT0 a k
def BL2 : List Nat := BL ++ BL.map (· + 122)
def stm (k : Nat) : Int32 := Int32.ofNat (60 + 10 * (k % 3))
/-- the first z things, their ints, the references that are set -/
def BI (X : XH) (z : Nat) (f : Nat → Nat → Int32) (L : List (Nat × Nat)) : Prop := hz X = z ∧ (∀ a, a ≤ z → hty X a = tyF a ∧ hln X a = lnF a ∧ ∀ k, hI X a k = f a k) ∧ (∀ a, z < a → ∀ k, f a k = 0) ∧ ∀ p, p ∈ L → p.1 ≤ z ∧ hR X p.1 p.2 = rT p.1 p.2
variable {X : XH} {z t n : Nat} {f : Nat → Nat → Int32} {L : List (Nat × Nat)}
theorem BI.N (B : BI X z f L) (h1 : tyF (z + 1) = t) (h2 : lnF (z + 1) = n) : BI (sN X t n) (z + 1) f L := by
  obtain ⟨b1, b2, b3, b4⟩ := B
  have e1 : ∀ {α : Type} (g : Nat → α) (v : α) (a : Nat), a ≠ z + 1 → up1 g (z + 1) v a = g a := fun g v a h => if_neg h
  have e2 : ∀ {α : Type} (g : Nat → α) (v : α), up1 g (z + 1) v (z + 1) = v := fun g v => if_pos rfl
  have b1' : X.1 = z := b1
  refine ⟨by rw [hz_sN, b1], fun a ha => ?_, fun a ha k => b3 a (by omega) k, fun p hp => ?_⟩
  · show up1 X.2.1 (X.1 + 1) t a = _ ∧ up1 X.2.2.1 (X.1 + 1) n a = _ ∧ ∀ k, up1 X.2.2.2.1 (X.1 + 1) (fun _ => 0) a k = f a k
    rw [b1']
    by_cases h : a = z + 1
    · subst h
      rw [e2, e2, e2]
      exact ⟨h1.symm, h2.symm, fun k => (b3 (z + 1) (by omega) k).symm⟩
    · rw [e1 _ _ _ h, e1 _ _ _ h, e1 _ _ _ h]
      exact b2 a (by omega)
  · obtain ⟨p1, p2⟩ := b4 p hp
    refine ⟨by omega, ?_⟩
    show up1 X.2.2.2.2.1 (X.1 + 1) (fun _ => 0) p.1 p.2 = _
    rw [b1', e1 _ _ _ (by omega)]
    exact p2
theorem BI.R {a k v : Nat} (B : BI X z f L) (ha : a ≤ z) (hv : rT a k = v) : BI (sR X a k v) z f ((a, k) :: L) := by
  obtain ⟨b1, b2, b3, b4⟩ := B
  refine ⟨b1, b2, b3, fun p hp => ?_⟩
  show p.1 ≤ z ∧ up2 (hR X) a k v p.1 p.2 = _
  unfold up2
  by_cases h1 : p.1 = a
  · by_cases h2 : p.2 = k
    · rw [if_pos h1, if_pos h2, h1, h2]
      exact ⟨ha, hv.symm⟩
    · rw [if_pos h1, if_neg h2]
      rcases List.mem_cons.mp hp with e | e
      · exact absurd (by rw [e]) h2
      · exact b4 p e
  · rw [if_neg h1]
    rcases List.mem_cons.mp hp with e | e
    · exact absurd (by rw [e]) h1
    · exact b4 p e
theorem BI.I {a k : Nat} {v : Int32} {f' : Nat → Nat → Int32} (B : BI X z f L) (ha : a ≤ z) (h : ∀ b j, f' b j = if b = a then (if j = k then v else f b j) else f b j) : BI (sI X a k v) z f' L := by
  obtain ⟨b1, b2, b3, b4⟩ := B
  refine ⟨b1, fun b hb => ⟨(b2 b hb).1, (b2 b hb).2.1, fun j => ?_⟩, fun b hb j => ?_, b4⟩
  · show up2 (hI X) a k v b j = _
    unfold up2
    rw [h b j]
    by_cases e : b = a
    · rw [if_pos e, if_pos e]
      by_cases e2 : j = k
      · rw [if_pos e2, if_pos e2]
      · rw [if_neg e2, if_neg e2]
        exact (b2 b hb).2.2 j
    · rw [if_neg e, if_neg e]
      exact (b2 b hb).2.2 j
  · rw [h b j, if_neg (by omega)]
    exact b3 b hb j
theorem BI.ty (B : BI X z f L) {a v : Nat} (ha : a ≤ z) (h : tyF a = v) : hty X a = v := (B.2.1 a ha).1.trans h
theorem BI.ln (B : BI X z f L) {a v : Nat} (ha : a ≤ z) (h : lnF a = v) : hln X a = v := (B.2.1 a ha).2.1.trans h
theorem BI.rr (B : BI X z f L) {a k v : Nat} (h : (a, k) ∈ L) (hv : rT a k = v) : hR X a k = v := (B.2.2.2 (a, k) h).2.trans hv
/-- 15 strengths at a, from index o on -/
def fS (a o i : Nat) (f : Nat → Nat → Int32) : Nat → Nat → Int32 := fun b j => if b = a ∧ o ≤ j ∧ j < o + i then stm (j - o) else f b j
theorem fS_0 {a o : Nat} : fS a o 0 f = f := by
  funext b j
  unfold fS
  rw [if_neg (by omega)]
theorem BI.S {a o i : Nat} (B : BI X z (fS a o i f) L) (ha : a ≤ z) : BI (sI X a (o + i) (stm i)) z (fS a o (i + 1) f) L := by
  refine B.I ha (fun b j => ?_)
  unfold fS
  by_cases e : b = a
  · rw [if_pos e]
    by_cases e2 : j = o + i
    · rw [if_pos e2, if_pos (by omega), show j - o = i by omega]
    · rw [if_neg e2]
      by_cases e3 : o ≤ j ∧ j < o + i
      · rw [if_pos (by omega), if_pos (by omega)]
      · rw [if_neg (by omega), if_neg (by omega)]
  · rw [if_neg e, if_neg (by omega), if_neg (by omega)]
theorem stm_e : ∀ i, i < 15 → (60 : Int32) + (10 : Int32) * (Int32.ofNat i - Int32.ofNat i / (3 : Int32) * (3 : Int32)) = stm i := by decide +kernel
def trL (b : Nat) : List (Nat × Nat) := [(b, 11), (b, 10), (b, 9), (b, 8), (b, 7), (b, 6), (b, 5), (b, 4), (b, 3), (b, 2), (b, 1)]
theorem tb_f : ∀ b, b ∈ BL2 → (tyF b = 3 ∧ lnF b = 0) ∧ ((tyF (b + 1) = 100 ∧ tyF (b + 2) = 100 ∧ tyF (b + 3) = 100 ∧ tyF (b + 4) = 100 ∧ tyF (b + 5) = 100 ∧ tyF (b + 6) = 100 ∧ tyF (b + 7) = 100 ∧ tyF (b + 8) = 100 ∧ tyF (b + 9) = 100 ∧ tyF (b + 10) = 100 ∧ tyF (b + 11) = 100) ∧ (lnF (b + 1) = 24 ∧ lnF (b + 2) = 24 ∧ lnF (b + 3) = 24 ∧ lnF (b + 4) = 24 ∧ lnF (b + 5) = 72 ∧ lnF (b + 6) = 72 ∧ lnF (b + 7) = 72 ∧ lnF (b + 8) = 15 ∧ lnF (b + 9) = 15 ∧ lnF (b + 10) = 12 ∧ lnF (b + 11) = 12)) ∧ (rT b 1 = b + 1 ∧ rT b 2 = b + 2 ∧ rT b 3 = b + 3 ∧ rT b 4 = b + 4 ∧ rT b 5 = b + 5 ∧ rT b 6 = b + 6 ∧ rT b 7 = b + 7 ∧ rT b 8 = b + 8 ∧ rT b 9 = b + 9 ∧ rT b 10 = b + 10 ∧ rT b 11 = b + 11) := by decide +kernel
theorem i_X3 {K : XH → Prop} {b : Nat} (bi : BI X b f L) (hb : b ∈ BL2) (k : ∀ X1, BI X1 (b + 11) (fS (b + 8) 0 15 f) (trL b ++ L) → K X1) : w_X3_init b X K := by
  obtain ⟨⟨t0, n0⟩, ⟨⟨t1, t2, t3, t4, t5, t6, t7, t8, t9, t10, t11⟩, ⟨n1, n2, n3, n4, n5, n6, n7, n8, n9, n10, n11⟩⟩, ⟨r1, r2, r3, r4, r5, r6, r7, r8, r9, r10, r11⟩⟩ := tb_f b hb
  have N1 := bi.N (t := 100) (n := 24) t1 n1
  have R1 := N1.R (a := b) (k := 1) (by omega) r1
  have N2 := R1.N (t := 100) (n := 24) t2 n2
  have R2 := N2.R (a := b) (k := 2) (by omega) r2
  have N3 := R2.N (t := 100) (n := 24) t3 n3
  have R3 := N3.R (a := b) (k := 3) (by omega) r3
  have N4 := R3.N (t := 100) (n := 24) t4 n4
  have R4 := N4.R (a := b) (k := 4) (by omega) r4
  have N5 := R4.N (t := 100) (n := 72) t5 n5
  have R5 := N5.R (a := b) (k := 5) (by omega) r5
  have N6 := R5.N (t := 100) (n := 72) t6 n6
  have R6 := N6.R (a := b) (k := 6) (by omega) r6
  have N7 := R6.N (t := 100) (n := 72) t7 n7
  have R7 := N7.R (a := b) (k := 7) (by omega) r7
  have N8 := R7.N (t := 100) (n := 15) t8 n8
  have R8 := N8.R (a := b) (k := 8) (by omega) r8
  have N9 := R8.N (t := 100) (n := 15) t9 n9
  have R9 := N9.R (a := b) (k := 9) (by omega) r9
  have N10 := R9.N (t := 100) (n := 12) t10 n10
  have R10 := N10.R (a := b) (k := 10) (by omega) r10
  have N11 := R10.N (t := 100) (n := 12) t11 n11
  have R11 := N11.R (a := b) (k := 11) (by omega) r11
  unfold w_X3_init
  simp only [hz_sN, hz_sR, bi.1]
  refine ⟨N1.ty (by omega) t0, N2.ty (by omega) t0, N3.ty (by omega) t0, N4.ty (by omega) t0, N5.ty (by omega) t0, N6.ty (by omega) t0, N7.ty (by omega) t0, N8.ty (by omega) t0, N9.ty (by omega) t0, N10.ty (by omega) t0, N11.ty (by omega) t0, ?_⟩
  intro P hP
  have key : ∀ X1, BI X1 (b + 11) (fS (b + 8) 0 0 f) (trL b ++ L) → P b (Int32.ofNat 0) X1 := by
    refine dwn (n := 15) (p := fun i => ∀ X1, BI X1 (b + 11) (fS (b + 8) 0 i f) (trL b ++ L) → P b (Int32.ofNat i) X1) (fun X1 B => hP _ _ _ ?_) (fun i hi ih X1 B => hP _ _ _ ?_)
    · have e8 : hR X1 b 8 = b + 8 := B.rr (by simp [trL]) r8
      rw [e8, B.ty (by omega) t8, B.ln (by omega) n8, B.ty (by omega) t0]
      refine ⟨rfl, by omega, by decide, fun _ => k X1 B, fun hne => absurd (by decide) hne⟩
    · have e8 : hR X1 b 8 = b + 8 := B.rr (by simp [trL]) r8
      rw [e8, B.ty (by omega) t8, B.ln (by omega) n8, B.ty (by omega) t0, stm_e i hi, nc (show i < 4096 by omega)]
      refine ⟨rfl, by omega, by decide, fun h => absurd h (by rw [of_le (by decide) (by omega)]; omega), fun _ => ⟨rfl, by rw [vp_of hi (by decide)]; trivial, ?_⟩⟩
      rw [of_s]
      refine ih _ ?_
      have := B.S (a := b + 8) (o := 0) (i := i) (by omega)
      rw [Nat.zero_add] at this
      exact this
  refine key _ ?_
  rw [fS_0]
  exact R11
/-- the history's rows -/
def fH (z : Nat) (f : Nat → Nat → Int32) : Nat → Nat → Nat → Int32
  | 0 => f
  | i + 1 => fS (z + 12 * i + 1 + 8) 0 15 (fH z f i)
def LH (a z : Nat) (L : List (Nat × Nat)) : Nat → List (Nat × Nat)
  | 0 => L
  | i + 1 => (a, i) :: (trL (z + 12 * i + 1) ++ LH a z L i)
theorem mem_LH {a z : Nat} {p : Nat × Nat} (h : p ∈ L) : ∀ i, p ∈ LH a z L i
  | 0 => h
  | i + 1 => List.mem_cons_of_mem _ (List.mem_append_right _ (mem_LH h i))
theorem rT15 : ∀ i, i < 6 → rT 15 i = 15 + 12 * i + 1 ∧ 15 + 12 * i + 1 ∈ BL2 := by decide
theorem i_X1 {K : XH → Prop} (bi : BI X 14 f L) (k : ∀ X1, BI X1 (15 + 12 * 6) (fH 15 f 6) (LH 15 15 ((14, 0) :: L) 6) → K X1) : w_X1_init 14 X K := by
  have N1 := bi.N (t := 104 + 3) (n := 6) (by decide) (by decide)
  have R1 := N1.R (a := 14) (k := 0) (v := 15) (by decide) (by decide)
  unfold w_X1_init
  simp only [hz_sN, hz_sR, bi.1]
  refine ⟨by first | exact N1.ty (by decide) (by decide) | exact bi.ty (by decide) (by decide), ?_⟩
  intro P hP
  refine (dwn (n := 6) (p := fun i => ∀ X1, BI X1 (15 + 12 * i) (fH 15 f i) (LH 15 15 ((14, 0) :: L) i) → P 14 (Int32.ofNat i) (1 + 12 * i) (6 + 382 * i) X1) (fun X1 B => hP _ _ _ _ _ ?_) (fun i hi ih X1 B => hP _ _ _ _ _ ?_)) _ R1
  · have e0 : hR X1 14 0 = 15 := B.rr (mem_LH List.mem_cons_self 6) (by decide)
    rw [e0, B.ty (a := 14) (v := 1) (by omega) (by decide), B.ty (a := 15) (v := 107) (by omega) (by decide), B.ln (a := 15) (v := 6) (by omega) (by decide)]
    exact ⟨rfl, by decide, by decide, fun _ => ⟨by decide, by decide, k X1 B⟩, fun hne => absurd (by decide) hne⟩
  · have e0 : hR X1 14 0 = 15 := B.rr (mem_LH List.mem_cons_self i) (by decide)
    obtain ⟨hr, hb⟩ := rT15 i hi
    obtain ⟨⟨t0, n0⟩, -⟩ := tb_f _ hb
    have M1 := B.N (t := 3) (n := 0) t0 n0
    rw [e0, B.ty (a := 14) (v := 1) (by omega) (by decide), B.ty (a := 15) (v := 107) (by omega) (by decide), B.ln (a := 15) (v := 6) (by omega) (by decide)]
    refine ⟨rfl, by decide, by decide, fun h => absurd h (by rw [of_le (by decide) (by omega)]; omega), fun _ => ⟨by omega, by omega, by omega, by omega, ?_⟩⟩
    rw [B.1]
    refine i_X3 M1 hb (fun X2 B2 => ?_)
    refine ⟨B2.ty (by omega) (by decide), B2.ty (by omega) t0, by rw [B2.ln (a := 15) (v := 6) (by omega) (by decide), vp_of hi (by decide)]; trivial, ?_⟩
    rw [nc (show i < 4096 by omega), of_s]
    have R2 := B2.R (a := 15) (k := i) (v := 15 + 12 * i + 1) (by omega) hr
    have := ih _ (show BI _ (15 + 12 * (i + 1)) (fH 15 f (i + 1)) (LH 15 15 ((14, 0) :: L) (i + 1)) from by
      rw [show 15 + 12 * (i + 1) = 15 + 12 * i + 1 + 11 by omega]
      exact R2)
    rw [show 1 + 12 * (i + 1) = 1 + 12 * i + 12 by omega, show 6 + 382 * (i + 1) = 6 + 382 * i + 382 by omega] at this
    exact this
def LX0 : List (Nat × Nat) := [(114, 5), (114, 4), (114, 3), (114, 2), (114, 0)]
theorem i_X0 {K : XH → Prop} (bi : BI X 114 f L) (k : ∀ X1, BI X1 119 f (LX0 ++ L) → K X1) : w_X0_init 114 X K := by
  have N1 := bi.N (t := 100) (n := 60) (by decide) (by decide)
  have R1 := N1.R (a := 114) (k := 0) (v := 115) (by decide) (by decide)
  have N2 := R1.N (t := 100) (n := 60) (by decide) (by decide)
  have R2 := N2.R (a := 114) (k := 2) (v := 116) (by decide) (by decide)
  have N3 := R2.N (t := 100) (n := 60) (by decide) (by decide)
  have R3 := N3.R (a := 114) (k := 3) (v := 117) (by decide) (by decide)
  have N4 := R3.N (t := 100) (n := 60) (by decide) (by decide)
  have R4' := N4.R (a := 114) (k := 4) (v := 118) (by decide) (by decide)
  have N5 := R4'.N (t := 100) (n := 60) (by decide) (by decide)
  have R5 := N5.R (a := 114) (k := 5) (v := 119) (by decide) (by decide)
  unfold w_X0_init
  simp only [hz_sN, hz_sR, bi.1]
  exact ⟨N1.ty (by decide) (by decide), N2.ty (by decide) (by decide), N3.ty (by decide) (by decide), N4.ty (by decide) (by decide), N5.ty (by decide) (by decide), k _ R5⟩
def LX2 : List (Nat × Nat) := [(120, 1), (120, 0)]
theorem i_X2 {K : XH → Prop} (bi : BI X 120 f L) (k : ∀ X1, BI X1 122 f (LX2 ++ L) → K X1) : w_X2_init 120 X K := by
  have N1 := bi.N (t := 100) (n := 24) (by decide) (by decide)
  have R1 := N1.R (a := 120) (k := 0) (v := 121) (by decide) (by decide)
  have N2 := R1.N (t := 100) (n := 25) (by decide) (by decide)
  have R2 := N2.R (a := 120) (k := 1) (v := 122) (by decide) (by decide)
  unfold w_X2_init
  simp only [hz_sN, hz_sR, bi.1]
  exact ⟨N1.ty (by decide) (by decide), N2.ty (by decide) (by decide), k _ R2⟩
def f4 (f : Nat → Nat → Int32) : Nat → Nat → Int32 := fH 88 (fH 15 (fS (2 + 8) 0 15 f) 6) 2
def L4a (L : List (Nat × Nat)) : List (Nat × Nat) := LH 88 88 ((1, 2) :: (1, 1) :: LH 15 15 ((14, 0) :: (1, 0) :: (trL 2 ++ L)) 6) 2
def L4 (L : List (Nat × Nat)) : List (Nat × Nat) := (1, 5) :: (LX2 ++ (1, 4) :: (LX0 ++ (1, 3) :: L4a L))
theorem rT88 : ∀ i, i < 2 → rT 88 i = 88 + 12 * i + 1 ∧ 88 + 12 * i + 1 ∈ BL2 := by decide
theorem i_X4 {K : XH → Prop} (bi : BI X 1 f L) (k : ∀ X1, BI X1 122 (f4 f) (L4 L) → K X1) : w_X4_init 1 X K := by
  have t1 : tyF 1 = 4 := by decide
  unfold w_X4_init
  rw [bi.1]
  refine i_X3 (b := 2) (bi.N (by decide) (by decide)) (by decide) (fun X1 B1 => ?_)
  refine ⟨B1.ty (by decide) t1, ?_⟩
  simp only [hz_sR, B1.1]
  have R1 := B1.R (a := 1) (k := 0) (v := 2) (by decide) (by decide)
  refine i_X1 (R1.N (by decide) (by decide)) (fun X3 B3 => ?_)
  refine ⟨B3.ty (by decide) t1, ?_⟩
  have R3 := B3.R (a := 1) (k := 1) (v := 14) (by decide) (by decide)
  have N3 := R3.N (t := 104 + 3) (n := 2) (by decide) (by decide)
  have R4 := N3.R (a := 1) (k := 2) (v := 88) (by decide) (by decide)
  refine ⟨N3.ty (by decide) t1, ?_⟩
  simp only [B3.1]
  intro P hP
  refine (dwn (n := 2) (p := fun i => ∀ X1, BI X1 (88 + 12 * i) (fH 88 (fH 15 (fS (2 + 8) 0 15 f) 6) i) (LH 88 88 ((1, 2) :: (1, 1) :: LH 15 15 ((14, 0) :: (1, 0) :: (trL 2 ++ L)) 6) i) → P 1 (Int32.ofNat i) (87 + 12 * i) (2684 + 382 * i) X1) (fun X1 B => hP _ _ _ _ _ ?_) (fun i hi ih X1 B => hP _ _ _ _ _ ?_)) _ R4
  · have e0 : hR X1 1 2 = 88 := B.rr (mem_LH List.mem_cons_self 2) (by decide)
    rw [e0, B.ty (a := 1) (v := 4) (by decide) t1, B.ty (a := 88) (v := 107) (by decide) (by decide), B.ln (a := 88) (v := 2) (by decide) (by decide)]
    have N5 := B.N (t := 101) (n := 2) (by decide) (by decide)
    have R5 := N5.R (a := 1) (k := 3) (v := 113) (by decide) (by decide)
    refine ⟨rfl, by decide, by decide, fun _ => ⟨by decide, by decide, N5.ty (by decide) t1, by decide, by decide, by decide, by decide, ?_⟩, fun hne => absurd (by decide) hne⟩
    simp only [hz_sR, hz_sN, B.1]
    refine i_X0 (R5.N (by decide) (by decide)) (fun X12 B12 => ?_)
    have R12 := B12.R (a := 1) (k := 4) (v := 114) (by decide) (by decide)
    refine ⟨B12.ty (by decide) t1, by decide, by decide, by decide, by decide, ?_⟩
    simp only [B12.1]
    refine i_X2 (R12.N (by decide) (by decide)) (fun X18 B18 => ?_)
    exact ⟨B18.ty (by decide) t1, by decide, by decide, k _ (B18.R (a := 1) (k := 5) (v := 120) (by decide) (by decide))⟩
  · have e0 : hR X1 1 2 = 88 := B.rr (mem_LH List.mem_cons_self i) (by decide)
    obtain ⟨hr, hb⟩ := rT88 i hi
    obtain ⟨⟨t0, n0⟩, -⟩ := tb_f _ hb
    have M1 := B.N (t := 3) (n := 0) t0 n0
    rw [e0, B.ty (a := 1) (v := 4) (by omega) t1, B.ty (a := 88) (v := 107) (by omega) (by decide), B.ln (a := 88) (v := 2) (by omega) (by decide)]
    refine ⟨rfl, by decide, by decide, fun h => absurd h (by rw [of_le (by decide) (by omega)]; omega), fun _ => ⟨by omega, by omega, by omega, by omega, ?_⟩⟩
    rw [B.1]
    refine i_X3 M1 hb (fun X2 B2 => ?_)
    refine ⟨B2.ty (by omega) (by decide), B2.ty (by omega) t0, by rw [B2.ln (a := 88) (v := 2) (by omega) (by decide), vp_of hi (by decide)]; trivial, ?_⟩
    rw [nc (show i < 4096 by omega), of_s]
    have R2 := B2.R (a := 88) (k := i) (v := 88 + 12 * i + 1) (by omega) hr
    have := ih _ (show BI _ (88 + 12 * (i + 1)) (fH 88 (fH 15 (fS (2 + 8) 0 15 f) 6) (i + 1)) (LH 88 88 ((1, 2) :: (1, 1) :: LH 15 15 ((14, 0) :: (1, 0) :: (trL 2 ++ L)) 6) (i + 1)) from by
      rw [show 88 + 12 * (i + 1) = 88 + 12 * i + 1 + 11 by omega]
      exact R2)
    rw [show 87 + 12 * (i + 1) = 87 + 12 * i + 12 by omega, show 2684 + 382 * (i + 1) = 2684 + 382 * i + 382 by omega] at this
    exact this
end PA0
