/-! the heap at the start: the second object -/
section PA1
variable {X : XH} {z t n : Nat} {f : Nat → Nat → Int32} {L : List (Nat × Nat)}
theorem rT15q : ∀ i, i < 6 → rT 137 i = 137 + 12 * i + 1 ∧ 137 + 12 * i + 1 ∈ BL2 := by decide
theorem i_X1q {K : XH → Prop} (bi : BI X 136 f L) (k : ∀ X1, BI X1 (137 + 12 * 6) (fH 137 f 6) (LH 137 137 ((136, 0) :: L) 6) → K X1) : w_X1_init 136 X K := by
  have N1 := bi.N (t := 104 + 3) (n := 6) (by decide) (by decide)
  have R1 := N1.R (a := 136) (k := 0) (v := 137) (by decide) (by decide)
  unfold w_X1_init
  simp only [hz_sN, hz_sR, bi.1]
  refine ⟨by first | exact N1.ty (by decide) (by decide) | exact bi.ty (by decide) (by decide), ?_⟩
  intro P hP
  refine (dwn (n := 6) (p := fun i => ∀ X1, BI X1 (137 + 12 * i) (fH 137 f i) (LH 137 137 ((136, 0) :: L) i) → P 136 (Int32.ofNat i) (1 + 12 * i) (6 + 382 * i) X1) (fun X1 B => hP _ _ _ _ _ ?_) (fun i hi ih X1 B => hP _ _ _ _ _ ?_)) _ R1
  · have e0 : hR X1 136 0 = 137 := B.rr (mem_LH List.mem_cons_self 6) (by decide)
    rw [e0, B.ty (a := 136) (v := 1) (by omega) (by decide), B.ty (a := 137) (v := 107) (by omega) (by decide), B.ln (a := 137) (v := 6) (by omega) (by decide)]
    exact ⟨rfl, by decide, by decide, fun _ => ⟨by decide, by decide, k X1 B⟩, fun hne => absurd (by decide) hne⟩
  · have e0 : hR X1 136 0 = 137 := B.rr (mem_LH List.mem_cons_self i) (by decide)
    obtain ⟨hr, hb⟩ := rT15q i hi
    obtain ⟨⟨t0, n0⟩, -⟩ := tb_f _ hb
    have M1 := B.N (t := 3) (n := 0) t0 n0
    rw [e0, B.ty (a := 136) (v := 1) (by omega) (by decide), B.ty (a := 137) (v := 107) (by omega) (by decide), B.ln (a := 137) (v := 6) (by omega) (by decide)]
    refine ⟨rfl, by decide, by decide, fun h => absurd h (by rw [of_le (by decide) (by omega)]; omega), fun _ => ⟨by omega, by omega, by omega, by omega, ?_⟩⟩
    rw [B.1]
    refine i_X3 M1 hb (fun X2 B2 => ?_)
    refine ⟨B2.ty (by omega) (by decide), B2.ty (by omega) t0, by rw [B2.ln (a := 137) (v := 6) (by omega) (by decide), vp_of hi (by decide)]; trivial, ?_⟩
    rw [nc (show i < 4096 by omega), of_s]
    have R2 := B2.R (a := 137) (k := i) (v := 137 + 12 * i + 1) (by omega) hr
    have := ih _ (show BI _ (137 + 12 * (i + 1)) (fH 137 f (i + 1)) (LH 137 137 ((136, 0) :: L) (i + 1)) from by
      rw [show 137 + 12 * (i + 1) = 137 + 12 * i + 1 + 11 by omega]
      exact R2)
    rw [show 1 + 12 * (i + 1) = 1 + 12 * i + 12 by omega, show 6 + 382 * (i + 1) = 6 + 382 * i + 382 by omega] at this
    exact this
def LX0q : List (Nat × Nat) := [(236, 5), (236, 4), (236, 3), (236, 2), (236, 0)]
theorem i_X0q {K : XH → Prop} (bi : BI X 236 f L) (k : ∀ X1, BI X1 241 f (LX0q ++ L) → K X1) : w_X0_init 236 X K := by
  have N1 := bi.N (t := 100) (n := 60) (by decide) (by decide)
  have R1 := N1.R (a := 236) (k := 0) (v := 237) (by decide) (by decide)
  have N2 := R1.N (t := 100) (n := 60) (by decide) (by decide)
  have R2 := N2.R (a := 236) (k := 2) (v := 238) (by decide) (by decide)
  have N3 := R2.N (t := 100) (n := 60) (by decide) (by decide)
  have R3 := N3.R (a := 236) (k := 3) (v := 239) (by decide) (by decide)
  have N4 := R3.N (t := 100) (n := 60) (by decide) (by decide)
  have R4' := N4.R (a := 236) (k := 4) (v := 240) (by decide) (by decide)
  have N5 := R4'.N (t := 100) (n := 60) (by decide) (by decide)
  have R5 := N5.R (a := 236) (k := 5) (v := 241) (by decide) (by decide)
  unfold w_X0_init
  simp only [hz_sN, hz_sR, bi.1]
  exact ⟨N1.ty (by decide) (by decide), N2.ty (by decide) (by decide), N3.ty (by decide) (by decide), N4.ty (by decide) (by decide), N5.ty (by decide) (by decide), k _ R5⟩
def LX2q : List (Nat × Nat) := [(242, 1), (242, 0)]
theorem i_X2q {K : XH → Prop} (bi : BI X 242 f L) (k : ∀ X1, BI X1 244 f (LX2q ++ L) → K X1) : w_X2_init 242 X K := by
  have N1 := bi.N (t := 100) (n := 24) (by decide) (by decide)
  have R1 := N1.R (a := 242) (k := 0) (v := 243) (by decide) (by decide)
  have N2 := R1.N (t := 100) (n := 25) (by decide) (by decide)
  have R2 := N2.R (a := 242) (k := 1) (v := 244) (by decide) (by decide)
  unfold w_X2_init
  simp only [hz_sN, hz_sR, bi.1]
  exact ⟨N1.ty (by decide) (by decide), N2.ty (by decide) (by decide), k _ R2⟩
def f4q (f : Nat → Nat → Int32) : Nat → Nat → Int32 := fH 210 (fH 137 (fS (124 + 8) 0 15 f) 6) 2
def L4aq (L : List (Nat × Nat)) : List (Nat × Nat) := LH 210 210 ((123, 2) :: (123, 1) :: LH 137 137 ((136, 0) :: (123, 0) :: (trL 124 ++ L)) 6) 2
def L4q (L : List (Nat × Nat)) : List (Nat × Nat) := (123, 5) :: (LX2q ++ (123, 4) :: (LX0q ++ (123, 3) :: L4aq L))
theorem rT88q : ∀ i, i < 2 → rT 210 i = 210 + 12 * i + 1 ∧ 210 + 12 * i + 1 ∈ BL2 := by decide
theorem i_X4q {K : XH → Prop} (bi : BI X 123 f L) (k : ∀ X1, BI X1 244 (f4q f) (L4q L) → K X1) : w_X4_init 123 X K := by
  have t1 : tyF 123 = 4 := by decide
  unfold w_X4_init
  rw [bi.1]
  refine i_X3 (b := 124) (bi.N (by decide) (by decide)) (by decide) (fun X1 B1 => ?_)
  refine ⟨B1.ty (by decide) t1, ?_⟩
  simp only [hz_sR, B1.1]
  have R1 := B1.R (a := 123) (k := 0) (v := 124) (by decide) (by decide)
  refine i_X1q (R1.N (by decide) (by decide)) (fun X3 B3 => ?_)
  refine ⟨B3.ty (by decide) t1, ?_⟩
  have R3 := B3.R (a := 123) (k := 1) (v := 136) (by decide) (by decide)
  have N3 := R3.N (t := 104 + 3) (n := 2) (by decide) (by decide)
  have R4 := N3.R (a := 123) (k := 2) (v := 210) (by decide) (by decide)
  refine ⟨N3.ty (by decide) t1, ?_⟩
  simp only [B3.1]
  intro P hP
  refine (dwn (n := 2) (p := fun i => ∀ X1, BI X1 (210 + 12 * i) (fH 210 (fH 137 (fS (124 + 8) 0 15 f) 6) i) (LH 210 210 ((123, 2) :: (123, 1) :: LH 137 137 ((136, 0) :: (123, 0) :: (trL 124 ++ L)) 6) i) → P 123 (Int32.ofNat i) (87 + 12 * i) (2684 + 382 * i) X1) (fun X1 B => hP _ _ _ _ _ ?_) (fun i hi ih X1 B => hP _ _ _ _ _ ?_)) _ R4
  · have e0 : hR X1 123 2 = 210 := B.rr (mem_LH List.mem_cons_self 2) (by decide)
    rw [e0, B.ty (a := 123) (v := 4) (by decide) t1, B.ty (a := 210) (v := 107) (by decide) (by decide), B.ln (a := 210) (v := 2) (by decide) (by decide)]
    have N5 := B.N (t := 101) (n := 2) (by decide) (by decide)
    have R5 := N5.R (a := 123) (k := 3) (v := 235) (by decide) (by decide)
    refine ⟨rfl, by decide, by decide, fun _ => ⟨by decide, by decide, N5.ty (by decide) t1, by decide, by decide, by decide, by decide, ?_⟩, fun hne => absurd (by decide) hne⟩
    simp only [hz_sR, hz_sN, B.1]
    refine i_X0q (R5.N (by decide) (by decide)) (fun X12 B12 => ?_)
    have R12 := B12.R (a := 123) (k := 4) (v := 236) (by decide) (by decide)
    refine ⟨B12.ty (by decide) t1, by decide, by decide, by decide, by decide, ?_⟩
    simp only [B12.1]
    refine i_X2q (R12.N (by decide) (by decide)) (fun X18 B18 => ?_)
    exact ⟨B18.ty (by decide) t1, by decide, by decide, k _ (B18.R (a := 123) (k := 5) (v := 242) (by decide) (by decide))⟩
  · have e0 : hR X1 123 2 = 210 := B.rr (mem_LH List.mem_cons_self i) (by decide)
    obtain ⟨hr, hb⟩ := rT88q i hi
    obtain ⟨⟨t0, n0⟩, -⟩ := tb_f _ hb
    have M1 := B.N (t := 3) (n := 0) t0 n0
    rw [e0, B.ty (a := 123) (v := 4) (by omega) t1, B.ty (a := 210) (v := 107) (by omega) (by decide), B.ln (a := 210) (v := 2) (by omega) (by decide)]
    refine ⟨rfl, by decide, by decide, fun h => absurd h (by rw [of_le (by decide) (by omega)]; omega), fun _ => ⟨by omega, by omega, by omega, by omega, ?_⟩⟩
    rw [B.1]
    refine i_X3 M1 hb (fun X2 B2 => ?_)
    refine ⟨B2.ty (by omega) (by decide), B2.ty (by omega) t0, by rw [B2.ln (a := 210) (v := 2) (by omega) (by decide), vp_of hi (by decide)]; trivial, ?_⟩
    rw [nc (show i < 4096 by omega), of_s]
    have R2 := B2.R (a := 210) (k := i) (v := 210 + 12 * i + 1) (by omega) hr
    have := ih _ (show BI _ (210 + 12 * (i + 1)) (fH 210 (fH 137 (fS (124 + 8) 0 15 f) 6) (i + 1)) (LH 210 210 ((123, 2) :: (123, 1) :: LH 137 137 ((136, 0) :: (123, 0) :: (trL 124 ++ L)) 6) (i + 1)) from by
      rw [show 210 + 12 * (i + 1) = 210 + 12 * i + 1 + 11 by omega]
      exact R2)
    rw [show 87 + 12 * (i + 1) = 87 + 12 * i + 12 by omega, show 2684 + 382 * (i + 1) = 2684 + 382 * i + 382 by omega] at this
    exact this
end PA1
