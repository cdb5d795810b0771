/-! the mean, and its bits -/
section PR
variable {X : XH} {g : Row} {n c t : Nat}
theorem gP_n (i : Inc g c) (ht : t < 3) (hp : pHas g c t = true) : ∃ v, 1 ≤ v ∧ v ≤ 2000 ∧ gP g c t = Int32.ofNat v := by
  obtain ⟨-, -, ⟨l, y, h1, h2, h3, h4, e1, e2⟩, hF⟩ := i
  obtain ⟨⟨f, a, hf, e3, -⟩, -⟩ := hF t ht
  have hf1 : 1 ≤ f := by
    refine Decidable.byContradiction fun hx => ?_
    have e0 : f = 0 := by omega
    unfold pHas at hp
    rw [e3, e0] at hp
    exact absurd hp (by decide)
  refine ⟨(f + y) * 100 / l, ?_, ?_, ?_⟩
  · exact (Nat.le_div_iff_mul_le (by omega)).mpr (by omega)
  · refine Nat.div_le_of_le_mul ?_
    have : 4 * 2000 ≤ l * 2000 := Nat.mul_le_mul_right _ h1
    omega
  · unfold gP gB
    rw [e3, e2, e1, ← Int32.ofNat_add, show (100 : Int32) = Int32.ofNat 100 from rfl, ← Int32.ofNat_mul, ← Int32.ofNat_div (by omega) (by omega)]
theorem mean_sums (i : Inv g n) (ht : t < 3) : ∀ j, j ≤ n → ∃ m s, m ≤ s ∧ s ≤ 2000 * j ∧ m ≤ j ∧ sumTo (fun c => bi (pHas g c t) (gP g c t)) j = Int32.ofNat s ∧ sumTo (fun c => bi (pHas g c t) 1) j = Int32.ofNat m
  | 0, _ => ⟨0, 0, Nat.le_refl _, Nat.zero_le _, Nat.le_refl _, rfl, rfl⟩
  | j + 1, hj => by
    obtain ⟨m, s, h1, h2, h3, e1, e2⟩ := mean_sums i ht j (by omega)
    simp only [sumTo, e1, e2]
    cases hp : pHas g j t
    · refine ⟨m, s, h1, by omega, by omega, ?_, ?_⟩ <;> simp only [bi_f, Int32.add_zero]
    · obtain ⟨v, g1, g2, e3⟩ := gP_n (i.2.1 j (by omega)) ht hp
      refine ⟨m + 1, s + v, by omega, by omega, by omega, ?_, ?_⟩
      · rw [bi_t, e3, ← Int32.ofNat_add]
      · rw [bi_t, of_s]
theorem mean_ok (i : Inv g n) (ht : t < 3) : (¬ sC g n t ≤ 0 → vf_n64 (FP.ddiv (FP.i2d (sH g n t)) (FP.i2d (sC g n t)))) ∧ (gMean g n t = FP.dconst0 ∨ ∃ E T, 1023 ≤ E ∧ E ≤ 1045 ∧ T < 4503599627370496 ∧ gMean g n t = mkD E T) := by
  obtain ⟨m, s, h1, h2, h3, e1, e2⟩ := mean_sums i ht n (Nat.le_refl n)
  have hn := i.1.2
  have hs : sH g n t = Int32.ofNat s := e1
  have hc : sC g n t = Int32.ofNat m := e2
  have hm : (sC g n t ≤ 0) = (m ≤ 0) := by rw [hc]; exact of_le (j := 0) (by omega) (by decide)
  unfold gMean
  by_cases h0 : sC g n t ≤ 0
  · rw [if_pos h0]
    exact ⟨fun h => absurd h0 h, Or.inl rfl⟩
  · have h0' : ¬ m ≤ 0 := fun e => h0 (hm ▸ e)
    rw [if_neg h0, hs, hc]
    obtain ⟨E, T, g1, g2, g3, e⟩ := mean_mk (s := s) (n := m) (by omega) h1 (by omega)
    rw [e]
    exact ⟨fun _ => mkD_nn (by omega) g3, Or.inr ⟨E, T, g1, g2, g3, rfl⟩⟩
theorem cmp_0 : Op.cmpValue (FP.dcmp FP.dconst0 FP.dconst0) CmpOp.l = 0 := by decide +kernel
theorem mean_self (i : Inv g n) (ht : t < 3) : Op.cmpValue (FP.dcmp (gMean g n t) (gMean g n t)) CmpOp.l = 0 := by
  rcases (mean_ok i ht).2 with h | ⟨E, T, g1, g2, g3, h⟩
  · rw [h]
    exact cmp_0
  · rw [h]
    exact cmp_self (by omega) g2 g3
theorem cmp0_ge {E T : Nat} (h1 : 1023 ≤ E) (hE : E ≤ 1045) (hT : T < 4503599627370496) : 0 ≤ Op.cmpValue (FP.dcmp (mkD E T) FP.dconst0) CmpOp.l := by
  have e : (FP.dcmp (mkD E T) FP.dconst0) = some Ordering.gt := by
    show FP.Core.order (FP.Core.decode FP.Core.b64 (mkD E T).toNat) (FP.Core.decode FP.Core.b64 FP.dconst0.toNat) = _
    rw [mkD_toNat (by omega) hT, dec_mk (by omega) (by omega) hT, show FP.dconst0.toNat = 0 from rfl, dec_0, ord_ff]
    refine congrArg some (cmp_gt_i ?_)
    rw [Nat.zero_mul]
    have h2 : 0 < (4503599627370496 + T) * 2 ^ ((E : Int) - 1075 - min ((E : Int) - 1075) (-1074)).toNat := Nat.mul_pos (by omega) (Nat.two_pow_pos _)
    omega
  rw [e]
  decide
theorem mean_ge (i : Inv g n) (ht : t < 3) : ¬ (Op.cmpValue (FP.dcmp (gMean g n t) FP.dconst0) CmpOp.l < 0) := by
  rcases (mean_ok i ht).2 with h | ⟨E, T, g1, g2, g3, h⟩
  · rw [h, cmp_0]
    decide
  · rw [h]
    exact Int32.not_lt.mpr (cmp0_ge g1 g2 g3)
theorem q_meanFit_b {σ : St} {Zz : XH} {a : Int32} {K : UInt64 → XH → Prop} {KX : String → XH → Prop} (w : Wd X σ Zz) (h0 : inT a = false) (k : KX xcI X) : w_X4_meanFit 1 a X K KX := by
  have q := w.1
  simp only [w_X4_meanFit, q.t1, q.r1_0, q.t2, e_checkTongue, h0, hty_sI, hln_sI, hR_sI, cnd1, cnd2, b2i_0, b2i_1, b2i_z, if_true, if_false, true_and, and_true, true_implies, false_implies, ne_eq, not_false_eq_true, not_true_eq_false, eq_self, exIA, exIS, exAI, exAS, exSI, exSA, true_or, or_true, false_or, or_false, Nat.reduceEqDiff, Bool.true_and, Bool.and_true, Bool.false_and, Bool.and_false, Bool.true_eq_false, Bool.false_eq_true, i10, i20, i30, vp0, nc0]
  exact k
theorem q_meanFit {σ : St} {Zz : XH} {K : UInt64 → XH → Prop} {KX : String → XH → Prop} (w : Wd X σ Zz) (i : Inv (zG σ) n) (ht : t < 3) (k : K (gMean (zG σ) n t) X) : w_X4_meanFit 1 (Int32.ofNat t) X K KX := by
  have q := w.1
  have h : TR X 2 (zG σ) := w.2.1.1
  have h0 : inT (Int32.ofNat t) = true := inT_of ht
  simp only [w_X4_meanFit, q.t1, q.r1_0, q.t2, e_checkTongue, h0, hty_sI, hln_sI, hR_sI, cnd1, cnd2, b2i_0, b2i_1, b2i_z, if_true, if_false, true_and, and_true, true_implies, false_implies, ne_eq, not_false_eq_true, not_true_eq_false, eq_self, exIA, exIS, exAI, exAS, exSI, exSA, true_or, or_true, false_or, or_false, Nat.reduceEqDiff, Bool.true_and, Bool.and_true, Bool.false_and, Bool.and_false, Bool.true_eq_false, Bool.false_eq_true, i10, i20, i30, vp0, nc0]
  exact s_meanHundredths q h i ht (mean_ok i ht).1 k
/-- the bits, by hand -/
theorem bits_or {i T : Nat} (hi : i ≤ 22) (hT : T < 4503599627370496) : ((Int64.ofNat i + (1023 : Int64)) <<< ((52 : Int32).toInt64 &&& 63)) ||| Int64.ofNat T = UInt64.toInt64 (mkD (1023 + i) T) := by
  have e : ∀ i, i < 23 → (Int64.ofNat i + (1023 : Int64)) <<< ((52 : Int32).toInt64 &&& 63) = Int64.ofNat (4503599627370496 * (1023 + i)) := by decide +kernel
  rw [e i (by omega)]
  apply Int64.toBitVec_inj.1
  show BitVec.ofNat 64 (4503599627370496 * (1023 + i)) ||| BitVec.ofNat 64 T = BitVec.ofNat 64 ((1023 + i) * 4503599627370496 + T)
  apply BitVec.eq_of_toNat_eq
  rw [BitVec.toNat_or, BitVec.toNat_ofNat, BitVec.toNat_ofNat, BitVec.toNat_ofNat, Nat.mod_eq_of_lt (by omega), Nat.mod_eq_of_lt (by omega), Nat.mod_eq_of_lt (by omega)]
  have := Nat.two_pow_add_eq_or_of_lt (i := 52) (b := T) (by omega) (1023 + i)
  rw [show (2 : Nat) ^ 52 = 4503599627370496 from by decide] at this
  rw [← this, Nat.mul_comm]
theorem lgc {i : Nat} (hi : i ≤ 22) : ¬ (0 ≤ lg_cmp (Int64.ofNat i) (1023 : Int64)) := by
  have e : ∀ i, i < 23 → ¬ (0 ≤ lg_cmp (Int64.ofNat i) (1023 : Int64)) := by decide +kernel
  exact e i (by omega)
theorem bits_45 {i T : Nat} {K : Int64 → XH → Prop} (hi : i ≤ 22) (hT : T < 4503599627370496) (k : K (UInt64.toInt64 (mkD (1023 + i) T)) X) : w_X4_bitsOf_45 (mkD 1023 T) (Int64.ofNat i) X K := by
  obtain ⟨f1, f2, f3⟩ := frac_ok hT
  unfold w_X4_bitsOf_45
  rw [f3, bits_or hi hT]
  exact ⟨f1, f2, k⟩
theorem s_bitsOf {v : UInt64} {K : Int64 → XH → Prop} (hv : v = FP.dconst0 ∨ ∃ E T, 1023 ≤ E ∧ E ≤ 1045 ∧ T < 4503599627370496 ∧ v = mkD E T) (k : K (UInt64.toInt64 v) X) : w_X4_bitsOf v X K := by
  rcases hv with e | ⟨E, T, h1, h2, h3, e⟩
  · rw [e] at k ⊢
    unfold w_X4_bitsOf
    exact ⟨fun h => absurd h (by decide +kernel), fun _ => k⟩
  · rw [e] at k ⊢
    unfold w_X4_bitsOf
    refine ⟨fun _ => ?_, fun h => absurd (cmp_1 h1 h2 h3) h⟩
    unfold w_X4_bitsOf_13
    intro P hP
    have main : ∀ j i, i + j = E - 1023 → P (mkD (1023 + j) T) (Int64.ofNat i) X := by
      intro j
      induction j with
      | zero =>
        intro i hi
        refine hP _ _ _ ⟨fun _ => ?_, fun h => absurd (cmp_lt h3) h⟩
        refine bits_45 (by omega) h3 ?_
        rw [show 1023 + i = E by omega]
        exact k
      | succ j ih =>
        intro i hi
        refine hP _ _ _ ⟨fun h => absurd h (cmp_ge (by omega) (by omega) h3), fun _ => ⟨fun h => absurd h (lgc (by omega)), fun _ => ?_⟩⟩
        rw [half_mk (by omega) (by omega) h3]
        refine ⟨mkD_nn (by omega) h3, ?_⟩
        have := ih (i + 1) (by omega)
        rw [show Int64.ofNat (i + 1) = Int64.ofNat i + 1 from Int64.ofNat_add i 1] at this
        exact this
    have := main (E - 1023) 0 (by omega)
    rw [show 1023 + (E - 1023) = E by omega] at this
    exact this
end PR
