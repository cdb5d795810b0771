/-! doubles: means from 1 on, and their bits by hand -/
section PP
/-- the double with exponent field E and fraction T -/
def mkD (E T : Nat) : UInt64 := UInt64.ofNat (E * 4503599627370496 + T)
def Cb : FP.Core.Fmt := FP.Core.b64
theorem mkD_toNat {E T : Nat} (hE : E < 2048) (hT : T < 4503599627370496) : (mkD E T).toNat = E * 4503599627370496 + T := by
  unfold mkD
  rw [UInt64.toNat_ofNat']
  exact Nat.mod_eq_of_lt (by omega)
theorem mkD_c {E1 E2 T1 T2 : Nat} (h : E1 = E2) (h' : T1 = T2) : mkD E1 T1 = mkD E2 T2 := by rw [h, h']
theorem dat_c {c1 c2 : Nat} {q1 q2 : Int} (h : c1 = c2) (h' : q1 = q2) : FP.Core.Datum.fin false c1 q1 = .fin false c2 q2 := by rw [h, h']
theorem ord_ff (c1 c2 : Nat) (q1 q2 : Int) : FP.Core.order (.fin false c1 q1) (.fin false c2 q2) = some (compare ((c1 * 2 ^ (q1 - min q1 q2).toNat : Nat) : Int) ((c2 * 2 ^ (q2 - min q1 q2).toNat : Nat) : Int)) := rfl
theorem cmp_eq_self (a : Int) : compare a a = Ordering.eq := by
  show compareOfLessAndEq a a = _
  unfold compareOfLessAndEq
  rw [if_neg (by omega), if_pos rfl]
theorem cmp_gt_i {a b : Int} (h : b < a) : compare a b = Ordering.gt := by
  show compareOfLessAndEq a b = _
  unfold compareOfLessAndEq
  rw [if_neg (by omega), if_neg (by omega)]
theorem cmp_lt_i {a b : Int} (h : a < b) : compare a b = Ordering.lt := by
  show compareOfLessAndEq a b = _
  unfold compareOfLessAndEq
  rw [if_pos h]
theorem f_tails : FP.Core.b64.tails = 4503599627370496 := by decide
theorem f_exps : FP.Core.b64.exps = 2048 := by decide
theorem f_qmin : FP.Core.b64.qmin = -1074 := by decide
theorem f_qmax : FP.Core.b64.qmax = 971 := by decide
theorem f_p : (2 : Nat) ^ FP.Core.b64.p = 9007199254740992 := by decide
theorem f_pi : ((FP.Core.b64.p : Nat) : Int) = 53 := by decide
theorem dec_mk {E T : Nat} (h1 : 1 ≤ E) (hE : E < 2047) (hT : T < 4503599627370496) : FP.Core.decode FP.Core.b64 (E * 4503599627370496 + T) = .fin false (4503599627370496 + T) ((E : Int) - 1075) := by
  have e1 : (E * 4503599627370496 + T) / 4503599627370496 = E := by omega
  have e2 : (E * 4503599627370496 + T) % 4503599627370496 = T := by omega
  unfold FP.Core.decode FP.Core.fieldE FP.Core.fieldT FP.Core.fieldS
  rw [f_tails, f_exps, f_qmin, e1, e2, Nat.mod_eq_of_lt (show E < 2048 by omega), if_neg (by omega), if_neg (by omega), Nat.div_eq_of_lt (show E < 2048 by omega)]
  congr 1
  omega
theorem dec_0 : FP.Core.decode FP.Core.b64 0 = .fin false 0 (-1074) := by decide
theorem enc_fin {c : Nat} {q : Int} (h1 : 4503599627370496 ≤ c) (h2 : -1074 ≤ q) : FP.Core.encode FP.Core.b64 (.fin false c q) = ((q + 1074).toNat + 1) * 4503599627370496 + (c - 4503599627370496) := by
  unfold FP.Core.encode FP.Core.assemble
  simp only
  rw [f_tails, f_exps, f_qmin, if_neg (by omega)]
  rw [show (q - -1074) = q + 1074 by omega]
  simp
theorem enc_mk {c : Nat} {q : Int} (h1 : 4503599627370496 ≤ c) (h2 : -1074 ≤ q) : UInt64.ofNat (FP.Core.encode FP.Core.b64 (.fin false c q)) = mkD ((q + 1074).toNat + 1) (c - 4503599627370496) := by
  rw [enc_fin h1 h2]
  rfl
theorem log_52 {c : Nat} (h1 : 4503599627370496 ≤ c) (h2 : c < 9007199254740992) : c.log2 = 52 := by
  have hc : c ≠ 0 := by omega
  have a : c.log2 < 53 := (Nat.log2_lt hc).mpr h2
  have b : 52 ≤ c.log2 := (Nat.le_log2 hc).mpr h1
  omega
theorem lead_a {c1 c2 : Nat} (h1 : 4503599627370496 ≤ c1) (h2 : c1 < 9007199254740992) (h3 : 4503599627370496 ≤ c2) (h4 : c2 < 9007199254740992) (h : c2 ≤ c1) : FP.Core.leading c1 c2 = 0 := by
  unfold FP.Core.leading
  simp only [log_52 h1 h2, log_52 h3 h4, Int.sub_self, Int.toNat_zero, Int.neg_zero, Nat.pow_zero, Nat.mul_one]
  rw [if_pos h]
theorem lead_b {c1 c2 : Nat} (h1 : 4503599627370496 ≤ c1) (h2 : c1 < 9007199254740992) (h3 : 4503599627370496 ≤ c2) (h4 : c2 < 9007199254740992) (h : c1 < c2) : FP.Core.leading c1 c2 = -1 := by
  unfold FP.Core.leading
  simp only [log_52 h1 h2, log_52 h3 h4, Int.sub_self, Int.toNat_zero, Int.neg_zero, Nat.pow_zero, Nat.mul_one]
  rw [if_neg (by omega)]
  rfl
theorem near_exact {m d : Nat} (hd : 0 < d) : FP.Core.nearest (m * d) d = m := by
  unfold FP.Core.nearest
  rw [Nat.mul_mod_left, if_pos (by omega), Nat.mul_div_cancel _ hd]
theorem near_ge {a d m : Nat} (hd : 0 < d) (h : m * d ≤ a) : m ≤ FP.Core.nearest a d := by
  have : m ≤ a / d := (Nat.le_div_iff_mul_le hd).mpr h
  unfold FP.Core.nearest
  split
  · exact this
  · split <;> omega
theorem near_le {a d m : Nat} (hd : 0 < d) (h : a < m * d) : FP.Core.nearest a d ≤ m := by
  have : a / d < m := (Nat.div_lt_iff_lt_mul hd).mpr h
  unfold FP.Core.nearest
  split
  · omega
  · split
    · omega
    · have := Nat.mod_lt (a / d) (show 0 < 2 by decide)
      omega
/-- a quotient of two like numbers -/
theorem quo_mk {c1 c2 : Nat} {q1 q2 : Int} (h1 : 4503599627370496 ≤ c1) (h2 : c1 < 9007199254740992) (h3 : 4503599627370496 ≤ c2) (h4 : c2 < 9007199254740992) (hq : 0 ≤ q1 - q2) (hq' : q1 - q2 ≤ 20) (hc : q1 - q2 = 0 → c2 ≤ c1) : ∃ E T, 1023 ≤ E ∧ E ≤ 1045 ∧ T < 4503599627370496 ∧ UInt64.ofNat (FP.Core.encode FP.Core.b64 (FP.Core.quotient FP.Core.b64 (.fin false c1 q1) (.fin false c2 q2))) = mkD E T := by
  have hn : ¬ c1 = 0 := by omega
  have hn2 : ¬ c2 = 0 := by omega
  have fin : ∀ (r : Nat) (q : Int), 4503599627370496 ≤ r → r ≤ 9007199254740992 → -52 ≤ q → q ≤ -32 → ∃ E T, 1023 ≤ E ∧ E ≤ 1045 ∧ T < 4503599627370496 ∧ UInt64.ofNat (FP.Core.encode FP.Core.b64 (FP.Core.settle FP.Core.b64 false r q)) = mkD E T := by
    intro r q g1 g2 g3 g4
    unfold FP.Core.settle FP.Core.bound
    rw [f_p, f_qmax, f_tails]
    by_cases g5 : r < 9007199254740992
    · rw [if_pos g5, if_pos (by omega), enc_mk g1 (by omega)]
      exact ⟨_, _, by omega, by omega, by omega, rfl⟩
    · rw [if_neg g5, if_pos (by omega), enc_mk (by omega) (by omega)]
      exact ⟨_, _, by omega, by omega, by omega, rfl⟩
  unfold FP.Core.quotient
  simp only
  rw [if_neg hn2]
  unfold FP.Core.roundRatio
  rw [if_neg hn]
  unfold FP.Core.roundAt FP.Core.quantum
  rw [f_qmin, f_pi]
  show ∃ E T, _ ∧ _ ∧ _ ∧ UInt64.ofNat (FP.Core.encode FP.Core.b64 (FP.Core.settle FP.Core.b64 false _ _)) = mkD E T
  rcases Nat.lt_or_ge c1 c2 with h | h
  · rw [lead_b h1 h2 h3 h4 h]
    have e : max (-1074 : Int) (-1 + (q1 - q2) - (53 - 1)) = q1 - q2 - 53 := by omega
    rw [e]
    have hq0 : q1 - q2 ≠ 0 := fun e0 => by have := hc e0; omega
    unfold FP.Core.unitsNum FP.Core.unitsDen
    rw [show (q1 - q2 - (q1 - q2 - 53)).toNat = 53 by omega, show (q1 - q2 - 53 - (q1 - q2)).toNat = 0 by omega, Nat.pow_zero, Nat.mul_one]
    refine fin _ _ (near_ge (by omega) ?_) (near_le (by omega) ?_) (by omega) (by omega)
    · rw [show (2 : Nat) ^ 53 = 9007199254740992 from by decide]
      omega
    · rw [show (2 : Nat) ^ 53 = 9007199254740992 from by decide]
      omega
  · rw [lead_a h1 h2 h3 h4 h]
    have e : max (-1074 : Int) (0 + (q1 - q2) - (53 - 1)) = q1 - q2 - 52 := by omega
    rw [e]
    unfold FP.Core.unitsNum FP.Core.unitsDen
    rw [show (q1 - q2 - (q1 - q2 - 52)).toNat = 52 by omega, show (q1 - q2 - 52 - (q1 - q2)).toNat = 0 by omega, Nat.pow_zero, Nat.mul_one]
    refine fin _ _ (near_ge (by omega) ?_) (near_le (by omega) ?_) (by omega) (by omega)
    · rw [show (2 : Nat) ^ 52 = 4503599627370496 from by decide]
      omega
    · rw [show (2 : Nat) ^ 52 = 4503599627370496 from by decide]
      omega
theorem log_1 : (1 : Nat).log2 = 0 := by decide
/-- an int from 1 on, as a double -/
theorem i2d_mk {s : Nat} (h1 : 1 ≤ s) (h2 : s < 65536) : ∃ c, 4503599627370496 ≤ c ∧ c < 9007199254740992 ∧ c = s * 2 ^ (52 - s.log2) ∧ s.log2 < 16 ∧ FP.Core.decode FP.Core.b64 (FP.i2d (Int32.ofNat s)).toNat = .fin false c ((s.log2 : Int) - 52) := by
  have hs : s ≠ 0 := by omega
  have hl : s.log2 < 16 := (Nat.log2_lt hs).mpr h2
  have l1 : 2 ^ s.log2 ≤ s := Nat.log2_self_le hs
  have l2 : s < 2 ^ (s.log2 + 1) := Nat.lt_log2_self
  have p1 : 2 ^ s.log2 * 2 ^ (52 - s.log2) = 4503599627370496 := by
    rw [← Nat.pow_add, show s.log2 + (52 - s.log2) = 52 by omega]
  have p2 : 2 ^ (s.log2 + 1) * 2 ^ (52 - s.log2) = 9007199254740992 := by
    rw [← Nat.pow_add, show s.log2 + 1 + (52 - s.log2) = 53 by omega]
  have pp : 0 < 2 ^ (52 - s.log2) := Nat.two_pow_pos _
  have g1 : 4503599627370496 ≤ s * 2 ^ (52 - s.log2) := by rw [← p1]; exact Nat.mul_le_mul_right _ l1
  have g2 : s * 2 ^ (52 - s.log2) < 9007199254740992 := by rw [← p2]; exact Nat.mul_lt_mul_of_pos_right l2 pp
  refine ⟨_, g1, g2, rfl, hl, ?_⟩
  have e : FP.i2d (Int32.ofNat s) = mkD (s.log2 + 1023) (s * 2 ^ (52 - s.log2) - 4503599627370496) := by
    unfold FP.i2d FP.Core.i2d FP.Core.fromInt FP.Core.ofInt FP.Core.round
    simp only
    rw [Int32.toInt_ofNat_of_lt (by omega), show (decide ((s : Int) < 0)) = false from decide_eq_false (by omega), Int.natAbs_natCast]
    unfold FP.Core.roundRatio
    rw [if_neg hs]
    have ld : FP.Core.leading s 1 = (s.log2 : Int) := by
      unfold FP.Core.leading
      simp only [log_1]
      have e1 : ((s.log2 : Int) - ((0 : Nat) : Int)).toNat = s.log2 := by omega
      have e2 : (-((s.log2 : Int) - ((0 : Nat) : Int))).toNat = 0 := by omega
      rw [e1, e2, Nat.one_mul, Nat.pow_zero, Nat.mul_one, if_pos l1]
      omega
    unfold FP.Core.roundAt FP.Core.quantum
    rw [f_qmin, f_pi, ld]
    have eq : max (-1074 : Int) ((s.log2 : Int) + 0 - (53 - 1)) = (s.log2 : Int) - 52 := by omega
    rw [eq]
    unfold FP.Core.unitsNum FP.Core.unitsDen
    rw [show (0 - ((s.log2 : Int) - 52)).toNat = 52 - s.log2 by omega, show ((s.log2 : Int) - 52 - 0).toNat = 0 by omega, Nat.pow_zero]
    have ne := near_exact (m := s * 2 ^ (52 - s.log2)) (d := 1) (by decide)
    rw [Nat.mul_one] at ne
    rw [Nat.one_mul, ne]
    unfold FP.Core.settle FP.Core.bound
    rw [f_p, f_qmax, if_pos g2, if_pos (by omega), enc_mk g1 (by omega)]
    exact mkD_c (by omega) rfl
  rw [e, mkD_toNat (by omega) (by omega), dec_mk (by omega) (by omega) (by omega)]
  exact dat_c (by omega) (by omega)
theorem mean_mk {s n : Nat} (h1 : 1 ≤ n) (h2 : n ≤ s) (h3 : s < 65536) : ∃ E T, 1023 ≤ E ∧ E ≤ 1045 ∧ T < 4503599627370496 ∧ FP.ddiv (FP.i2d (Int32.ofNat s)) (FP.i2d (Int32.ofNat n)) = mkD E T := by
  obtain ⟨c1, a1, a2, a3, a4, a5⟩ := i2d_mk (s := s) (by omega) h3
  obtain ⟨c2, b1, b2, b3, b4, b5⟩ := i2d_mk (s := n) h1 (by omega)
  have hlog : n.log2 ≤ s.log2 := by
    have hs : s ≠ 0 := by omega
    exact (Nat.le_log2 hs).mpr (Nat.le_trans (Nat.log2_self_le (by omega)) h2)
  unfold FP.ddiv FP.Core.ddiv FP.Core.div
  rw [a5, b5]
  refine quo_mk a1 a2 b1 b2 (by omega) (by omega) (fun e => ?_)
  have e' : n.log2 = s.log2 := by omega
  rw [a3, b3, e']
  exact Nat.mul_le_mul_right _ h2
theorem mkD_nn {E T : Nat} (hE : E ≤ 2046) (hT : T < 4503599627370496) : vf_n64 (mkD E T) := by
  unfold vf_n64
  rw [UInt64.le_iff_toNat_le, UInt64.toNat_and, mkD_toNat (by omega) hT]
  refine Nat.le_trans Nat.and_le_left ?_
  have : (0x7ff0000000000000 : UInt64).toNat = 9218868437227405312 := by decide
  rw [this]
  omega
theorem z_nn : vf_n64 0 := by
  unfold vf_n64
  decide
theorem two_toNat : (4611686018427387904 : UInt64).toNat = 1024 * 4503599627370496 + 0 := by decide
theorem one_toNat : FP.dconst1.toNat = 1023 * 4503599627370496 + 0 := by decide
theorem big_toNat : (4841369599423283200 : UInt64).toNat = 1075 * 4503599627370496 + 0 := by decide
/-- half of it -/
theorem half_mk {E T : Nat} (h1 : 1024 ≤ E) (hE : E ≤ 1045) (hT : T < 4503599627370496) : FP.ddiv (mkD E T) 4611686018427387904 = mkD (E - 1) T := by
  unfold FP.ddiv FP.Core.ddiv FP.Core.div
  rw [mkD_toNat (by omega) hT, two_toNat, dec_mk (by omega) (by omega) hT, dec_mk (by decide) (by decide) (by decide)]
  unfold FP.Core.quotient
  simp only
  rw [if_neg (by decide)]
  unfold FP.Core.roundRatio
  rw [if_neg (by omega)]
  unfold FP.Core.roundAt FP.Core.quantum
  rw [f_qmin, f_pi, lead_a (by omega) (by omega) (by decide) (by decide) (by omega)]
  have e : max (-1074 : Int) (0 + ((E : Int) - 1075 - (((1024 : Nat) : Int) - 1075)) - (53 - 1)) = (E : Int) - 1076 := by omega
  rw [e]
  unfold FP.Core.unitsNum FP.Core.unitsDen
  rw [show ((E : Int) - 1075 - (((1024 : Nat) : Int) - 1075) - ((E : Int) - 1076)).toNat = 52 by omega, show ((E : Int) - 1076 - ((E : Int) - 1075 - (((1024 : Nat) : Int) - 1075))).toNat = 0 by omega, Nat.pow_zero, Nat.mul_one, Nat.add_zero, show (2 : Nat) ^ 52 = 4503599627370496 from by decide, near_exact (by decide)]
  unfold FP.Core.settle FP.Core.bound
  rw [f_p, f_qmax, if_pos (by omega), if_pos (by omega)]
  show UInt64.ofNat (FP.Core.encode FP.Core.b64 (.fin false _ _)) = _
  rw [enc_mk (by omega) (by omega)]
  exact mkD_c (by omega) (by omega)
/-- compared with 2 and with 1 -/
theorem cmp_ge {E T : Nat} (h1 : 1024 ≤ E) (hE : E ≤ 1045) (hT : T < 4503599627370496) : ¬ Op.cmpValue (FP.dcmp (mkD E T) 4611686018427387904) CmpOp.l < 0 := by
  unfold FP.dcmp FP.Core.dcmp FP.Core.cmp
  rw [mkD_toNat (by omega) hT, two_toNat, dec_mk (by omega) (by omega) hT, dec_mk (by decide) (by decide) (by decide)]
  rw [ord_ff]
  have em : min ((E : Int) - 1075) (((1024 : Nat) : Int) - 1075) = -51 := by omega
  rw [em]
  have e0 : (((1024 : Nat) : Int) - 1075 - -51).toNat = 0 := by omega
  rw [e0, Nat.pow_zero, Nat.mul_one]
  have p : 1 ≤ 2 ^ ((E : Int) - 1075 - -51).toNat := Nat.two_pow_pos _
  have g : 4503599627370496 ≤ (4503599627370496 + T) * 2 ^ ((E : Int) - 1075 - -51).toNat := Nat.le_trans (by omega) (Nat.le_mul_of_pos_right _ p)
  generalize (4503599627370496 + T) * 2 ^ ((E : Int) - 1075 - -51).toNat = y at g ⊢
  rcases Nat.lt_or_eq_of_le g with h | h
  · rw [show compare ((y : Nat) : Int) (((4503599627370496 + 0 : Nat)) : Int) = Ordering.gt from cmp_gt_i (by show ((4503599627370496 + 0 : Nat) : Int) < (y : Int); omega)]
    decide
  · rw [← h]
    decide
theorem cmp_lt {T : Nat} (hT : T < 4503599627370496) : Op.cmpValue (FP.dcmp (mkD 1023 T) 4611686018427387904) CmpOp.l < 0 := by
  unfold FP.dcmp FP.Core.dcmp FP.Core.cmp
  rw [mkD_toNat (by omega) hT, two_toNat, dec_mk (by omega) (by omega) hT, dec_mk (by decide) (by decide) (by decide)]
  rw [ord_ff]
  have em : min (((1023 : Nat) : Int) - 1075) (((1024 : Nat) : Int) - 1075) = -52 := by omega
  rw [em]
  have e0 : (((1024 : Nat) : Int) - 1075 - -52).toNat = 1 := by omega
  have e1 : (((1023 : Nat) : Int) - 1075 - -52).toNat = 0 := by omega
  rw [e0, e1, Nat.pow_zero, Nat.mul_one]
  rw [show compare (((4503599627370496 + T : Nat)) : Int) (((4503599627370496 + 0) * 2 ^ 1 : Nat) : Int) = Ordering.lt from cmp_lt_i (by show ((4503599627370496 + T : Nat) : Int) < (((4503599627370496 + 0) * 2 ^ 1 : Nat) : Int); omega)]
  decide
theorem cmp_1 {E T : Nat} (h1 : 1023 ≤ E) (hE : E ≤ 1045) (hT : T < 4503599627370496) : 0 ≤ Op.cmpValue (FP.dcmp (mkD E T) FP.dconst1) CmpOp.l := by
  unfold FP.dcmp FP.Core.dcmp FP.Core.cmp
  rw [mkD_toNat (by omega) hT, one_toNat, dec_mk (by omega) (by omega) hT, dec_mk (by decide) (by decide) (by decide)]
  rw [ord_ff]
  have em : min ((E : Int) - 1075) (((1023 : Nat) : Int) - 1075) = -52 := by omega
  rw [em]
  have e0 : (((1023 : Nat) : Int) - 1075 - -52).toNat = 0 := by omega
  rw [e0, Nat.pow_zero, Nat.mul_one]
  have p : 1 ≤ 2 ^ ((E : Int) - 1075 - -52).toNat := Nat.two_pow_pos _
  have g : 4503599627370496 ≤ (4503599627370496 + T) * 2 ^ ((E : Int) - 1075 - -52).toNat := Nat.le_trans (by omega) (Nat.le_mul_of_pos_right _ p)
  generalize (4503599627370496 + T) * 2 ^ ((E : Int) - 1075 - -52).toNat = y at g ⊢
  rcases Nat.lt_or_eq_of_le g with h | h
  · rw [show compare ((y : Nat) : Int) (((4503599627370496 + 0 : Nat)) : Int) = Ordering.gt from cmp_gt_i (by show ((4503599627370496 + 0 : Nat) : Int) < (y : Int); omega)]
    decide
  · rw [← h]
    decide
theorem cmp_self {E T : Nat} (h1 : 1 ≤ E) (hE : E ≤ 1045) (hT : T < 4503599627370496) : Op.cmpValue (FP.dcmp (mkD E T) (mkD E T)) CmpOp.l = 0 := by
  unfold FP.dcmp FP.Core.dcmp FP.Core.cmp
  rw [mkD_toNat (by omega) hT, dec_mk (by omega) (by omega) hT]
  rw [ord_ff, cmp_eq_self]
  rfl
/-- the fraction alone, and times 2 to the 52 -/
theorem frac_ok {T : Nat} (hT : T < 4503599627370496) : vf_n64 (FP.dsub (mkD 1023 T) FP.dconst1) ∧ vf_n64 (FP.dmul (FP.dsub (mkD 1023 T) FP.dconst1) 4841369599423283200) ∧ FP.d2l (FP.dmul (FP.dsub (mkD 1023 T) FP.dconst1) 4841369599423283200) = Int64.ofNat T := by
  have es : FP.Core.exactSum (.fin false (4503599627370496 + T) (((1023 : Nat) : Int) - 1075)) (.fin true (4503599627370496 + 0) (((1023 : Nat) : Int) - 1075)) = .fin false T (-52) := by
    unfold FP.Core.exactSum FP.Core.sumUnits FP.Core.inUnits FP.Core.signed FP.Core.sumSign
    have em : min (((1023 : Nat) : Int) - 1075) (((1023 : Nat) : Int) - 1075) = -52 := by omega
    have e0 : (((1023 : Nat) : Int) - 1075 - -52).toNat = 0 := by omega
    simp only [em, e0, Nat.pow_zero, Nat.mul_one, if_true, Bool.false_eq_true, if_false]
    have ev : (((4503599627370496 + T : Nat)) : Int) + -(((4503599627370496 + 0 : Nat)) : Int) = (T : Int) := by omega
    rw [ev, Int.natAbs_natCast]
    congr 1
    split
    · rfl
    · exact decide_eq_false (by omega)
  have ed : FP.dsub (mkD 1023 T) FP.dconst1 = UInt64.ofNat (FP.Core.encode FP.Core.b64 (FP.Core.roundRatio FP.Core.b64 false T 1 (-52))) := by
    unfold FP.dsub FP.Core.dsub FP.Core.sub
    rw [mkD_toNat (by decide) hT, one_toNat, dec_mk (by decide) (by decide) hT, dec_mk (by decide) (by decide) (by decide)]
    unfold FP.Core.negate
    simp only [Bool.not_false]
    rw [es]
    rfl
  by_cases h0 : T = 0
  · subst h0
    rw [ed]
    unfold vf_n64
    decide +kernel
  · have hl : T.log2 < 52 := (Nat.log2_lt h0).mpr hT
    have l1 : 2 ^ T.log2 ≤ T := Nat.log2_self_le h0
    have l2 : T < 2 ^ (T.log2 + 1) := Nat.lt_log2_self
    have p1 : 2 ^ T.log2 * 2 ^ (52 - T.log2) = 4503599627370496 := by
      rw [← Nat.pow_add, show T.log2 + (52 - T.log2) = 52 by omega]
    have p2 : 2 ^ (T.log2 + 1) * 2 ^ (52 - T.log2) = 9007199254740992 := by
      rw [← Nat.pow_add, show T.log2 + 1 + (52 - T.log2) = 53 by omega]
    have pp : 0 < 2 ^ (52 - T.log2) := Nat.two_pow_pos _
    have g1 : 4503599627370496 ≤ T * 2 ^ (52 - T.log2) := by rw [← p1]; exact Nat.mul_le_mul_right _ l1
    have g2 : T * 2 ^ (52 - T.log2) < 9007199254740992 := by rw [← p2]; exact Nat.mul_lt_mul_of_pos_right l2 pp
    have ld : FP.Core.leading T 1 = (T.log2 : Int) := by
      unfold FP.Core.leading
      simp only [log_1]
      have e1 : ((T.log2 : Int) - ((0 : Nat) : Int)).toNat = T.log2 := by omega
      have e2 : (-((T.log2 : Int) - ((0 : Nat) : Int))).toNat = 0 := by omega
      rw [e1, e2, Nat.one_mul, Nat.pow_zero, Nat.mul_one, if_pos l1]
      omega
    have e1 : FP.Core.roundRatio FP.Core.b64 false T 1 (-52) = .fin false (T * 2 ^ (52 - T.log2)) ((T.log2 : Int) - 104) := by
      unfold FP.Core.roundRatio
      rw [if_neg h0]
      unfold FP.Core.roundAt FP.Core.quantum
      rw [f_qmin, f_pi, ld]
      have eq : max (-1074 : Int) ((T.log2 : Int) + -52 - (53 - 1)) = (T.log2 : Int) - 104 := by omega
      rw [eq]
      unfold FP.Core.unitsNum FP.Core.unitsDen
      rw [show (-52 - ((T.log2 : Int) - 104)).toNat = 52 - T.log2 by omega, show ((T.log2 : Int) - 104 - -52).toNat = 0 by omega, Nat.pow_zero]
      have ne := near_exact (m := T * 2 ^ (52 - T.log2)) (d := 1) (by decide)
      rw [Nat.mul_one] at ne
      rw [Nat.one_mul, ne]
      unfold FP.Core.settle FP.Core.bound
      rw [f_p, f_qmax, if_pos g2, if_pos (by omega)]
    have e2 : FP.dsub (mkD 1023 T) FP.dconst1 = mkD (T.log2 + 971) (T * 2 ^ (52 - T.log2) - 4503599627370496) := by
      rw [ed, e1, enc_mk g1 (by omega)]
      exact mkD_c (by omega) rfl
    have e3 : FP.dmul (FP.dsub (mkD 1023 T) FP.dconst1) 4841369599423283200 = mkD (T.log2 + 1023) (T * 2 ^ (52 - T.log2) - 4503599627370496) := by
      rw [e2]
      unfold FP.dmul FP.Core.dmul FP.Core.mul
      rw [mkD_toNat (by omega) (by omega), big_toNat, dec_mk (by omega) (by omega) (by omega), dec_mk (by decide) (by decide) (by decide)]
      unfold FP.Core.exactProduct FP.Core.round
      simp only
      have ec : 4503599627370496 + (T * 2 ^ (52 - T.log2) - 4503599627370496) = T * 2 ^ (52 - T.log2) := by omega
      rw [ec]
      generalize hc : T * 2 ^ (52 - T.log2) = cc at g1 g2
      have hcc : cc * (4503599627370496 + 0) ≠ 0 := by omega
      have b1 : 20282409603651670423947251286016 ≤ cc * (4503599627370496 + 0) := by omega
      have b2 : cc * (4503599627370496 + 0) < 40564819207303340847894502572032 := by omega
      have lg : (cc * (4503599627370496 + 0)).log2 = 104 := by
        have a : (cc * (4503599627370496 + 0)).log2 < 105 := (Nat.log2_lt hcc).mpr b2
        have b : 104 ≤ (cc * (4503599627370496 + 0)).log2 := (Nat.le_log2 hcc).mpr b1
        omega
      have ld2 : FP.Core.leading (cc * (4503599627370496 + 0)) 1 = 104 := by
        unfold FP.Core.leading
        simp only [log_1, lg]
        rw [if_pos (by
          rw [show (((104 : Nat) : Int) - ((0 : Nat) : Int)).toNat = 104 by omega, show (-(((104 : Nat) : Int) - ((0 : Nat) : Int))).toNat = 0 by omega, Nat.pow_zero, Nat.mul_one, Nat.one_mul]
          exact b1)]
        rfl
      unfold FP.Core.roundRatio
      rw [if_neg hcc]
      unfold FP.Core.roundAt FP.Core.quantum
      rw [f_qmin, f_pi, ld2]
      have eq : max (-1074 : Int) (104 + (((T.log2 + 971 : Nat) : Int) - 1075 + (((1075 : Nat) : Int) - 1075)) - (53 - 1)) = (T.log2 : Int) - 52 := by omega
      rw [eq]
      unfold FP.Core.unitsNum FP.Core.unitsDen
      rw [show (((T.log2 + 971 : Nat) : Int) - 1075 + (((1075 : Nat) : Int) - 1075) - ((T.log2 : Int) - 52)).toNat = 0 by omega, show ((T.log2 : Int) - 52 - (((T.log2 + 971 : Nat) : Int) - 1075 + (((1075 : Nat) : Int) - 1075))).toNat = 52 by omega, Nat.pow_zero, Nat.mul_one, Nat.one_mul, Nat.add_zero, show (2 : Nat) ^ 52 = 4503599627370496 from by decide, near_exact (by decide)]
      unfold FP.Core.settle FP.Core.bound
      rw [f_p, f_qmax, if_pos g2, if_pos (by omega)]
      show UInt64.ofNat (FP.Core.encode FP.Core.b64 (.fin false _ _)) = _
      rw [enc_mk g1 (by omega)]
      exact mkD_c (by omega) rfl
    refine ⟨by rw [e2]; exact mkD_nn (by omega) (by omega), by rw [e3]; exact mkD_nn (by omega) (by omega), ?_⟩
    rw [e3]
    unfold FP.d2l FP.Core.d2l FP.Core.toL
    rw [mkD_toNat (by omega) (by omega), dec_mk (by omega) (by omega) (by omega)]
    have ec : 4503599627370496 + (T * 2 ^ (52 - T.log2) - 4503599627370496) = T * 2 ^ (52 - T.log2) := by omega
    rw [ec]
    unfold FP.Core.toInt FP.Core.truncate FP.Core.signed
    simp only [Bool.false_eq_true, if_false]
    rw [show (((T.log2 + 1023 : Nat) : Int) - 1075).toNat = 0 by omega, show (-(((T.log2 + 1023 : Nat) : Int) - 1075)).toNat = 52 - T.log2 by omega, Nat.pow_zero, Nat.mul_one, Nat.mul_div_cancel _ pp]
    have e5 : max (-2 ^ 63 : Int) (min (2 ^ 63 - 1) (T : Int)) = (T : Int) := by omega
    rw [e5, Int64.ofInt_eq_ofNat]
end PP
