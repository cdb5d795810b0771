/-! acts: an answer and a state that hangs together, the same for every heap -/
section AC
theorem nd {a b : Nat} (ha : a < 2147483648) (hb : b < 2147483648) : Int32.ofNat a / Int32.ofNat b = Int32.ofNat (a / b) := (Int32.ofNat_div ha hb).symm
theorem nr {a b : Nat} (ha : a < 2147483648) (hb : b < 2147483648) : Int32.ofNat a - Int32.ofNat a / Int32.ofNat b * Int32.ofNat b = Int32.ofNat (a % b) := by
  rw [nd ha hb, ← Int32.ofNat_mul, ← Int32.ofNat_sub _ _ (Nat.div_mul_le_self a b)]
  congr 1
  have := Nat.div_add_mod' a b
  omega
theorem c_le {a b c : Nat} (h : a ≤ b) (h2 : b ≤ c) : a ≤ c := Nat.le_trans h h2
variable {B : Nat} {σ : St} {l2 l7 l8 l9 : Int32}
/-- what is behind a step of the loop: the length, the state; at most 2 cells for each call -/
def A5 (B : Nat) (k : Nat) (W : (Nat → Int32 → Int32 → Int32 → Nat → Nat → XH → Prop) → Nat → Nat → XH → (Int32 → XH → Prop) → Prop) (l2 l7 : Int32) (σ : St) : Prop := ∃ v σ', InvS B σ' ∧ ∀ P X Zz K cc ss, cc + 2 * k ≤ 100 → ss + 12 * k ≤ 600 → Wd X σ Zz → (∀ X1 cc1 ss1, Wd X1 σ' Zz → cc1 ≤ cc + 2 * k → ss1 ≤ ss + 12 * k → P 1 l2 v (l7 + 1) cc1 ss1 X1) → W P cc ss X K
theorem a_509 (iS : InvS B σ) (s0 : Int32) : A5 B 1 (fun P cc ss X K => w_L_acts_509 P 1 l2 l7 l8 s0 cc ss X K) l2 l7 σ := by
  by_cases h : (l8 - l8 / (3 : Int32) * (3 : Int32)) = 0
  · obtain ⟨v, σ', iS', op⟩ := ex_append iS ((49 : Int32) + ((l8 / (8 : Int32)) - (l8 / (8 : Int32)) / (9 : Int32) * (9 : Int32)))
    refine ⟨v, σ', iS', fun P X Zz K cc ss hc hs w k => ⟨fun h' => absurd h h', fun _ => ⟨by omega, by omega, op X Zz _ w (fun X1 w1 => k X1 _ _ w1 (by omega) (by omega))⟩⟩⟩
  · exact ⟨s0, σ, iS, fun P X Zz K cc ss hc hs w k => ⟨fun _ => k X _ _ w (by omega) (by omega), fun h' => absurd h' h⟩⟩
theorem a_475 (iS : InvS B σ) (s0 : Int32) : A5 B 3 (fun P cc ss X K => w_L_acts_475 P 1 l2 l7 l8 l9 s0 cc ss X K) l2 l7 σ := by
  obtain ⟨v, σ1, iS1, op⟩ := ex_append iS ((48 : Int32) + (l9 - l9 / (10 : Int32) * (10 : Int32)))
  by_cases h : (l8 - l8 / (3 : Int32) * (3 : Int32)) = 0
  · obtain ⟨v2, σ2, iS2, op2⟩ := ex_append iS1 126
    obtain ⟨v3, σ3, iS3, op3⟩ := a_509 (l2 := l2) (l7 := l7) (l8 := l8) iS2 v2
    exact ⟨v3, σ3, iS3, fun P X Zz K cc ss hc hs w k => ⟨by omega, by omega, op X Zz _ w (fun X1 w1 => ⟨fun h' => absurd h h', fun _ => ⟨by omega, by omega, op2 X1 Zz _ w1 (fun X2 w2 => op3 P X2 Zz K _ _ (by omega) (by omega) w2 (fun X3 c3 s3 w3 h3 h4 => k X3 c3 s3 w3 (by omega) (by omega)))⟩⟩)⟩⟩
  · obtain ⟨v3, σ3, iS3, op3⟩ := a_509 (l2 := l2) (l7 := l7) (l8 := l8) iS1 v
    exact ⟨v3, σ3, iS3, fun P X Zz K cc ss hc hs w k => ⟨by omega, by omega, op X Zz _ w (fun X1 w1 => ⟨fun _ => op3 P X1 Zz K _ _ (by omega) (by omega) w1 (fun X3 c3 s3 w3 h3 h4 => k X3 c3 s3 w3 (by omega) (by omega)), fun h' => absurd h' h⟩)⟩⟩
theorem a_421 (iS : InvS B σ) (s0 : Int32) : A5 B 6 (fun P cc ss X K => w_L_acts_421 P 1 l2 l7 l8 l9 s0 cc ss X K) l2 l7 σ := by
  obtain ⟨v, σ1, iS1, op⟩ := ex_append iS ((48 : Int32) + (l8 - l8 / (4 : Int32) * (4 : Int32)))
  obtain ⟨v2, σ2, iS2, op2⟩ := ex_append iS1 ((65 : Int32) + ((l8 / (4 : Int32)) - (l8 / (4 : Int32)) / (5 : Int32) * (5 : Int32)))
  by_cases h : l9 ≤ (9 : Int32)
  · obtain ⟨v3, σ3, iS3, op3⟩ := a_475 (l2 := l2) (l7 := l7) (l8 := l8) (l9 := l9) iS2 v2
    exact ⟨v3, σ3, iS3, fun P X Zz K cc ss hc hs w k => ⟨by omega, by omega, op X Zz _ w (fun X1 w1 => ⟨by omega, by omega, op2 X1 Zz _ w1 (fun X2 w2 => ⟨fun _ => op3 P X2 Zz K _ _ (by omega) (by omega) w2 (fun X3 c3 s3 w3 h3 h4 => k X3 c3 s3 w3 (by omega) (by omega)), fun h' => absurd h h'⟩)⟩)⟩⟩
  · obtain ⟨v4, σ4, iS4, op4⟩ := ex_append iS2 ((48 : Int32) + (l9 / (10 : Int32)))
    obtain ⟨v3, σ3, iS3, op3⟩ := a_475 (l2 := l2) (l7 := l7) (l8 := l8) (l9 := l9) iS4 v4
    exact ⟨v3, σ3, iS3, fun P X Zz K cc ss hc hs w k => ⟨by omega, by omega, op X Zz _ w (fun X1 w1 => ⟨by omega, by omega, op2 X1 Zz _ w1 (fun X2 w2 => ⟨fun h' => absurd h' h, fun _ => ⟨by omega, by omega, op4 X2 Zz _ w2 (fun X4 w4 => op3 P X4 Zz K _ _ (by omega) (by omega) w4 (fun X3 c3 s3 w3 h3 h4 => k X3 c3 s3 w3 (by omega) (by omega)))⟩⟩)⟩)⟩⟩
theorem a_374 {M : Nat} (hM : (1 : Int32) + (l2 - l2 / (4 : Int32) * (4 : Int32)) = Int32.ofNat M) (hM4 : M ≤ 4) : ∀ d j (σ : St) (l6 : Int32), j + d = M → InvS B σ → ∃ v σ', InvS (B + 1) σ' ∧ ∀ X Zz K cc ss, cc ≤ 14 * j → ss ≤ 84 * j → Wd X σ Zz → (∀ X1, Wd X1 σ' Zz → K v X1) → w_L_acts_374 1 l2 l6 (Int32.ofNat j) cc ss X K
  | 0, j, σ, l6, hj, iS => by
    have ej : j = M := hj
    subst ej
    have e1 : Int32.ofNat j ≤ Int32.ofNat j := Int32.le_refl _
    by_cases h1 : l6 < (1 : Int32)
    · refine ⟨-99, σ, iS.up (Nat.le_succ B), fun X Zz K cc ss hc hs w k P hP => hP _ _ _ _ _ _ _ ⟨fun _ => ⟨fun _ => ⟨by omega, by omega, k X w⟩, fun h => absurd h1 h⟩, fun h => absurd (by rw [hM]; exact e1) h⟩⟩
    · by_cases h2 : Int32.ofNat (fErr σ) = l6
      · obtain ⟨v, σ', iS', op⟩ := ex_load iS
        refine ⟨v, σ', iS', fun X Zz K cc ss hc hs w k P hP => hP _ _ _ _ _ _ _ ⟨fun _ => ⟨fun h => absurd h h1, fun _ => ⟨by omega, by omega, w.1.t1, ok_firstError iS X Zz _ w (fun X1 w1 => ⟨fun _ => ⟨by omega, by omega, op X1 Zz _ w1 (fun X2 w2 => ⟨by omega, by omega, k X2 w2⟩)⟩, fun h => absurd h2 h⟩)⟩⟩, fun h => absurd (by rw [hM]; exact e1) h⟩⟩
      · refine ⟨-99, σ, iS.up (Nat.le_succ B), fun X Zz K cc ss hc hs w k P hP => hP _ _ _ _ _ _ _ ⟨fun _ => ⟨fun h => absurd h h1, fun _ => ⟨by omega, by omega, w.1.t1, ok_firstError iS X Zz _ w (fun X1 w1 => ⟨fun h => absurd h h2, fun _ => ⟨by omega, by omega, k X1 w1⟩⟩)⟩⟩, fun h => absurd (by rw [hM]; exact e1) h⟩⟩
  | d + 1, j, σ, l6, hj, iS => by
    have e1 : ¬ ((1 : Int32) + (l2 - l2 / (4 : Int32) * (4 : Int32)) ≤ Int32.ofNat j) := by
      rw [hM, of_le (by omega) (by omega)]
      omega
    have e2 : (Int32.ofNat j ≤ 0) = (j ≤ 0) := of_le (j := 0) (by omega) (by decide)
    by_cases h0 : j = 0
    · obtain ⟨v, σ1, iS1, op⟩ := a_421 (l2 := l2) (l7 := Int32.ofNat j) (l8 := (l2 / (4 : Int32)) >>> (((5 : Int32) * Int32.ofNat j) &&& 31)) (l9 := (4 : Int32) + ((((l2 / (4 : Int32)) >>> (((5 : Int32) * Int32.ofNat j) &&& 31)) / (16 : Int32)) - (((l2 / (4 : Int32)) >>> (((5 : Int32) * Int32.ofNat j) &&& 31)) / (16 : Int32)) / (57 : Int32) * (57 : Int32))) iS 0
      obtain ⟨v2, σ2, iS2, op2⟩ := a_374 hM hM4 d (j + 1) σ1 v (by omega) iS1
      refine ⟨v2, σ2, iS2, fun X Zz K cc ss hc hs w k P hP => hP _ _ _ _ _ _ _ ⟨fun h => absurd h e1, fun _ => ⟨fun _ => op P X Zz K cc ss (by omega) (by omega) w (fun X1 c1 s1 w1 h1 h2 => ?_), fun h => absurd (by rw [e2]; omega) h⟩⟩⟩
      have := op2 X1 Zz K c1 s1 (by omega) (by omega) w1 k P hP
      rw [← of_s] at this
      exact this
    · obtain ⟨v0, σ0, iS0, op0⟩ := ex_append iS 59
      obtain ⟨v, σ1, iS1, op⟩ := a_421 (l2 := l2) (l7 := Int32.ofNat j) (l8 := (l2 / (4 : Int32)) >>> (((5 : Int32) * Int32.ofNat j) &&& 31)) (l9 := (4 : Int32) + ((((l2 / (4 : Int32)) >>> (((5 : Int32) * Int32.ofNat j) &&& 31)) / (16 : Int32)) - (((l2 / (4 : Int32)) >>> (((5 : Int32) * Int32.ofNat j) &&& 31)) / (16 : Int32)) / (57 : Int32) * (57 : Int32))) iS0 v0
      obtain ⟨v2, σ2, iS2, op2⟩ := a_374 hM hM4 d (j + 1) σ1 v (by omega) iS1
      refine ⟨v2, σ2, iS2, fun X Zz K cc ss hc hs w k P hP => hP _ _ _ _ _ _ _ ⟨fun h => absurd h e1, fun _ => ⟨fun h => absurd h (by rw [e2]; omega), fun _ => ⟨by omega, by omega, op0 X Zz _ w (fun X0 w0 => op P X0 Zz K _ _ (by omega) (by omega) w0 (fun X1 c1 s1 w1 h1 h2 => ?_))⟩⟩⟩⟩
      have := op2 X1 Zz K c1 s1 (by omega) (by omega) w1 k P hP
      rw [← of_s] at this
      exact this
/-- a branch of the switch -/
def AB (B : Nat) (W : Nat → Nat → XH → (Int32 → XH → Prop) → Prop) (σ : St) : Prop := ∃ v σ', InvS (B + 1) σ' ∧ ∀ X Zz K, Wd X σ Zz → (∀ X1, Wd X1 σ' Zz → K v X1) → W 0 0 X K
theorem ab_of {w : XH → (Int32 → XH → Prop) → Prop} {n m : Nat} (h : Ex B w σ) (hn : n ≤ 100) (hm : m ≤ 600) : AB B (fun cc ss X K => (cc + n ≤ 100) ∧ (ss + m ≤ 600) ∧ w X (fun v X1 => (cc + n ≤ 100) ∧ (ss + m ≤ 600) ∧ K v X1)) σ := by
  obtain ⟨v, σ', iS', op⟩ := h
  exact ⟨v, σ', iS', fun X Zz K w k => ⟨by omega, by omega, op X Zz _ w (fun X1 w1 => ⟨by omega, by omega, k X1 w1⟩)⟩⟩
theorem ab_365 {M : Nat} (iS : InvS B σ) (hM : (1 : Int32) + (l2 - l2 / (4 : Int32) * (4 : Int32)) = Int32.ofNat M) (hM4 : M ≤ 4) : AB B (fun cc ss X K => w_L_acts_365 1 l2 cc ss X K) σ := by
  obtain ⟨v, σ', iS', op⟩ := a_374 hM hM4 M 0 (clrS σ) (Int32.ofNat (zN σ)) (by omega) iS.clr
  exact ⟨v, σ', iS', fun X Zz K w k => ⟨by omega, by omega, w.1.t1, ok_clearBuffer X Zz _ w (fun X1 w1 => op X1 Zz K 0 0 (by omega) (by omega) w1 k)⟩⟩
theorem ab_224 {l4 l5 : Int32} (iS : InvS B σ) : AB B (fun cc ss X K => w_L_acts_224 1 l2 l4 l5 cc ss X K) σ := by
  by_cases h : (l2 - l2 / (4 : Int32) * (4 : Int32)) = 0
  · obtain ⟨v, σ', iS', op⟩ := ex_translate iS l4 l5 ((1 : Int32) + ((l2 / (128 : Int32)) - (l2 / (128 : Int32)) / (60 : Int32) * (60 : Int32)))
    exact ⟨v, σ', iS', fun X Zz K w k => ⟨fun h' => absurd h h', fun _ => ⟨by omega, by omega, op X Zz _ w (fun X1 w1 => ⟨by omega, by omega, k X1 w1⟩)⟩⟩⟩
  · obtain ⟨v, σ', iS', op⟩ := ex_translate iS l4 l5 ((1 : Int32) + ((l2 / (128 : Int32)) - (l2 / (128 : Int32)) / (20 : Int32) * (20 : Int32)))
    exact ⟨v, σ', iS', fun X Zz K w k => ⟨fun _ => ⟨by omega, by omega, op X Zz _ w (fun X1 w1 => ⟨by omega, by omega, k X1 w1⟩)⟩, fun h' => absurd h' h⟩⟩
theorem ab_156 (iS : InvS B σ) : AB B (fun cc ss X K => w_L_acts_156 1 l2 cc ss X K) σ := by
  obtain ⟨v, σ', iS', op⟩ := ex_addClause iS (l2 - l2 / (3 : Int32) * (3 : Int32)) ((l2 / (4 : Int32)) - (l2 / (4 : Int32)) / (4 : Int32) * (4 : Int32)) ((4 : Int32) + ((l2 / (32 : Int32)) - (l2 / (32 : Int32)) / (57 : Int32) * (57 : Int32)))
  exact ⟨v, σ', iS', fun X Zz K w k => ⟨by omega, by omega, op X Zz _ w (fun X1 w1 => ⟨by omega, by omega, k X1 w1⟩)⟩⟩
theorem ab_178 {l4 : Int32} (iS : InvS B σ) : AB B (fun cc ss X K => w_L_acts_178 1 l2 l4 cc ss X K) σ := by
  obtain ⟨v, σ', iS', op⟩ := ex_changeLips iS l4 ((4 : Int32) + ((l2 / (128 : Int32)) - (l2 / (128 : Int32)) / (57 : Int32) * (57 : Int32)))
  exact ⟨v, σ', iS', fun X Zz K w k => ⟨by omega, by omega, op X Zz _ w (fun X1 w1 => ⟨by omega, by omega, k X1 w1⟩)⟩⟩
theorem ab_195 {l4 : Int32} (iS : InvS B σ) : AB B (fun cc ss X K => w_L_acts_195 1 l2 l4 cc ss X K) σ := by
  obtain ⟨v, σ', iS', op⟩ := ex_changeSigh iS l4 ((l2 / (128 : Int32)) - (l2 / (128 : Int32)) / (12 : Int32) * (12 : Int32))
  exact ⟨v, σ', iS', fun X Zz K w k => ⟨by omega, by omega, op X Zz _ w (fun X1 w1 => ⟨by omega, by omega, k X1 w1⟩)⟩⟩
theorem ab_210 {l4 : Int32} (iS : InvS B σ) : AB B (fun cc ss X K => w_L_acts_210 1 l2 l4 cc ss X K) σ := by
  obtain ⟨v, σ', iS', op⟩ := ex_moveClause iS l4 ((l2 / (128 : Int32)) - (l2 / (128 : Int32)) / (4 : Int32) * (4 : Int32))
  exact ⟨v, σ', iS', fun X Zz K w k => ⟨by omega, by omega, op X Zz _ w (fun X1 w1 => ⟨by omega, by omega, k X1 w1⟩)⟩⟩
theorem ab_254 {l4 l5 : Int32} (iS : InvS B σ) : AB B (fun cc ss X K => w_L_acts_254 1 l2 l4 l5 cc ss X K) σ := by
  obtain ⟨v, σ', iS', op⟩ := ex_annex iS l4 l5 ((1 : Int32) + ((l2 / (128 : Int32)) - (l2 / (128 : Int32)) / (12 : Int32) * (12 : Int32)))
  exact ⟨v, σ', iS', fun X Zz K w k => ⟨by omega, by omega, op X Zz _ w (fun X1 w1 => ⟨by omega, by omega, k X1 w1⟩)⟩⟩
theorem ab_273 {l4 l5 : Int32} (iS : InvS B σ) : AB B (fun cc ss X K => w_L_acts_273 1 l4 l5 cc ss X K) σ := by
  obtain ⟨v, σ', iS', op⟩ := ex_bringBack iS l4 l5
  exact ⟨v, σ', iS', fun X Zz K w k => ⟨by omega, by omega, op X Zz _ w (fun X1 w1 => ⟨by omega, by omega, k X1 w1⟩)⟩⟩
theorem ab_282 {l5 : Int32} (iS : InvS B σ) : AB B (fun cc ss X K => w_L_acts_282 1 l2 l5 cc ss X K) σ := by
  obtain ⟨v, σ', iS', op⟩ := ex_cast iS (l2 - l2 / (5 : Int32) * (5 : Int32)) l5 ((20 : Int32) + ((l2 / (128 : Int32)) - (l2 / (128 : Int32)) / (101 : Int32) * (101 : Int32)))
  exact ⟨v, σ', iS', fun X Zz K w k => ⟨by omega, by omega, op X Zz _ w (fun X1 w1 => ⟨by omega, by omega, k X1 w1⟩)⟩⟩
theorem ab_303 (iS : InvS B σ) : AB B (fun cc ss X K => w_L_acts_303 1 cc ss X K) σ := by
  obtain ⟨v, σ', iS', op⟩ := ex_nextSession iS 
  exact ⟨v, σ', iS', fun X Zz K w k => ⟨by omega, by omega, op X Zz _ w (fun X1 w1 => ⟨by omega, by omega, k X1 w1⟩)⟩⟩
theorem ab_308 {l4 l5 : Int32} (iS : InvS B σ) : AB B (fun cc ss X K => w_L_acts_308 1 l4 l5 cc ss X K) σ := by
  obtain ⟨v, σ', iS', op⟩ := ex_wipe iS l4 l5
  exact ⟨v, σ', iS', fun X Zz K w k => ⟨by omega, by omega, op X Zz _ w (fun X1 w1 => ⟨by omega, by omega, k X1 w1⟩)⟩⟩
theorem ab_317 {l5 : Int32} (iS : InvS B σ) : AB B (fun cc ss X K => w_L_acts_317 1 l2 l5 cc ss X K) σ := by
  obtain ⟨v, σ', iS', op⟩ := ex_mix iS (l2 - l2 / (3 : Int32) * (3 : Int32)) l5
  exact ⟨v, σ', iS', fun X Zz K w k => ⟨by omega, by omega, op X Zz _ w (fun X1 w1 => ⟨by omega, by omega, k X1 w1⟩)⟩⟩
theorem ab_327 {l5 : Int32} (iS : InvS B σ) : AB B (fun cc ss X K => w_L_acts_327 1 l2 l5 cc ss X K) σ := by
  obtain ⟨v, σ', iS', op⟩ := ex_sign iS ((l2 / (128 : Int32)) - (l2 / (128 : Int32)) / (5 : Int32) * (5 : Int32)) (l2 - l2 / (3 : Int32) * (3 : Int32)) l5
  exact ⟨v, σ', iS', fun X Zz K w k => ⟨by omega, by omega, op X Zz _ w (fun X1 w1 => ⟨by omega, by omega, k X1 w1⟩)⟩⟩
theorem ab_344 (iS : InvS B σ) : AB B (fun cc ss X K => w_L_acts_344 1 cc ss X K) σ := by
  obtain ⟨v, σ', iS', op⟩ := ex_undo iS 
  exact ⟨v, σ', iS', fun X Zz K w k => ⟨by omega, by omega, op X Zz _ w (fun X1 w1 => ⟨by omega, by omega, k X1 w1⟩)⟩⟩
theorem ab_349 (iS : InvS B σ) : AB B (fun cc ss X K => w_L_acts_349 1 l2 cc ss X K) σ := by
  obtain ⟨v, σ', iS', op⟩ := ex_keep iS (l2 - l2 / (2 : Int32) * (2 : Int32))
  exact ⟨v, σ', iS', fun X Zz K w k => ⟨by omega, by omega, op X Zz _ w (fun X1 w1 => ⟨by omega, by omega, k X1 w1⟩)⟩⟩
theorem ab_357 (iS : InvS B σ) : AB B (fun cc ss X K => w_L_acts_357 1 l2 cc ss X K) σ := by
  obtain ⟨v, σ', iS', op⟩ := ex_goBack iS (l2 - l2 / (2 : Int32) * (2 : Int32))
  exact ⟨v, σ', iS', fun X Zz K w k => ⟨by omega, by omega, op X Zz _ w (fun X1 w1 => ⟨by omega, by omega, k X1 w1⟩)⟩⟩
theorem ab_44 {M : Nat} {l4 l5 : Int32} (s0 : Int32) (iS : InvS B σ) (hM : (1 : Int32) + (l2 - l2 / (4 : Int32) * (4 : Int32)) = Int32.ofNat M) (hM4 : M ≤ 4) : AB B (fun cc ss X K => w_L_acts_44 1 l2 l4 l5 s0 cc ss X K) σ := by
  have one : ∀ {W : Nat → Nat → XH → (Int32 → XH → Prop) → Prop}, AB B W σ → (∀ X K, W 0 0 X K → w_L_acts_44 1 l2 l4 l5 s0 0 0 X K) → AB B (fun cc ss X K => w_L_acts_44 1 l2 l4 l5 s0 cc ss X K) σ := fun h hw => by
    obtain ⟨v, σ', iS', op⟩ := h
    exact ⟨v, σ', iS', fun X Zz K w k => hw X K (op X Zz K w k)⟩
  by_cases g : s0.toInt < 0 ∨ 23 < s0.toInt
  · refine one (ab_of (n := 3) (m := 18) (ex_recordIt iS l4 l5) (by decide) (by decide)) (fun X K h => ?_)
    unfold w_L_acts_44
    refine ⟨fun _ => h, ?_⟩
    refine ⟨fun e => ?_, fun e => ?_, fun e => ?_, fun e => ?_, fun e => ?_, fun e => ?_, fun e => ?_, fun e => ?_, fun e => ?_, fun e => ?_, fun e => ?_, fun e => ?_, fun e => ?_, fun e => ?_, fun e => ?_, fun e => ?_, fun e => ?_, fun e => ?_, fun e => ?_, fun e => ?_, fun e => ?_, fun e => ?_, fun e => ?_, fun e => ?_⟩ <;> (exfalso; omega)
  · have hlt : ∃ j : Nat, j < 24 ∧ s0.toInt = (j : Int) := ⟨s0.toInt.toNat, by omega, by omega⟩
    obtain ⟨j, hj, ej⟩ := hlt
    match j, hj, ej with
    | 0, _, ej =>
      refine one (W := fun cc ss X K => w_L_acts_156 1 l2 cc ss X K) (ab_156 iS) (fun X K h => ?_)
      unfold w_L_acts_44
      refine ⟨fun h' => absurd h' g, fun _ => h, fun e => ?_, fun e => ?_, fun e => ?_, fun e => ?_, fun e => ?_, fun e => ?_, fun e => ?_, fun e => ?_, fun e => ?_, fun e => ?_, fun e => ?_, fun e => ?_, fun e => ?_, fun e => ?_, fun e => ?_, fun e => ?_, fun e => ?_, fun e => ?_, fun e => ?_, fun e => ?_, fun e => ?_, fun e => ?_, fun e => ?_⟩ <;> (exfalso; omega)
    | 1, _, ej =>
      refine one (W := fun cc ss X K => w_L_acts_156 1 l2 cc ss X K) (ab_156 iS) (fun X K h => ?_)
      unfold w_L_acts_44
      refine ⟨fun h' => absurd h' g, fun e => ?_, fun _ => h, fun e => ?_, fun e => ?_, fun e => ?_, fun e => ?_, fun e => ?_, fun e => ?_, fun e => ?_, fun e => ?_, fun e => ?_, fun e => ?_, fun e => ?_, fun e => ?_, fun e => ?_, fun e => ?_, fun e => ?_, fun e => ?_, fun e => ?_, fun e => ?_, fun e => ?_, fun e => ?_, fun e => ?_, fun e => ?_⟩ <;> (exfalso; omega)
    | 2, _, ej =>
      refine one (W := fun cc ss X K => w_L_acts_178 1 l2 l4 cc ss X K) (ab_178 iS) (fun X K h => ?_)
      unfold w_L_acts_44
      refine ⟨fun h' => absurd h' g, fun e => ?_, fun e => ?_, fun _ => h, fun e => ?_, fun e => ?_, fun e => ?_, fun e => ?_, fun e => ?_, fun e => ?_, fun e => ?_, fun e => ?_, fun e => ?_, fun e => ?_, fun e => ?_, fun e => ?_, fun e => ?_, fun e => ?_, fun e => ?_, fun e => ?_, fun e => ?_, fun e => ?_, fun e => ?_, fun e => ?_, fun e => ?_⟩ <;> (exfalso; omega)
    | 3, _, ej =>
      refine one (W := fun cc ss X K => w_L_acts_195 1 l2 l4 cc ss X K) (ab_195 iS) (fun X K h => ?_)
      unfold w_L_acts_44
      refine ⟨fun h' => absurd h' g, fun e => ?_, fun e => ?_, fun e => ?_, fun _ => h, fun e => ?_, fun e => ?_, fun e => ?_, fun e => ?_, fun e => ?_, fun e => ?_, fun e => ?_, fun e => ?_, fun e => ?_, fun e => ?_, fun e => ?_, fun e => ?_, fun e => ?_, fun e => ?_, fun e => ?_, fun e => ?_, fun e => ?_, fun e => ?_, fun e => ?_, fun e => ?_⟩ <;> (exfalso; omega)
    | 4, _, ej =>
      refine one (W := fun cc ss X K => w_L_acts_195 1 l2 l4 cc ss X K) (ab_195 iS) (fun X K h => ?_)
      unfold w_L_acts_44
      refine ⟨fun h' => absurd h' g, fun e => ?_, fun e => ?_, fun e => ?_, fun e => ?_, fun _ => h, fun e => ?_, fun e => ?_, fun e => ?_, fun e => ?_, fun e => ?_, fun e => ?_, fun e => ?_, fun e => ?_, fun e => ?_, fun e => ?_, fun e => ?_, fun e => ?_, fun e => ?_, fun e => ?_, fun e => ?_, fun e => ?_, fun e => ?_, fun e => ?_, fun e => ?_⟩ <;> (exfalso; omega)
    | 5, _, ej =>
      refine one (W := fun cc ss X K => w_L_acts_210 1 l2 l4 cc ss X K) (ab_210 iS) (fun X K h => ?_)
      unfold w_L_acts_44
      refine ⟨fun h' => absurd h' g, fun e => ?_, fun e => ?_, fun e => ?_, fun e => ?_, fun e => ?_, fun _ => h, fun e => ?_, fun e => ?_, fun e => ?_, fun e => ?_, fun e => ?_, fun e => ?_, fun e => ?_, fun e => ?_, fun e => ?_, fun e => ?_, fun e => ?_, fun e => ?_, fun e => ?_, fun e => ?_, fun e => ?_, fun e => ?_, fun e => ?_, fun e => ?_⟩ <;> (exfalso; omega)
    | 6, _, ej =>
      refine one (W := fun cc ss X K => w_L_acts_224 1 l2 l4 l5 cc ss X K) (ab_224 iS) (fun X K h => ?_)
      unfold w_L_acts_44
      refine ⟨fun h' => absurd h' g, fun e => ?_, fun e => ?_, fun e => ?_, fun e => ?_, fun e => ?_, fun e => ?_, fun _ => h, fun e => ?_, fun e => ?_, fun e => ?_, fun e => ?_, fun e => ?_, fun e => ?_, fun e => ?_, fun e => ?_, fun e => ?_, fun e => ?_, fun e => ?_, fun e => ?_, fun e => ?_, fun e => ?_, fun e => ?_, fun e => ?_, fun e => ?_⟩ <;> (exfalso; omega)
    | 7, _, ej =>
      refine one (W := fun cc ss X K => w_L_acts_224 1 l2 l4 l5 cc ss X K) (ab_224 iS) (fun X K h => ?_)
      unfold w_L_acts_44
      refine ⟨fun h' => absurd h' g, fun e => ?_, fun e => ?_, fun e => ?_, fun e => ?_, fun e => ?_, fun e => ?_, fun e => ?_, fun _ => h, fun e => ?_, fun e => ?_, fun e => ?_, fun e => ?_, fun e => ?_, fun e => ?_, fun e => ?_, fun e => ?_, fun e => ?_, fun e => ?_, fun e => ?_, fun e => ?_, fun e => ?_, fun e => ?_, fun e => ?_, fun e => ?_⟩ <;> (exfalso; omega)
    | 8, _, ej =>
      refine one (W := fun cc ss X K => w_L_acts_224 1 l2 l4 l5 cc ss X K) (ab_224 iS) (fun X K h => ?_)
      unfold w_L_acts_44
      refine ⟨fun h' => absurd h' g, fun e => ?_, fun e => ?_, fun e => ?_, fun e => ?_, fun e => ?_, fun e => ?_, fun e => ?_, fun e => ?_, fun _ => h, fun e => ?_, fun e => ?_, fun e => ?_, fun e => ?_, fun e => ?_, fun e => ?_, fun e => ?_, fun e => ?_, fun e => ?_, fun e => ?_, fun e => ?_, fun e => ?_, fun e => ?_, fun e => ?_, fun e => ?_⟩ <;> (exfalso; omega)
    | 9, _, ej =>
      refine one (W := fun cc ss X K => w_L_acts_224 1 l2 l4 l5 cc ss X K) (ab_224 iS) (fun X K h => ?_)
      unfold w_L_acts_44
      refine ⟨fun h' => absurd h' g, fun e => ?_, fun e => ?_, fun e => ?_, fun e => ?_, fun e => ?_, fun e => ?_, fun e => ?_, fun e => ?_, fun e => ?_, fun _ => h, fun e => ?_, fun e => ?_, fun e => ?_, fun e => ?_, fun e => ?_, fun e => ?_, fun e => ?_, fun e => ?_, fun e => ?_, fun e => ?_, fun e => ?_, fun e => ?_, fun e => ?_, fun e => ?_⟩ <;> (exfalso; omega)
    | 10, _, ej =>
      refine one (W := fun cc ss X K => w_L_acts_224 1 l2 l4 l5 cc ss X K) (ab_224 iS) (fun X K h => ?_)
      unfold w_L_acts_44
      refine ⟨fun h' => absurd h' g, fun e => ?_, fun e => ?_, fun e => ?_, fun e => ?_, fun e => ?_, fun e => ?_, fun e => ?_, fun e => ?_, fun e => ?_, fun e => ?_, fun _ => h, fun e => ?_, fun e => ?_, fun e => ?_, fun e => ?_, fun e => ?_, fun e => ?_, fun e => ?_, fun e => ?_, fun e => ?_, fun e => ?_, fun e => ?_, fun e => ?_, fun e => ?_⟩ <;> (exfalso; omega)
    | 11, _, ej =>
      refine one (W := fun cc ss X K => w_L_acts_224 1 l2 l4 l5 cc ss X K) (ab_224 iS) (fun X K h => ?_)
      unfold w_L_acts_44
      refine ⟨fun h' => absurd h' g, fun e => ?_, fun e => ?_, fun e => ?_, fun e => ?_, fun e => ?_, fun e => ?_, fun e => ?_, fun e => ?_, fun e => ?_, fun e => ?_, fun e => ?_, fun _ => h, fun e => ?_, fun e => ?_, fun e => ?_, fun e => ?_, fun e => ?_, fun e => ?_, fun e => ?_, fun e => ?_, fun e => ?_, fun e => ?_, fun e => ?_, fun e => ?_⟩ <;> (exfalso; omega)
    | 12, _, ej =>
      refine one (W := fun cc ss X K => w_L_acts_254 1 l2 l4 l5 cc ss X K) (ab_254 iS) (fun X K h => ?_)
      unfold w_L_acts_44
      refine ⟨fun h' => absurd h' g, fun e => ?_, fun e => ?_, fun e => ?_, fun e => ?_, fun e => ?_, fun e => ?_, fun e => ?_, fun e => ?_, fun e => ?_, fun e => ?_, fun e => ?_, fun e => ?_, fun _ => h, fun e => ?_, fun e => ?_, fun e => ?_, fun e => ?_, fun e => ?_, fun e => ?_, fun e => ?_, fun e => ?_, fun e => ?_, fun e => ?_, fun e => ?_⟩ <;> (exfalso; omega)
    | 13, _, ej =>
      refine one (W := fun cc ss X K => w_L_acts_273 1 l4 l5 cc ss X K) (ab_273 iS) (fun X K h => ?_)
      unfold w_L_acts_44
      refine ⟨fun h' => absurd h' g, fun e => ?_, fun e => ?_, fun e => ?_, fun e => ?_, fun e => ?_, fun e => ?_, fun e => ?_, fun e => ?_, fun e => ?_, fun e => ?_, fun e => ?_, fun e => ?_, fun e => ?_, fun _ => h, fun e => ?_, fun e => ?_, fun e => ?_, fun e => ?_, fun e => ?_, fun e => ?_, fun e => ?_, fun e => ?_, fun e => ?_, fun e => ?_⟩ <;> (exfalso; omega)
    | 14, _, ej =>
      refine one (W := fun cc ss X K => w_L_acts_282 1 l2 l5 cc ss X K) (ab_282 iS) (fun X K h => ?_)
      unfold w_L_acts_44
      refine ⟨fun h' => absurd h' g, fun e => ?_, fun e => ?_, fun e => ?_, fun e => ?_, fun e => ?_, fun e => ?_, fun e => ?_, fun e => ?_, fun e => ?_, fun e => ?_, fun e => ?_, fun e => ?_, fun e => ?_, fun e => ?_, fun _ => h, fun e => ?_, fun e => ?_, fun e => ?_, fun e => ?_, fun e => ?_, fun e => ?_, fun e => ?_, fun e => ?_, fun e => ?_⟩ <;> (exfalso; omega)
    | 15, _, ej =>
      refine one (W := fun cc ss X K => w_L_acts_303 1 cc ss X K) (ab_303 iS) (fun X K h => ?_)
      unfold w_L_acts_44
      refine ⟨fun h' => absurd h' g, fun e => ?_, fun e => ?_, fun e => ?_, fun e => ?_, fun e => ?_, fun e => ?_, fun e => ?_, fun e => ?_, fun e => ?_, fun e => ?_, fun e => ?_, fun e => ?_, fun e => ?_, fun e => ?_, fun e => ?_, fun _ => h, fun e => ?_, fun e => ?_, fun e => ?_, fun e => ?_, fun e => ?_, fun e => ?_, fun e => ?_, fun e => ?_⟩ <;> (exfalso; omega)
    | 16, _, ej =>
      refine one (W := fun cc ss X K => w_L_acts_308 1 l4 l5 cc ss X K) (ab_308 iS) (fun X K h => ?_)
      unfold w_L_acts_44
      refine ⟨fun h' => absurd h' g, fun e => ?_, fun e => ?_, fun e => ?_, fun e => ?_, fun e => ?_, fun e => ?_, fun e => ?_, fun e => ?_, fun e => ?_, fun e => ?_, fun e => ?_, fun e => ?_, fun e => ?_, fun e => ?_, fun e => ?_, fun e => ?_, fun _ => h, fun e => ?_, fun e => ?_, fun e => ?_, fun e => ?_, fun e => ?_, fun e => ?_, fun e => ?_⟩ <;> (exfalso; omega)
    | 17, _, ej =>
      refine one (W := fun cc ss X K => w_L_acts_317 1 l2 l5 cc ss X K) (ab_317 iS) (fun X K h => ?_)
      unfold w_L_acts_44
      refine ⟨fun h' => absurd h' g, fun e => ?_, fun e => ?_, fun e => ?_, fun e => ?_, fun e => ?_, fun e => ?_, fun e => ?_, fun e => ?_, fun e => ?_, fun e => ?_, fun e => ?_, fun e => ?_, fun e => ?_, fun e => ?_, fun e => ?_, fun e => ?_, fun e => ?_, fun _ => h, fun e => ?_, fun e => ?_, fun e => ?_, fun e => ?_, fun e => ?_, fun e => ?_⟩ <;> (exfalso; omega)
    | 18, _, ej =>
      refine one (W := fun cc ss X K => w_L_acts_327 1 l2 l5 cc ss X K) (ab_327 iS) (fun X K h => ?_)
      unfold w_L_acts_44
      refine ⟨fun h' => absurd h' g, fun e => ?_, fun e => ?_, fun e => ?_, fun e => ?_, fun e => ?_, fun e => ?_, fun e => ?_, fun e => ?_, fun e => ?_, fun e => ?_, fun e => ?_, fun e => ?_, fun e => ?_, fun e => ?_, fun e => ?_, fun e => ?_, fun e => ?_, fun e => ?_, fun _ => h, fun e => ?_, fun e => ?_, fun e => ?_, fun e => ?_, fun e => ?_⟩ <;> (exfalso; omega)
    | 19, _, ej =>
      refine one (W := fun cc ss X K => w_L_acts_327 1 l2 l5 cc ss X K) (ab_327 iS) (fun X K h => ?_)
      unfold w_L_acts_44
      refine ⟨fun h' => absurd h' g, fun e => ?_, fun e => ?_, fun e => ?_, fun e => ?_, fun e => ?_, fun e => ?_, fun e => ?_, fun e => ?_, fun e => ?_, fun e => ?_, fun e => ?_, fun e => ?_, fun e => ?_, fun e => ?_, fun e => ?_, fun e => ?_, fun e => ?_, fun e => ?_, fun e => ?_, fun _ => h, fun e => ?_, fun e => ?_, fun e => ?_, fun e => ?_⟩ <;> (exfalso; omega)
    | 20, _, ej =>
      refine one (W := fun cc ss X K => w_L_acts_344 1 cc ss X K) (ab_344 iS) (fun X K h => ?_)
      unfold w_L_acts_44
      refine ⟨fun h' => absurd h' g, fun e => ?_, fun e => ?_, fun e => ?_, fun e => ?_, fun e => ?_, fun e => ?_, fun e => ?_, fun e => ?_, fun e => ?_, fun e => ?_, fun e => ?_, fun e => ?_, fun e => ?_, fun e => ?_, fun e => ?_, fun e => ?_, fun e => ?_, fun e => ?_, fun e => ?_, fun e => ?_, fun _ => h, fun e => ?_, fun e => ?_, fun e => ?_⟩ <;> (exfalso; omega)
    | 21, _, ej =>
      refine one (W := fun cc ss X K => w_L_acts_349 1 l2 cc ss X K) (ab_349 iS) (fun X K h => ?_)
      unfold w_L_acts_44
      refine ⟨fun h' => absurd h' g, fun e => ?_, fun e => ?_, fun e => ?_, fun e => ?_, fun e => ?_, fun e => ?_, fun e => ?_, fun e => ?_, fun e => ?_, fun e => ?_, fun e => ?_, fun e => ?_, fun e => ?_, fun e => ?_, fun e => ?_, fun e => ?_, fun e => ?_, fun e => ?_, fun e => ?_, fun e => ?_, fun e => ?_, fun _ => h, fun e => ?_, fun e => ?_⟩ <;> (exfalso; omega)
    | 22, _, ej =>
      refine one (W := fun cc ss X K => w_L_acts_357 1 l2 cc ss X K) (ab_357 iS) (fun X K h => ?_)
      unfold w_L_acts_44
      refine ⟨fun h' => absurd h' g, fun e => ?_, fun e => ?_, fun e => ?_, fun e => ?_, fun e => ?_, fun e => ?_, fun e => ?_, fun e => ?_, fun e => ?_, fun e => ?_, fun e => ?_, fun e => ?_, fun e => ?_, fun e => ?_, fun e => ?_, fun e => ?_, fun e => ?_, fun e => ?_, fun e => ?_, fun e => ?_, fun e => ?_, fun e => ?_, fun _ => h, fun e => ?_⟩ <;> (exfalso; omega)
    | 23, _, ej =>
      refine one (W := fun cc ss X K => w_L_acts_365 1 l2 cc ss X K) (ab_365 iS hM hM4) (fun X K h => ?_)
      unfold w_L_acts_44
      refine ⟨fun h' => absurd h' g, fun e => ?_, fun e => ?_, fun e => ?_, fun e => ?_, fun e => ?_, fun e => ?_, fun e => ?_, fun e => ?_, fun e => ?_, fun e => ?_, fun e => ?_, fun e => ?_, fun e => ?_, fun e => ?_, fun e => ?_, fun e => ?_, fun e => ?_, fun e => ?_, fun e => ?_, fun e => ?_, fun e => ?_, fun e => ?_, fun e => ?_, fun _ => h⟩ <;> (exfalso; omega)
    | n + 24, hj, _ => exact absurd hj (by omega)
theorem ab_21 {M : Nat} {l1 l3 s0 : Int32} (iS : InvS B σ) (hM : (1 : Int32) + (l2 - l2 / (4 : Int32) * (4 : Int32)) = Int32.ofNat M) (hM4 : M ≤ 4) : AB B (fun cc ss X K => w_L_acts_21 1 l1 l2 l3 s0 cc ss X K) σ := by
  by_cases h : (3 : Int32) ≤ l3
  · obtain ⟨v, σ', iS', op⟩ := ab_44 (l4 := s0) (l5 := (l2 / (32 : Int32)) - (l2 / (32 : Int32)) / (3 : Int32) * (3 : Int32)) (l1 - l1 / (32 : Int32) * (32 : Int32)) iS hM hM4
    exact ⟨v, σ', iS', fun X Zz K w k => ⟨fun _ => op X Zz K w k, fun h' => absurd h h'⟩⟩
  · obtain ⟨v, σ', iS', op⟩ := ab_44 (l4 := s0) (l5 := (l2 / (32 : Int32)) - (l2 / (32 : Int32)) / (3 : Int32) * (3 : Int32)) 0 iS hM hM4
    exact ⟨v, σ', iS', fun X Zz K w k => ⟨fun h' => absurd h' h, fun _ => op X Zz K w k⟩⟩
theorem ex_acts {C : Nat} (hC : C < 2147483648) (iS : InvS B σ) : Ex B (fun X K => w_L_acts 1 (Int32.ofNat C) X K) σ := by
  have hM : (1 : Int32) + (Int32.ofNat C / (32 : Int32) - Int32.ofNat C / (32 : Int32) / (4 : Int32) * (4 : Int32)) = Int32.ofNat (1 + C / 32 % 4) := by
    have h1 : Int32.ofNat C / (32 : Int32) = Int32.ofNat (C / 32) := nd hC (by decide)
    have h2 : Int32.ofNat (C / 32) - Int32.ofNat (C / 32) / (4 : Int32) * (4 : Int32) = Int32.ofNat (C / 32 % 4) := nr (by omega) (by decide)
    rw [h1, h2, Int32.ofNat_add]
    rfl
  have hM4 : 1 + C / 32 % 4 ≤ 4 := by omega
  by_cases h : zG σ 366 = 0
  · obtain ⟨v, σ', iS', op⟩ := ab_21 (l1 := Int32.ofNat C) (l3 := zG σ 366) (s0 := 0) iS hM hM4
    exact ⟨v, σ', iS', fun X Zz K w k => ⟨w.1.t1, ok_clauses X Zz _ w (fun X1 w1 => ⟨fun h' => absurd h h', fun _ => op X1 Zz K w1 k⟩)⟩⟩
  · obtain ⟨v, σ', iS', op⟩ := ab_21 (l1 := Int32.ofNat C) (l3 := zG σ 366) (s0 := (Int32.ofNat C / (32 : Int32)) - (Int32.ofNat C / (32 : Int32)) / zG σ 366 * zG σ 366) iS hM hM4
    exact ⟨v, σ', iS', fun X Zz K w k => ⟨w.1.t1, ok_clauses X Zz _ w (fun X1 w1 => ⟨fun _ => ⟨h, op X1 Zz K w1 k⟩, fun h' => absurd h' h⟩)⟩⟩
end AC
