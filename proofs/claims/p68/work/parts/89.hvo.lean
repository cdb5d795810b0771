/-! hangs: the voices -/
section HV
variable {P84 : PB84} {X0 X : XH} {σ : St} {n B t C S : Nat} {f : Nat → Int32} {l1 l2 l6 l7 l8 l9 l11 : Int32} {K : Int32 → XH → Prop}
theorem st_n (i : Inv (zG σ) n) {s : Nat} (hs : s < 5) (ht : t < 3) : ∃ a b, 20 ≤ a ∧ a ≤ 120 ∧ b ≤ a ∧ gSt (zG σ) s t = Int32.ofNat a ∧ gSn (zG σ) s t = Int32.ofNat b := by
  obtain ⟨a, u, h1, h2, h3, e1, e2⟩ := i.2.2.2.1 s hs t ht
  refine ⟨a, a - u, h1, h2, by omega, e1, ?_⟩
  unfold gSn
  rw [e1, e2]
  exact (Int32.ofNat_sub a u h3).symm
theorem h_651 (hX : 122 ≤ hz X0) (i : Inv (zG σ) n) (ht : t < 3) (h1 : C + 90 ≤ 4000) (h2 : S + 540 ≤ 24000) (lw : LW X0 σ X f)
    (k : ∀ X1 cc1 ss1, LW X0 σ X1 f → cc1 ≤ C + 90 → ss1 ≤ S + 540 → w_L_hangs_784 P84 1 l1 l2 1 (hz X0 + 1) (Int32.ofNat t) l6 l7 l8 l9 (sVo (zG σ) n t 5) l11 cc1 ss1 X1 K) :
    w_L_hangs_651 P84 1 l1 l2 1 (hz X0 + 1) (Int32.ofNat t) l6 l7 l8 l9 0 l11 0 C S X K := by
  intro P651 hP
  have main := dwn (n := 5) (p := fun s => ∀ X1 cc ss, LW X0 σ X1 f → cc ≤ C + 18 * s → ss ≤ S + 108 * s → P651 1 l1 l2 1 (hz X0 + 1) (Int32.ofNat t) l6 l7 l8 l9 (sVo (zG σ) n t s) l11 (Int32.ofNat s) cc ss X1)
    (fun X1 cc ss lv g1 g2 => hP _ _ _ _ _ _ _ _ _ _ _ _ _ _ _ _ ⟨fun _ => k X1 cc ss lv (by omega) (by omega), fun h => absurd (by decide) h⟩)
    (fun s hs ih X1 cc ss lv g1 g2 => hP _ _ _ _ _ _ _ _ _ _ _ _ _ _ _ _ ⟨fun h => absurd h (by
      rw [show (5 : Int32) = Int32.ofNat 5 from rfl, of_le (by decide) (by omega)]
      omega), fun _ => ⟨fun h => absurd h (by decide), fun _ => ?_⟩⟩)
  · exact main X C S lw (by omega) (by omega)
  obtain ⟨a, b, a1, a2, a3, e1, e2⟩ := st_n i hs ht
  have fin : ∀ X2 c2 s2, Wd X2 σ X1 → c2 ≤ cc + 16 → s2 ≤ ss + 96 → w_L_hangs_764 P84 P651 1 l1 l2 (hz X0 + 1) (Int32.ofNat t) l6 l7 l8 l9 (sVo (zG σ) n t s) l11 (Int32.ofNat s) 1 c2 s2 X2 K := fun X2 c2 s2 w2 g3 g4 => ⟨by omega, by omega, lg_framesOfVoice i hs ht X2 X1 _ w2 (fun X3 w3 => by
    rw [of_s]
    exact ih X3 _ _ (lv.mv hX w3) (by omega) (by omega))⟩
  refine ⟨by omega, by omega, lg_sessionsByGoing i hs ht X1 X1 _ lv.wd (fun X2 w2 => ⟨by omega, by omega, lg_staminaOf i hs ht X2 X1 _ w2 (fun X3 w3 => ⟨fun h => absurd h ?_, fun _ => ⟨by omega, by omega, lg_staminaOf i hs ht X3 X1 _ w3 (fun X4 w4 => ⟨fun h => absurd h ?_, fun _ => ⟨by omega, by omega, lg_strengthLeft i hs ht X4 X1 _ w4 (fun X5 w5 => ⟨fun h => absurd h ?_, fun _ => ⟨by omega, by omega, lg_strengthLeft i hs ht X5 X1 _ w5 (fun X6 w6 => ⟨by omega, by omega, lg_staminaOf i hs ht X6 X1 _ w6 (fun X7 w7 => ⟨fun h => absurd h ?_, fun _ => ⟨by omega, by omega, lg_sessionsByTable i hs ht X7 X1 _ w7 (fun X8 w8 => ⟨fun h => absurd rfl h, fun _ => ?_⟩)⟩⟩)⟩)⟩⟩)⟩⟩)⟩⟩)⟩)⟩
  · rw [e1, show (19 : Int32) = Int32.ofNat 19 from rfl, of_le (by omega) (by decide)]
    omega
  · rw [e1, show (121 : Int32) = Int32.ofNat 121 from rfl, of_le (by decide) (by omega)]
    omega
  · rw [e2]
    exact not_lt0 (by omega)
  · rw [e1, e2, of_lt (by omega) (by omega)]
    omega
  · have f8 := fin X8 (cc + 16) (ss + 96) w8 (by omega) (by omega)
    by_cases hp : pTL (zG σ) n s t = true
    · rw [if_pos hp]
      exact ⟨fun h => absurd h (by decide), fun _ => ⟨fun h => absurd rfl h, fun _ => ⟨fun h => absurd h (by decide), fun _ => f8⟩⟩⟩
    · rw [if_neg hp]
      obtain ⟨m, hm, e⟩ := go_26 (s := s) (t := t) i
      rw [e]
      have hlt : ¬ ((26 : Int32) ≤ Int32.ofNat m) := by
        rw [show (26 : Int32) = Int32.ofNat 26 from rfl, of_le (by decide) (by omega)]
        omega
      exact ⟨fun _ => ⟨fun h => absurd h hlt, fun _ => f8⟩, fun h => absurd (nn_of (by omega)) h⟩
end HV
