/-! the law's loop -/
section LP
abbrev PB67 : Type := Nat → Nat → Nat → Int32 → Int32 → Nat → Nat → XH → Prop
variable {G : GG} {P67 : PB67} {X : XH} {K : Int32 → XH → Prop} {σ σ' : St} {k cc ss C : Nat} {v : Int32}
theorem e_123 {l : List Value} : ([Value.ref 123] ++ l).map swV = [Value.ref 1] ++ l.map swV := rfl
/-- the end of a round -/
def EndL (P67 : PB67) (σ : St) (k cc ss : Nat) : Prop := ∀ X1 c1 s1, W2 X1 σ σ → c1 ≤ cc → s1 ≤ ss → P67 0 1 123 1 (Int32.ofNat (k + 1)) c1 s1 X1
theorem l_167 (hG : G.1.stackTraces = false) (iS : InvS (k + 1) σ) (hk : k < 70) (w : W2 X σ σ) (h1 : cc + 4000 ≤ 600130) (h2 : ss + 24000 ≤ 7301080) (e : EndL P67 σ k (cc + 4000) (ss + 24000)) {s0 : Nat} (hs : s0 = 1 ∨ s0 = 123) : w_L_law_167 G P67 0 1 123 (Int32.ofNat k) s0 cc ss X K := by
  refine ⟨h1, h2, ?_⟩
  rw [of_s]
  rcases hs with rfl | rfl
  · exact oHangs hG iS (by omega) w (fun X1 w1 => ⟨fun h => absurd h (by decide), fun _ => e X1 _ _ w1 (Nat.le_refl _) (Nat.le_refl _)⟩)
  · exact qHangs hG iS (by omega) w (fun X1 w1 => ⟨fun h => absurd h (by decide), fun _ => e X1 _ _ w1 (Nat.le_refl _) (Nat.le_refl _)⟩)
set_option maxRecDepth 2000 in
theorem l_114 (hG : G.1.stackTraces = false) (iS : InvS (k + 1) σ') (hk : k < 70) (w : W2 X σ' σ) (h1 : cc + 4100 ≤ 600130) (h2 : ss + 24600 ≤ 7301080) (op : Op (fun X K => w_L_acts 1 (Int32.ofNat C) X K) σ v σ') (e : EndL P67 σ' k (cc + 4100) (ss + 24600)) : w_L_law_114 G P67 0 1 123 (Int32.ofNat k) (Int32.ofNat C) v cc ss X K := by
  have c1 : cc + 100 ≤ 600130 := by omega
  have c2 : ss + 600 ≤ 7301080 := by omega
  obtain ⟨n, i, -⟩ := iS.1
  refine ⟨c1, c2, qI (fun X K => am_L_acts hG) op w rfl (fun X1 w1 => ⟨fun h => absurd rfl h, fun _ => ⟨c1, c2, w1.t1, oI (fun X K => am_X4_savedStates hG) ok_savedStates w1 (fun X2 w2 => ⟨c1, c2, w2.t123, qI (fun X K => am_X4_savedStates hG) ok_savedStates w2 rfl (fun X3 w3 => ⟨fun h => absurd rfl h, fun _ => ⟨c1, c2, w3.t1, oDig hG i w3 (fun X4 w4 => ⟨c1, c2, w4.t123, qDig hG i w4 (fun X5 w5 => ⟨fun h => absurd (lg_self _) h, fun _ => ⟨fun _ => ?_, fun _ => ⟨fun _ => ?_, fun _ => ?_⟩⟩⟩)⟩)⟩⟩)⟩)⟩⟩)⟩
  · rw [of_s]
    exact e X5 _ _ w5 (by omega) (by omega)
  · exact l_167 hG iS hk w5 (by omega) (by omega) (fun X6 c6 s6 w6 g1 g2 => e X6 c6 s6 w6 (by omega) (by omega)) (Or.inr rfl)
  · exact l_167 hG iS hk w5 (by omega) (by omega) (fun X6 c6 s6 w6 g1 g2 => e X6 c6 s6 w6 (by omega) (by omega)) (Or.inl rfl)
set_option maxRecDepth 100000 in
theorem l_67 (hG : G.1.stackTraces = false) (hM : G.2.2.1 ≤ 2048) (iS : InvS 0 σ) (w : W2 X σ σ) (kE : ∀ X1 σ1 c1 s1, W2 X1 σ1 σ1 → InvS 70 σ1 → c1 ≤ 438248 → s1 ≤ 2635660 → w_L_law_185 G 0 1 123 1 c1 s1 X1 K) : w_L_law_67 G 0 1 123 1 0 4248 31660 X K := by
  intro P67 hP
  have main := dwn (n := 70) (p := fun k => ∀ X1 σ1 cc ss, W2 X1 σ1 σ1 → InvS k σ1 → cc ≤ 4248 + 6200 * k → ss ≤ 31660 + 37200 * k → P67 0 1 123 1 (Int32.ofNat k) cc ss X1)
    (fun X1 σ1 cc ss w1 i1 g1 g2 => hP _ _ _ _ _ _ _ _ ⟨fun _ => kE X1 σ1 cc ss w1 i1 (by omega) (by omega), fun h => absurd (by decide) h⟩)
    (fun k hk ih X1 σ1 cc ss w1 i1 g1 g2 => hP _ _ _ _ _ _ _ _ ⟨fun h => absurd h (by
      rw [show (70 : Int32) = Int32.ofNat 70 from rfl, of_le (by decide) (by omega)]
      omega), fun _ => ⟨fun h => absurd h (by decide), fun _ => ⟨by omega, by omega, cellO hM (by omega) (fun C hC => ?_)⟩⟩⟩)
  · exact main X σ 4248 31660 w iS (by omega) (by omega)
  obtain ⟨v, σ', iS', op⟩ := ex_acts hC i1
  have e1 : Int32.ofNat C - Int32.ofNat C / (100000 : Int32) * (100000 : Int32) = Int32.ofNat (C % 100000) := nr (b := 100000) hC (by decide)
  rw [e1]
  have h9 : cc + 6200 ≤ 600130 := by omega
  have h8 : ss + 37200 ≤ 7301080 := by omega
  have fin : EndL P67 σ' k (cc + 6200) (ss + 37200) := fun X2 c2 s2 w2 g3 g4 => ih X2 σ' c2 s2 w2 iS' (by omega) (by omega)
  refine ⟨by omega, by omega, oI (fun X K => am_L_acts hG) op w1 (fun X2 w2 => ⟨fun _ => ?_, fun _ => ⟨by omega, by omega, qI (fun X K => am_L_refuses hG) (ok_refuses i1 (Nat.mod_lt _ (by decide))) w2 rfl (fun X3 w3 => ⟨fun h => absurd h (by decide), fun _ => ?_⟩)⟩⟩)⟩
  · exact l_114 hG iS' hk w2 (by omega) (by omega) op (fun X4 c4 s4 w4 g5 g6 => fin X4 c4 s4 w4 (by omega) (by omega))
  · exact l_114 hG iS' hk w3 (by omega) (by omega) op (fun X4 c4 s4 w4 g5 g6 => fin X4 c4 s4 w4 (by omega) (by omega))
end LP
