/-! the law behind its loop -/
section LE
variable {G : GG} {X : XH} {K : Int32 → XH → Prop} {σ τ : St} {cc ss B n r s l1 l2 Y : Nat}
set_option maxRecDepth 2000 in
theorem l_444 (hG : G.1.stackTraces = false) (hK : ∀ X, K 1 X) (iS : InvS B σ) (iT : InvS B τ) (hB : B < 4096) (w : W2 X σ τ) (h1 : cc + 8000 ≤ 600130) (h2 : ss + 48000 ≤ 7301080) : w_L_law_444 G 1 123 1 cc ss X K := by
  have c1 : cc + 4000 ≤ 600130 := by omega
  have c2 : ss + 24000 ≤ 7301080 := by omega
  exact ⟨fun h => absurd h (by decide), fun _ => ⟨c1, c2, oHangs hG iS hB w (fun X1 w1 => ⟨fun h => absurd h (by decide), fun _ => ⟨h1, h2, qHangs hG iT hB w1 (fun X2 w2 => ⟨fun h => absurd h (by decide), fun _ => ⟨h1, h2, hK X2⟩⟩)⟩⟩)⟩⟩
/-- the buffer's text of one clause -/
def txS (σ : St) (r s l1 l2 Y : Nat) : St := appS (appS (appS (appS (appS (appS (clrS σ) (Int32.ofNat (48 + r))) (Int32.ofNat (65 + s))) (Int32.ofNat (48 + l1))) (Int32.ofNat (48 + l2))) (Int32.ofNat 126)) (Int32.ofNat (48 + Y))
theorem txS_w (hr : r < 4) (hs : s < 5) (h1 : 1 ≤ l1) (h2 : l2 ≤ 9) (h3 : 10 * l1 + l2 ≤ 60) (hY : 1 ≤ Y) (hY2 : Y ≤ 9) : (whR (zN (txS σ r s l1 l2 Y)) (uT (txS σ r s l1 l2 Y)) 61 0).2 = some [(r, s, 10 * l1 + l2, Y)] := by
  have u0 : uT (txS σ r s l1 l2 Y) 0 = (Int32.ofNat (48 + r)).toNatClampNeg := rfl
  have u1 : uT (txS σ r s l1 l2 Y) 1 = (Int32.ofNat (65 + s)).toNatClampNeg := rfl
  have u2 : uT (txS σ r s l1 l2 Y) 2 = (Int32.ofNat (48 + l1)).toNatClampNeg := rfl
  have u3 : uT (txS σ r s l1 l2 Y) 3 = (Int32.ofNat (48 + l2)).toNatClampNeg := rfl
  have u4 : uT (txS σ r s l1 l2 Y) 4 = (Int32.ofNat 126).toNatClampNeg := rfl
  have u5 : uT (txS σ r s l1 l2 Y) 5 = (Int32.ofNat (48 + Y)).toNatClampNeg := rfl
  exact wh6 hr hs h1 h2 h3 hY hY2 (u0.trans (nc (by omega))) (u1.trans (nc (by omega))) (u2.trans (nc (by omega))) (u3.trans (nc (by omega))) (u4.trans (nc (by omega))) (u5.trans (nc (by omega)))
theorem txS_i (iS : InvS B σ) (hr : r < 4) (hs : s < 5) (h1 : 1 ≤ l1) (h2 : l2 ≤ 9) (h3 : 10 * l1 + l2 ≤ 60) (hY : 1 ≤ Y) (hY2 : Y ≤ 9) : InvS B (txS σ r s l1 l2 Y) := (((((iS.clr.app (by omega) (by omega)).app (by omega) (by omega)).app (by omega) (by omega)).app (by omega) (by omega)).app (by decide) (by decide)).app (by omega) (by omega)
/-- what the clause makes of o and of q -/
def oS (σ : St) (n r s L Y : Nat) : St := (upr (addG (zG σ) n r (Int32.ofNat s) (Int32.ofNat L) (Int32.ofNat 0)) (13 * n + 3) (Int32.ofNat Y), (pushS (addG (zG σ) n r (Int32.ofNat s) (Int32.ofNat L) (Int32.ofNat 0), (pushS σ).2)).2)
def qS (τ : St) (n r s L Y : Nat) : St := clrS (addL (zG τ) n [(r, s, L, Y)], (pushS τ).2)
set_option maxRecDepth 5000 in
/-- both tell of one clause alike -/
theorem l_cmp (hG : G.1.stackTraces = false) (hK : ∀ X, K 1 X) (iS : InvS B σ) (iT : InvS B τ) (hB : B < 4096) (i : Inv (zG σ) (n + 1)) (e : zG τ = zG σ) (hr : r < 4) (w : W2 X σ τ) (h1 : cc + 8044 ≤ 600130) (h2 : ss + 48264 ≤ 7301080) :
    (cc + 24 ≤ 600130) ∧ (ss + 144 ≤ 7301080) ∧ AM G M_L_clauseOf X [.ref 1, .int (Int32.ofNat n)] (KrI (fun v66 X65 => (cc + 28 ≤ 600130) ∧ (ss + 168 ≤ 7301080) ∧ AM G M_L_clauseOf X65 [.ref 123, .int (Int32.ofNat n)] (KrI (fun v70 X69 => ((¬ v66 = v70 → w_L_law_444 G 1 123 (0 : Int32) (cc + 28) (ss + 168) X69 K) ∧ (v66 = v70 → (cc + 30 ≤ 600130) ∧ (ss + 180 ≤ 7301080) ∧ AM G M_L_longestSigh X69 [.ref 1, .int (Int32.ofNat n)] (KrI (fun v75 X74 => (cc + 32 ≤ 600130) ∧ (ss + 192 ≤ 7301080) ∧ AM G M_L_longestSigh X74 [.ref 123, .int (Int32.ofNat n)] (KrI (fun v79 X78 => ((¬ v75 = v79 → w_L_law_444 G 1 123 (0 : Int32) (cc + 32) (ss + 192) X78 K) ∧ (v75 = v79 → (cc + 34 ≤ 600130) ∧ (ss + 204 ≤ 7301080) ∧ AM G M_L_reelAt X78 [.ref 1, .int (Int32.ofNat r)] (KrI (fun v84 X83 => (cc + 36 ≤ 600130) ∧ (ss + 216 ≤ 7301080) ∧ AM G M_L_reelAt X83 [.ref 123, .int (Int32.ofNat r)] (KrI (fun v88 X87 => ((¬ v84 = v88 → w_L_law_444 G 1 123 (0 : Int32) (cc + 36) (ss + 216) X87 K) ∧ (v84 = v88 → (cc + 40 ≤ 600130) ∧ (ss + 240 ≤ 7301080) ∧ AM G M_L_tongueAt X87 [.ref 1, .int (0 : Int32)] (KrI (fun v93 X92 => (cc + 44 ≤ 600130) ∧ (ss + 264 ≤ 7301080) ∧ AM G M_L_tongueAt X92 [.ref 123, .int (0 : Int32)] (KrI (fun v97 X96 => ((¬ v93 = v97 → w_L_law_444 G 1 123 (0 : Int32) (cc + 44) (ss + 264) X96 K) ∧ (v93 = v97 → w_L_law_444 G 1 123 (1 : Int32) (cc + 44) (ss + 264) X96 K)))))))))))))))))))))))) := by
  have iq : Inv (zG τ) (n + 1) := by
    rw [e]
    exact i
  have hn : n < n + 1 := Nat.lt_succ_self n
  have a1 := lg_clauseOf iq hn
  have a2 := lg_longestSigh iq hn
  have a3 := lg_reelAt iq hr
  have a4 := lg_tongueAt (t := 0) iq (by decide)
  rw [e] at a1 a2 a3 a4
  refine ⟨by omega, by omega, oI (fun X K => am_L_clauseOf hG) (lg_clauseOf i hn) w (fun X1 w1 => ⟨by omega, by omega, qI (fun X K => am_L_clauseOf hG) a1 w1 rfl (fun X2 w2 => ⟨fun h => absurd rfl h, fun _ => ⟨by omega, by omega, oI (fun X K => am_L_longestSigh hG) (lg_longestSigh i hn) w2 (fun X3 w3 => ⟨by omega, by omega, qI (fun X K => am_L_longestSigh hG) a2 w3 rfl (fun X4 w4 => ⟨fun h => absurd rfl h, fun _ => ⟨by omega, by omega, oI (fun X K => am_L_reelAt hG) (lg_reelAt i hr) w4 (fun X5 w5 => ⟨by omega, by omega, qI (fun X K => am_L_reelAt hG) a3 w5 rfl (fun X6 w6 => ⟨fun h => absurd rfl h, fun _ => ⟨by omega, by omega, oI (fun X K => am_L_tongueAt hG) (lg_tongueAt (t := 0) i (by decide)) w6 (fun X7 w7 => ⟨by omega, by omega, qI (fun X K => am_L_tongueAt hG) a4 w7 rfl (fun X8 w8 => ⟨fun h => absurd rfl h, fun _ => l_444 hG hK iS iT hB w8 (by omega) (by omega)⟩)⟩)⟩⟩)⟩)⟩⟩)⟩)⟩⟩)⟩)⟩
end LE
