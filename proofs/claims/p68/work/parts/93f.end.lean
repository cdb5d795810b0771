/-! the law behind its loop, all of it -/
section LF
variable {G : GG} {X : XH} {K : Int32 → XH → Prop} {σ : St} {cc ss B : Nat}
set_option maxRecDepth 5000 in
theorem l_185 (hG : G.1.stackTraces = false) (hM : G.2.2.1 ≤ 2048) (hK : ∀ X, K 1 X) (iS : InvS B σ) (hB : B < 4000) (w : W2 X σ σ) (h1 : cc + 9000 ≤ 600130) (h2 : ss + 50000 ≤ 7301080) : w_L_law_185 G 0 1 123 1 cc ss X K := by
  obtain ⟨n, i, hg⟩ := iS.1
  have hn2 := i.1.2
  refine ⟨by omega, by omega, cellO (k := 70) hM (by decide) (fun C hC => ?_)⟩
  obtain ⟨r, hr, e1⟩ := n_c1 hC
  obtain ⟨s, hs, e2⟩ := n_c2 hC
  obtain ⟨l1, l2, g1, g2, g3, e3⟩ := n_c3 hC
  obtain ⟨Y, g4, g5, e4⟩ := n_c4 hC
  obtain ⟨e5, e6⟩ := n_dg g1 g2 g3
  have e7 : (48 : Int32) + Int32.ofNat r = Int32.ofNat (48 + r) := la 48 r
  have e8 : (65 : Int32) + Int32.ofNat s = Int32.ofNat (65 + s) := la 65 s
  have e9 : (48 : Int32) + Int32.ofNat Y = Int32.ofNat (48 + Y) := la 48 Y
  rw [e1, e2, e3, e4, e5, e6, e7, e8, e9]
  have iT := txS_i iS hr hs g1 g2 g3 g4 g5
  have hw := txS_w (σ := σ) hr hs g1 g2 g3 g4 g5
  have o1 := ok_append (σ := clrS σ) (x := 48 + r) (by omega) (by omega) (show (0 : Nat) < 60 by decide)
  have o2 := ok_append (σ := appS (clrS σ) (Int32.ofNat (48 + r))) (x := 65 + s) (by omega) (by omega) (show (1 : Nat) < 60 by decide)
  have o3 := ok_append (σ := appS (appS (clrS σ) (Int32.ofNat (48 + r))) (Int32.ofNat (65 + s))) (x := 48 + l1) (by omega) (by omega) (show (2 : Nat) < 60 by decide)
  have o4 := ok_append (σ := appS (appS (appS (clrS σ) (Int32.ofNat (48 + r))) (Int32.ofNat (65 + s))) (Int32.ofNat (48 + l1))) (x := 48 + l2) (by omega) (by omega) (show (3 : Nat) < 60 by decide)
  have o5 := ok_append (σ := appS (appS (appS (appS (clrS σ) (Int32.ofNat (48 + r))) (Int32.ofNat (65 + s))) (Int32.ofNat (48 + l1))) (Int32.ofNat (48 + l2))) (x := 126) (by decide) (by decide) (show (4 : Nat) < 60 by decide)
  have o6 := ok_append (σ := appS (appS (appS (appS (appS (clrS σ) (Int32.ofNat (48 + r))) (Int32.ofNat (65 + s))) (Int32.ofNat (48 + l1))) (Int32.ofNat (48 + l2))) (Int32.ofNat 126)) (x := 48 + Y) (by omega) (by omega) (show (5 : Nat) < 60 by decide)
  refine ⟨by omega, by omega, w.t1, oI (fun X K => am_X4_clauses hG) ok_clauses w (fun X1 w1 => ⟨by omega, by omega, w1.t123, qI (fun X K => am_X4_clearBuffer hG) ok_clearBuffer w1 rfl (fun X2 w2 => ⟨by omega, by omega, qI (fun X K => am_L_append hG) (o1) w2 rfl (fun X3 w3 => ⟨by omega, by omega, qI (fun X K => am_L_append hG) o2 w3 rfl (fun X4 w4 => ⟨by omega, by omega, qI (fun X K => am_L_append hG) o3 w4 rfl (fun X5 w5 => ⟨by omega, by omega, qI (fun X K => am_L_append hG) o4 w5 rfl (fun X6 w6 => ⟨by omega, by omega, qI (fun X K => am_L_append hG) o5 w6 rfl (fun X7 w7 => ⟨by omega, by omega, qI (fun X K => am_L_append hG) o6 w7 rfl (fun X8 w8 => ?_)⟩)⟩)⟩)⟩)⟩)⟩)⟩)⟩
  have w8' : W2 X8 σ (txS σ r s l1 l2 Y) := w8
  rw [i.1.1]
  refine ⟨fun h => absurd h (by decide), fun _ => ⟨fun h => l_444 hG hK iS iT (by omega) w8' (by omega) (by omega), fun h => ?_⟩⟩
  rw [show (24 : Int32) = Int32.ofNat 24 from rfl, of_le (by decide) (by omega)] at h
  have hn : n < 24 := by omega
  refine ⟨fun h => absurd rfl h, fun _ => ?_⟩
  have fE : Int32.ofNat (fErr (txS σ r s l1 l2 Y)) = (6 : Int32) := by
    unfold fErr
    rw [hw]
    rfl
  have of1 := ok_firstError iT
  rw [fE] at of1
  have ol := ok_load (l := [(r, s, 10 * l1 + l2, Y)]) iT (show Inv (zG (txS σ r s l1 l2 Y)) n from i) hw (show n + 1 ≤ 24 by omega) (by
    unfold sgOk sgOk
    rw [decide_eq_true (show Y ≤ 10 * l1 + l2 by omega)]
    rfl)
  have i1 := iv_addClause i hr hs (show 4 ≤ 10 * l1 + l2 by omega) g3 hn
  have t1 : pTA (addG (zG σ) n r (Int32.ofNat s) (Int32.ofNat (10 * l1 + l2)) (Int32.ofNat 0)) n = false := add_t i hn
  obtain ⟨eL, eH⟩ := add_r (g := zG σ) (r := r) (S := Int32.ofNat s) (L := Int32.ofNat (10 * l1 + l2)) (Z := Int32.ofNat 0) hn
  have hle : Int32.ofNat Y ≤ gL (addG (zG σ) n r (Int32.ofNat s) (Int32.ofNat (10 * l1 + l2)) (Int32.ofNat 0)) n := by
    rw [eL, of_le (by omega) (by omega)]
    omega
  have oc := ok_changeSigh (σ := (addG (zG σ) n r (Int32.ofNat s) (Int32.ofNat (10 * l1 + l2)) (Int32.ofNat 0), (pushS σ).2)) i1 (Nat.lt_succ_self n) (Nat.zero_le Y) (by omega) t1 hle
  have ic := iv_changeSigh (σ := (addG (zG σ) n r (Int32.ofNat s) (Int32.ofNat (10 * l1 + l2)) (Int32.ofNat 0), (pushS σ).2)) i1 (Nat.lt_succ_self n) (Nat.zero_le Y) (by omega) t1 hle
  have h1' : Hg B (addG (zG σ) n r (Int32.ofNat s) (Int32.ofNat (10 * l1 + l2)) (Int32.ofNat 0)) (n + 1) := hg.add i hn hr
  have h2' : Hg B (zG (oS σ n r s (10 * l1 + l2) Y)) (n + 1) := h1'.sigh i1 (Nat.lt_succ_self n) t1
  have iS1 : InvS B (addG (zG σ) n r (Int32.ofNat s) (Int32.ofNat (10 * l1 + l2)) (Int32.ofNat 0), (pushS σ).2) := iS.push ⟨n + 1, i1, h1'⟩
  have iS2 : InvS B (oS σ n r s (10 * l1 + l2) Y) := iS1.push ⟨n + 1, ic, h2'⟩
  have eG : zG (qS (txS σ r s l1 l2 Y) n r s (10 * l1 + l2) Y) = zG (oS σ n r s (10 * l1 + l2) Y) := (add_y hn hr).symm
  have iT2 : InvS B (qS (txS σ r s l1 l2 Y) n r s (10 * l1 + l2) Y) := (iT.push ⟨n + 1, by
    show Inv (zG (qS (txS σ r s l1 l2 Y) n r s (10 * l1 + l2) Y)) (n + 1)
    rw [eG]
    exact ic, by
    show Hg B (zG (qS (txS σ r s l1 l2 Y) n r s (10 * l1 + l2) Y)) (n + 1)
    rw [eG]
    exact h2'⟩).clr
  refine ⟨by omega, by omega, w8.t123, qI (fun X K => am_X4_firstError hG) of1 w8' rfl (fun X9 w9 => ⟨fun h => absurd rfl h, fun _ => ⟨by omega, by omega, qI (fun X K => am_L_load hG) ol w9 rfl (fun X10 w10 => ⟨fun h => absurd (of_s n).symm h, fun _ => ⟨by omega, by omega, oI (fun X K => am_L_addClause hG) (ok_addClause i hr hs (show 4 ≤ 10 * l1 + l2 by omega) g3 hn) w10 (fun X11 w11 => ⟨fun h => absurd rfl h, fun _ => ⟨by omega, by omega, oI (fun X K => am_L_changeSigh hG) oc w11 (fun X12 w12 => ⟨fun h => absurd eH h, fun _ => ?_⟩)⟩⟩)⟩⟩)⟩⟩)⟩
  exact l_cmp hG hK iS2 iT2 (by omega) ic eG hr w12 (by omega) (by omega)
end LF
