/-! hangs: its end, and all of it -/
section HU
variable {X0 X Z : XH} {σ : St} {n B C S cc ss : Nat} {K : Int32 → XH → Prop}
theorem h_1164 (i : Inv (zG σ) n) (hg : Hg B (zG σ) n) (hB : B < 4096) (h1 : cc + 4 ≤ 4000) (h2 : ss + 24 ≤ 24000) (w : Wd X σ Z) (k : ∀ X1, Wd X1 σ Z → K 1 X1) :
    w_L_hangs_1164 1 (Int32.ofNat n) (sTk (zG σ) n 3) 1 cc ss X K := by
  have hn2 := i.1.2
  have e3 : sTk (zG σ) n 3 = zG σ 368 - zG σ 369 := by
    rw [← hg.2.2.2.1]
    show 0 + sTaken (zG σ) n 0 + sTaken (zG σ) n 1 + sTaken (zG σ) n 2 = _
    rw [Int32.zero_add]
  obtain ⟨m, hm, e4⟩ := hg.2.2.2.2
  refine ⟨fun h => absurd h (by decide), fun _ => ⟨by omega, by omega, w.1.t1, ok_recordings X Z _ w (fun X1 w1 => ⟨by omega, by omega, w1.1.t1, ok_wiped X1 Z _ w1 (fun X2 w2 => ⟨fun h => absurd e3 h, fun _ => ⟨by omega, by omega, w2.1.t1, ok_mixes X2 Z _ w2 (fun X3 w3 => ⟨fun h => absurd h ?_, fun _ => ⟨h1, h2, lb_clauseOf (inC_big (by omega) i.1 (Nat.le_refl n)) X3 Z _ w3 (fun X4 w4 => ⟨fun h => absurd rfl h, fun _ => ⟨h1, h2, k X4 w4⟩⟩)⟩⟩)⟩⟩)⟩)⟩⟩
  rw [e4]
  exact not_lt0 (by omega)
set_option maxRecDepth 100000 in
theorem h_1125 (hX : 122 ≤ hz X0) (i : Inv (zG σ) n) (hg : Hg B (zG σ) n) (hB : B < 4096) (h1 : C + 12 ≤ 4000) (h2 : S + 72 ≤ 24000) (lw : LW X0 σ X (fun j => sMany (zG σ) n (Int32.ofNat j))) (k : ∀ X1, Shp X1 → CS X1 σ → Gro X0 X1 → K 1 X1) :
    w_L_hangs_1125 1 (Int32.ofNat n) (sTk (zG σ) n 3) 1 (hz X0 + 1) 0 C S X K := by
  intro P1125 hP
  have main := dwn (n := 4) (p := fun r => ∀ X1 cc ss, LW X0 σ X1 (fun j => sMany (zG σ) n (Int32.ofNat j)) → cc ≤ C + 2 * r → ss ≤ S + 12 * r → P1125 1 (Int32.ofNat n) (sTk (zG σ) n 3) 1 (hz X0 + 1) (Int32.ofNat r) cc ss X1)
    (fun X1 cc ss lv g1 g2 => hP _ _ _ _ _ _ _ _ _ ⟨fun _ => h_1164 i hg hB (by omega) (by omega) lv.wd (fun X2 w2 => k X2 (lv.mv hX w2).1 (lv.mv hX w2).2.1 (lv.mv hX w2).2.2.1), fun h => absurd (by decide) h⟩)
    (fun r hr ih X1 cc ss lv g1 g2 => hP _ _ _ _ _ _ _ _ _ ⟨fun h => absurd h (by
      rw [show (4 : Int32) = Int32.ofNat 4 from rfl, of_le (by decide) (by omega)]
      omega), fun _ => ⟨fun h => absurd h (by decide), fun _ => ⟨by omega, by omega, lg_reelAt i hr X1 X1 _ lv.wd (fun X2 w2 => ?_)⟩⟩⟩)
  · exact main X C S lw (by omega) (by omega)
  obtain ⟨m, q, hm, hq, e1, e2, h0⟩ := reel_n i (Int32.ofNat r)
  have lv2 := lv.mv hX w2
  have e3 : Int32.ofNat (m + 100 * q) - Int32.ofNat (m + 100 * q) / (100 : Int32) * (100 : Int32) = Int32.ofNat m := by
    refine (nr (b := 100) (by omega) (by decide)).trans ?_
    congr 1
    omega
  rw [e2, e3, nc (show r < 4096 by omega), lv2.2.2.2.2.2 r hr, lv2.2.2.2.2.1, lv2.2.2.2.1]
  refine ⟨rfl, by rw [vp_of hr (by decide)]; trivial, fun h => absurd e1.symm h, fun _ => ?_⟩
  rw [of_s]
  exact ih X2 _ _ lv2 (by omega) (by omega)
theorem ok_hangs (iS : InvS B σ) (hB : B < 4096) (w : Wd X σ Z) (k : ∀ X1, Shp X1 → CS X1 σ → Gro Z X1 → K 1 X1) : w_L_hangs 1 X K := by
  obtain ⟨⟨n, i, hg⟩, -⟩ := iS
  have hn2 := i.1.2
  obtain ⟨e, he, ee⟩ := i.2.2.2.2.2
  have hH : zH σ ≤ 6 := w.2.1.2.1.2.1
  have b1 := bsTo_le (fun t => sTaken (zG σ) n t) 2
  have b2 := bsTo_le (fun s => sSpoken (zG σ) n (Int32.ofNat s)) 4
  refine ⟨w.1.t1, ok_clauses X Z _ w (fun X1 w1 => ⟨fun h => absurd h ?_, fun _ => ⟨fun h => absurd h ?_, fun _ => ⟨w1.1.t1, ok_session X1 Z _ w1 (fun X2 w2 => ⟨fun h => absurd h ?_, fun _ => ⟨w2.1.t1, ok_savedStates X2 Z _ w2 (fun X3 w3 => ⟨fun h => absurd h ?_, fun _ => ⟨w3.1.t1, ok_savedStates X3 Z _ w3 (fun X4 w4 => ⟨fun h => absurd h ?_, fun _ => ⟨w4.1.t1, ok_bestTongue i X4 Z _ w4 (fun X5 w5 => ⟨fun h => absurd h ?_, fun _ => ⟨w5.1.t1, ok_bestTongue i X5 Z _ w5 (fun X6 w6 => ⟨fun h => absurd h ?_, fun _ => ⟨w6.1.t1, ok_loudestState i X6 Z _ w6 (fun X7 w7 => ⟨fun h => absurd h ?_, fun _ => ⟨w7.1.t1, ok_loudestState i X7 Z _ w7 (fun X8 w8 => ⟨fun h => absurd h ?_, fun _ => ?_⟩)⟩⟩)⟩⟩)⟩⟩)⟩⟩)⟩⟩)⟩⟩)⟩⟩⟩)⟩
  · rw [i.1.1]
    exact not_lt0 (by omega)
  · rw [i.1.1, show (24 : Int32) = Int32.ofNat 24 from rfl, of_lt (by decide) (by omega)]
    omega
  · rw [ee]
    exact not_lt0 (by omega)
  · exact not_lt0 (by omega)
  · rw [show (7 : Int32) = Int32.ofNat 7 from rfl, of_le (by decide) (by omega)]
    omega
  · exact not_lt0 (by omega)
  · rw [show (3 : Int32) = Int32.ofNat 3 from rfl, of_le (by decide) (by omega)]
    omega
  · exact not_lt0 (by omega)
  · rw [show (5 : Int32) = Int32.ofNat 5 from rfl, of_le (by decide) (by omega)]
    omega
  · rw [i.1.1]
    have hX := w8.1.1
    exact h_84 hX i hg (by decide) (by decide) (LW.new w8) (fun X9 c9 s9 l9 g1 g2 => h_1125 hX i hg hB (by omega) (by omega) l9 (fun X10 q10 k10 g10 => k X10 q10 k10 ((Rst.gro w8.2.2).tr g10)))
end HU
