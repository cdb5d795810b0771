/-! the law's loop: one step for each call -/
section PZ
theorem lg_self (x : Int64) : lg_cmp x x = 0 := by
  unfold lg_cmp
  simp
variable {X2 : XH} {d σ : St} {a : Int64} {b : UInt64} {cd : Int32} {A B : Prop}
theorem tl_I {u v : Int32} (w : Wd X2 d σ (a, b, cd)) (h1 : cd = 0 → a = Int32.toInt64 v) (h2 : cd = 0 → u = v) (hA : A) : ((hI X2 123 7) = cd → ((¬ cd = 0 → A) ∧ (cd = 0 → (hty X2 129 = 102) ∧ (vp_in (0 : Int32) (hln X2 129)) ∧ (((lg_cmp (hL X2 129 (Int32.toNatClampNeg (0 : Int32))) (Int32.toInt64 u)) = 0 → A) ∧ (¬ ((lg_cmp (hL X2 129 (Int32.toNatClampNeg (0 : Int32))) (Int32.toInt64 u)) = 0) → B))))) ∧ (¬ (hI X2 123 7 = cd) → B) := by
  refine ⟨fun _ => ⟨fun _ => hA, fun h => ⟨w.1.t129, vpX w.1, fun _ => hA, fun hne => absurd ?_ hne⟩⟩, fun hne => absurd w.2.2.2.2.2 hne⟩
  have e : hL X2 129 (Int32.toNatClampNeg (0 : Int32)) = a := w.2.2.2.1
  rw [e, h1 h, h2 h]
  exact lg_self _
theorem tl_B {u : Int32} {v : Bool} (w : Wd X2 d σ (a, b, cd)) (h1 : cd = 0 → a = if v = true then 1 else 0) (h2 : cd = 0 → u = b2i v) (hA : A) : ((hI X2 123 7) = cd → ((¬ cd = 0 → A) ∧ (cd = 0 → (hty X2 129 = 102) ∧ (vp_in (0 : Int32) (hln X2 129)) ∧ ((u = 0 → (((lg_cmp (hL X2 129 (Int32.toNatClampNeg (0 : Int32))) (0 : Int64)) = 0 → A) ∧ (¬ ((lg_cmp (hL X2 129 (Int32.toNatClampNeg (0 : Int32))) (0 : Int64)) = 0) → B))) ∧ (¬ (u = 0) → (((lg_cmp (hL X2 129 (Int32.toNatClampNeg (0 : Int32))) (1 : Int64)) = 0 → A) ∧ (¬ ((lg_cmp (hL X2 129 (Int32.toNatClampNeg (0 : Int32))) (1 : Int64)) = 0) → B)))))) ) ∧ (¬ (hI X2 123 7 = cd) → B) := by
  have e : hL X2 129 (Int32.toNatClampNeg (0 : Int32)) = a := w.2.2.2.1
  refine ⟨fun _ => ⟨fun _ => hA, fun h => ⟨w.1.t129, vpX w.1, fun hu => ⟨fun _ => hA, fun hne => absurd ?_ hne⟩, fun hu => ⟨fun _ => hA, fun hne => absurd ?_ hne⟩⟩⟩, fun hne => absurd w.2.2.2.2.2 hne⟩
  · rw [e, h1 h]
    have hv : v = false := by
      cases v
      · rfl
      · rw [h2 h] at hu
        exact absurd hu (by decide)
    rw [hv]
    exact lg_self _
  · rw [e, h1 h]
    have hv : v = true := by
      cases v
      · rw [h2 h] at hu
        exact absurd rfl hu
      · rfl
    rw [hv]
    exact lg_self _
theorem tl_D {u v : UInt64} (w : Wd X2 d σ (a, b, cd)) (hs : Op.cmpValue (FP.dcmp v v) CmpOp.l = 0) (h1 : cd = 0 → b = v) (h2 : cd = 0 → u = v) {C : Prop} (hA : A) : ((hI X2 123 7) = cd → ((¬ cd = 0 → A) ∧ (cd = 0 → (hty X2 130 = 103) ∧ (vp_in (0 : Int32) (hln X2 130)) ∧ (((Op.cmpValue (FP.dcmp (hDd X2 130 (Int32.toNatClampNeg (0 : Int32))) u) CmpOp.l) = 0 → A) ∧ (¬ ((Op.cmpValue (FP.dcmp (hDd X2 130 (Int32.toNatClampNeg (0 : Int32))) u) CmpOp.l) = 0) → C))))) ∧ (¬ (hI X2 123 7 = cd) → B) := by
  refine ⟨fun _ => ⟨fun _ => hA, fun h => ⟨w.1.t130, by rw [w.1.n130, vp0]; trivial, fun _ => hA, fun hne => absurd ?_ hne⟩⟩, fun hne => absurd w.2.2.2.2.2 hne⟩
  have e : hDd X2 130 (Int32.toNatClampNeg (0 : Int32)) = b := w.2.2.2.2.1
  rw [e, h1 h, h2 h]
  exact hs
/-- what a step may use -/
def LwS (G : GG) (P : Nat → Nat → Nat → Nat → Nat → Int32 → Nat → Nat → XH → Prop) (i cc ss : Nat) : Prop := ((vp_in (Int32.ofNat i + (1 : Int32)) G.2.2.1) ∧ (vp_in (Int32.ofNat i + (2 : Int32)) G.2.2.1) ∧ (vp_in (Int32.ofNat i + (3 : Int32)) G.2.2.1)) ∧ (cc + 4 ≤ 601024 ∧ ss + 24 ≤ 7293034) ∧ ∀ X1 σ1 o1 cc1 ss1, Wd X1 σ1 σ1 o1 → InvS σ1 → cc1 ≤ cc + 4 → ss1 ≤ ss + 24 → P 0 1 123 129 130 (Int32.ofNat i + (4 : Int32)) cc1 ss1 X1
variable {G : GG} {P : Nat → Nat → Nat → Nat → Nat → Int32 → Nat → Nat → XH → Prop} {i cc ss : Nat} {X : XH} {o : Ou} {K : Int32 → XH → Prop}
theorem law_320 (ls : LwS G P i cc ss) (iS : InvS σ) (w : Wd X σ σ o) : w_L_law_320 G P 0 1 123 129 130 (Int32.ofNat i) cc ss X K := by
  obtain ⟨⟨v1, v2, v3⟩, ⟨b1, b2⟩, nx⟩ := ls
  obtain ⟨n, iv⟩ := iS.1
  have c1 : cc + 4 ≤ 601024 := by omega
  have c2 : ss + 24 ≤ 7293034 := by omega
  unfold w_L_law_320
  obtain ⟨cd, v, σ', iS', hL, hM⟩ := op_addClause iS iv (G.2.2.2.1 (Int32.toNatClampNeg (Int32.ofNat i + (1 : Int32)))) (G.2.2.2.1 (Int32.toNatClampNeg (Int32.ofNat i + (2 : Int32)))) (G.2.2.2.1 (Int32.toNatClampNeg (Int32.ofNat i + (3 : Int32))))
  exact ⟨v1, v2, v3, c1, c2, hL X σ o _ w (fun X1 o1 w1 h1 => ⟨v1, v2, v3, c1, c2, w1.1.t123, hM X1 σ' o1 _ w1 (fun X2 u w2 h2 => ⟨c1, c2, w2.1.t123, w2.1.t123, tl_I w2 h1 h2 (nx _ _ _ _ _ w2 iS' (by omega) (by omega))⟩)⟩)⟩
theorem law_400 (ls : LwS G P i cc ss) (iS : InvS σ) (w : Wd X σ σ o) : w_L_law_400 G P 0 1 123 129 130 (Int32.ofNat i) cc ss X K := by
  obtain ⟨⟨v1, v2, v3⟩, ⟨b1, b2⟩, nx⟩ := ls
  obtain ⟨n, iv⟩ := iS.1
  have c1 : cc + 3 ≤ 601024 := by omega
  have c2 : ss + 18 ≤ 7293034 := by omega
  unfold w_L_law_400
  obtain ⟨cd, v, σ', iS', hL, hM⟩ := op_changeLips iS iv (G.2.2.2.1 (Int32.toNatClampNeg (Int32.ofNat i + (1 : Int32)))) (G.2.2.2.1 (Int32.toNatClampNeg (Int32.ofNat i + (2 : Int32))))
  exact ⟨v1, v2, c1, c2, hL X σ o _ w (fun X1 o1 w1 h1 => ⟨v1, v2, c1, c2, w1.1.t123, hM X1 σ' o1 _ w1 (fun X2 u w2 h2 => ⟨c1, c2, w2.1.t123, w2.1.t123, tl_I w2 h1 h2 (nx _ _ _ _ _ w2 iS' (by omega) (by omega))⟩)⟩)⟩
theorem law_468 (ls : LwS G P i cc ss) (iS : InvS σ) (w : Wd X σ σ o) : w_L_law_468 G P 0 1 123 129 130 (Int32.ofNat i) cc ss X K := by
  obtain ⟨⟨v1, v2, v3⟩, ⟨b1, b2⟩, nx⟩ := ls
  obtain ⟨n, iv⟩ := iS.1
  have c1 : cc + 3 ≤ 601024 := by omega
  have c2 : ss + 18 ≤ 7293034 := by omega
  unfold w_L_law_468
  obtain ⟨cd, v, σ', iS', hL, hM⟩ := op_changeSigh iS iv (G.2.2.2.1 (Int32.toNatClampNeg (Int32.ofNat i + (1 : Int32)))) (G.2.2.2.1 (Int32.toNatClampNeg (Int32.ofNat i + (2 : Int32))))
  exact ⟨v1, v2, c1, c2, hL X σ o _ w (fun X1 o1 w1 h1 => ⟨v1, v2, c1, c2, w1.1.t123, hM X1 σ' o1 _ w1 (fun X2 u w2 h2 => ⟨c1, c2, w2.1.t123, w2.1.t123, tl_I w2 h1 h2 (nx _ _ _ _ _ w2 iS' (by omega) (by omega))⟩)⟩)⟩
theorem law_536 (ls : LwS G P i cc ss) (iS : InvS σ) (w : Wd X σ σ o) : w_L_law_536 G P 0 1 123 129 130 (Int32.ofNat i) cc ss X K := by
  obtain ⟨⟨v1, v2, v3⟩, ⟨b1, b2⟩, nx⟩ := ls
  obtain ⟨n, iv⟩ := iS.1
  have c1 : cc + 3 ≤ 601024 := by omega
  have c2 : ss + 18 ≤ 7293034 := by omega
  unfold w_L_law_536
  obtain ⟨cd, v, σ', iS', hL, hM⟩ := op_moveClause iS iv (G.2.2.2.1 (Int32.toNatClampNeg (Int32.ofNat i + (1 : Int32)))) (G.2.2.2.1 (Int32.toNatClampNeg (Int32.ofNat i + (2 : Int32))))
  exact ⟨v1, v2, c1, c2, hL X σ o _ w (fun X1 o1 w1 h1 => ⟨v1, v2, c1, c2, w1.1.t123, hM X1 σ' o1 _ w1 (fun X2 u w2 h2 => ⟨c1, c2, w2.1.t123, w2.1.t123, tl_I w2 h1 h2 (nx _ _ _ _ _ w2 iS' (by omega) (by omega))⟩)⟩)⟩
theorem law_604 (ls : LwS G P i cc ss) (iS : InvS σ) (w : Wd X σ σ o) : w_L_law_604 G P 0 1 123 129 130 (Int32.ofNat i) cc ss X K := by
  obtain ⟨⟨v1, v2, v3⟩, ⟨b1, b2⟩, nx⟩ := ls
  obtain ⟨n, iv⟩ := iS.1
  have c1 : cc + 4 ≤ 601024 := by omega
  have c2 : ss + 24 ≤ 7293034 := by omega
  unfold w_L_law_604
  obtain ⟨cd, v, σ', iS', hL, hM⟩ := op_translate iS iv (G.2.2.2.1 (Int32.toNatClampNeg (Int32.ofNat i + (1 : Int32)))) (G.2.2.2.1 (Int32.toNatClampNeg (Int32.ofNat i + (2 : Int32)))) (G.2.2.2.1 (Int32.toNatClampNeg (Int32.ofNat i + (3 : Int32))))
  exact ⟨v1, v2, v3, c1, c2, hL X σ o _ w (fun X1 o1 w1 h1 => ⟨v1, v2, v3, c1, c2, w1.1.t123, hM X1 σ' o1 _ w1 (fun X2 u w2 h2 => ⟨c1, c2, w2.1.t123, w2.1.t123, tl_I w2 h1 h2 (nx _ _ _ _ _ w2 iS' (by omega) (by omega))⟩)⟩)⟩
theorem law_684 (ls : LwS G P i cc ss) (iS : InvS σ) (w : Wd X σ σ o) : w_L_law_684 G P 0 1 123 129 130 (Int32.ofNat i) cc ss X K := by
  obtain ⟨⟨v1, v2, v3⟩, ⟨b1, b2⟩, nx⟩ := ls
  obtain ⟨n, iv⟩ := iS.1
  have c1 : cc + 4 ≤ 601024 := by omega
  have c2 : ss + 24 ≤ 7293034 := by omega
  unfold w_L_law_684
  obtain ⟨cd, v, σ', iS', hL, hM⟩ := op_annex iS iv (G.2.2.2.1 (Int32.toNatClampNeg (Int32.ofNat i + (1 : Int32)))) (G.2.2.2.1 (Int32.toNatClampNeg (Int32.ofNat i + (2 : Int32)))) (G.2.2.2.1 (Int32.toNatClampNeg (Int32.ofNat i + (3 : Int32))))
  exact ⟨v1, v2, v3, c1, c2, hL X σ o _ w (fun X1 o1 w1 h1 => ⟨v1, v2, v3, c1, c2, w1.1.t123, hM X1 σ' o1 _ w1 (fun X2 u w2 h2 => ⟨c1, c2, w2.1.t123, w2.1.t123, tl_I w2 h1 h2 (nx _ _ _ _ _ w2 iS' (by omega) (by omega))⟩)⟩)⟩
theorem law_764 (ls : LwS G P i cc ss) (iS : InvS σ) (w : Wd X σ σ o) : w_L_law_764 G P 0 1 123 129 130 (Int32.ofNat i) cc ss X K := by
  obtain ⟨⟨v1, v2, v3⟩, ⟨b1, b2⟩, nx⟩ := ls
  obtain ⟨n, iv⟩ := iS.1
  have c1 : cc + 3 ≤ 601024 := by omega
  have c2 : ss + 18 ≤ 7293034 := by omega
  unfold w_L_law_764
  obtain ⟨cd, v, σ', iS', hL, hM⟩ := op_bringBack iS iv (G.2.2.2.1 (Int32.toNatClampNeg (Int32.ofNat i + (1 : Int32)))) (G.2.2.2.1 (Int32.toNatClampNeg (Int32.ofNat i + (2 : Int32))))
  exact ⟨v1, v2, c1, c2, hL X σ o _ w (fun X1 o1 w1 h1 => ⟨v1, v2, c1, c2, w1.1.t123, hM X1 σ' o1 _ w1 (fun X2 u w2 h2 => ⟨c1, c2, w2.1.t123, w2.1.t123, tl_I w2 h1 h2 (nx _ _ _ _ _ w2 iS' (by omega) (by omega))⟩)⟩)⟩
theorem law_832 (ls : LwS G P i cc ss) (iS : InvS σ) (w : Wd X σ σ o) : w_L_law_832 G P 0 1 123 129 130 (Int32.ofNat i) cc ss X K := by
  obtain ⟨⟨v1, v2, v3⟩, ⟨b1, b2⟩, nx⟩ := ls
  obtain ⟨n, iv⟩ := iS.1
  have c1 : cc + 4 ≤ 601024 := by omega
  have c2 : ss + 24 ≤ 7293034 := by omega
  unfold w_L_law_832
  obtain ⟨cd, v, σ', iS', hL, hM⟩ := op_cast iS iv (G.2.2.2.1 (Int32.toNatClampNeg (Int32.ofNat i + (1 : Int32)))) (G.2.2.2.1 (Int32.toNatClampNeg (Int32.ofNat i + (2 : Int32)))) (G.2.2.2.1 (Int32.toNatClampNeg (Int32.ofNat i + (3 : Int32))))
  exact ⟨v1, v2, v3, c1, c2, hL X σ o _ w (fun X1 o1 w1 h1 => ⟨v1, v2, v3, c1, c2, w1.1.t123, hM X1 σ' o1 _ w1 (fun X2 u w2 h2 => ⟨c1, c2, w2.1.t123, w2.1.t123, tl_I w2 h1 h2 (nx _ _ _ _ _ w2 iS' (by omega) (by omega))⟩)⟩)⟩
theorem law_912 (ls : LwS G P i cc ss) (iS : InvS σ) (w : Wd X σ σ o) : w_L_law_912 G P 0 1 123 129 130 (Int32.ofNat i) cc ss X K := by
  obtain ⟨⟨v1, v2, v3⟩, ⟨b1, b2⟩, nx⟩ := ls
  obtain ⟨n, iv⟩ := iS.1
  have c1 : cc + 3 ≤ 601024 := by omega
  have c2 : ss + 18 ≤ 7293034 := by omega
  unfold w_L_law_912
  obtain ⟨cd, v, σ', iS', hL, hM⟩ := op_record iS iv (G.2.2.2.1 (Int32.toNatClampNeg (Int32.ofNat i + (1 : Int32)))) (G.2.2.2.1 (Int32.toNatClampNeg (Int32.ofNat i + (2 : Int32))))
  exact ⟨v1, v2, c1, c2, hL X σ o _ w (fun X1 o1 w1 h1 => ⟨v1, v2, c1, c2, w1.1.t123, hM X1 σ' o1 _ w1 (fun X2 u w2 h2 => ⟨c1, c2, w2.1.t123, w2.1.t123, tl_I w2 h1 h2 (nx _ _ _ _ _ w2 iS' (by omega) (by omega))⟩)⟩)⟩
theorem law_980 (ls : LwS G P i cc ss) (iS : InvS σ) (w : Wd X σ σ o) : w_L_law_980 G P 0 1 123 129 130 (Int32.ofNat i) cc ss X K := by
  obtain ⟨⟨v1, v2, v3⟩, ⟨b1, b2⟩, nx⟩ := ls
  obtain ⟨n, iv⟩ := iS.1
  have c1 : cc + 3 ≤ 601024 := by omega
  have c2 : ss + 18 ≤ 7293034 := by omega
  unfold w_L_law_980
  obtain ⟨cd, v, σ', iS', hL, hM⟩ := op_wipe iS iv (G.2.2.2.1 (Int32.toNatClampNeg (Int32.ofNat i + (1 : Int32)))) (G.2.2.2.1 (Int32.toNatClampNeg (Int32.ofNat i + (2 : Int32))))
  exact ⟨v1, v2, c1, c2, hL X σ o _ w (fun X1 o1 w1 h1 => ⟨v1, v2, c1, c2, w1.1.t123, hM X1 σ' o1 _ w1 (fun X2 u w2 h2 => ⟨c1, c2, w2.1.t123, w2.1.t123, tl_I w2 h1 h2 (nx _ _ _ _ _ w2 iS' (by omega) (by omega))⟩)⟩)⟩
theorem law_1048 (ls : LwS G P i cc ss) (iS : InvS σ) (w : Wd X σ σ o) : w_L_law_1048 G P 0 1 123 129 130 (Int32.ofNat i) cc ss X K := by
  obtain ⟨⟨v1, v2, v3⟩, ⟨b1, b2⟩, nx⟩ := ls
  obtain ⟨n, iv⟩ := iS.1
  have c1 : cc + 1 ≤ 601024 := by omega
  have c2 : ss + 6 ≤ 7293034 := by omega
  unfold w_L_law_1048
  obtain ⟨cd, v, σ', iS', hL, hM⟩ := op_nextSession iS iv
  exact ⟨c1, c2, hL X σ o _ w (fun X1 o1 w1 h1 => ⟨c1, c2, w1.1.t123, hM X1 σ' o1 _ w1 (fun X2 u w2 h2 => ⟨c1, c2, w2.1.t123, w2.1.t123, tl_I w2 h1 h2 (nx _ _ _ _ _ w2 iS' (by omega) (by omega))⟩)⟩)⟩
theorem law_1092 (ls : LwS G P i cc ss) (iS : InvS σ) (w : Wd X σ σ o) : w_L_law_1092 G P 0 1 123 129 130 (Int32.ofNat i) cc ss X K := by
  obtain ⟨⟨v1, v2, v3⟩, ⟨b1, b2⟩, nx⟩ := ls
  obtain ⟨n, iv⟩ := iS.1
  have c1 : cc + 3 ≤ 601024 := by omega
  have c2 : ss + 18 ≤ 7293034 := by omega
  unfold w_L_law_1092
  obtain ⟨cd, v, σ', iS', hL, hM⟩ := op_mix iS iv (G.2.2.2.1 (Int32.toNatClampNeg (Int32.ofNat i + (1 : Int32)))) (G.2.2.2.1 (Int32.toNatClampNeg (Int32.ofNat i + (2 : Int32))))
  exact ⟨v1, v2, c1, c2, hL X σ o _ w (fun X1 o1 w1 h1 => ⟨v1, v2, c1, c2, w1.1.t123, hM X1 σ' o1 _ w1 (fun X2 u w2 h2 => ⟨c1, c2, w2.1.t123, w2.1.t123, tl_I w2 h1 h2 (nx _ _ _ _ _ w2 iS' (by omega) (by omega))⟩)⟩)⟩
theorem law_1160 (ls : LwS G P i cc ss) (iS : InvS σ) (w : Wd X σ σ o) : w_L_law_1160 G P 0 1 123 129 130 (Int32.ofNat i) cc ss X K := by
  obtain ⟨⟨v1, v2, v3⟩, ⟨b1, b2⟩, nx⟩ := ls
  obtain ⟨n, iv⟩ := iS.1
  have c1 : cc + 4 ≤ 601024 := by omega
  have c2 : ss + 24 ≤ 7293034 := by omega
  unfold w_L_law_1160
  obtain ⟨cd, v, σ', iS', hL, hM⟩ := op_sign iS iv (G.2.2.2.1 (Int32.toNatClampNeg (Int32.ofNat i + (1 : Int32)))) (G.2.2.2.1 (Int32.toNatClampNeg (Int32.ofNat i + (2 : Int32)))) (G.2.2.2.1 (Int32.toNatClampNeg (Int32.ofNat i + (3 : Int32))))
  exact ⟨v1, v2, v3, c1, c2, hL X σ o _ w (fun X1 o1 w1 h1 => ⟨v1, v2, v3, c1, c2, w1.1.t123, hM X1 σ' o1 _ w1 (fun X2 u w2 h2 => ⟨c1, c2, w2.1.t123, w2.1.t123, tl_I w2 h1 h2 (nx _ _ _ _ _ w2 iS' (by omega) (by omega))⟩)⟩)⟩
theorem law_1240 (ls : LwS G P i cc ss) (iS : InvS σ) (w : Wd X σ σ o) : w_L_law_1240 G P 0 1 123 129 130 (Int32.ofNat i) cc ss X K := by
  obtain ⟨⟨v1, v2, v3⟩, ⟨b1, b2⟩, nx⟩ := ls
  obtain ⟨n, iv⟩ := iS.1
  have c1 : cc + 2 ≤ 601024 := by omega
  have c2 : ss + 12 ≤ 7293034 := by omega
  unfold w_L_law_1240
  obtain ⟨cd, v, σ', iS', hL, hM⟩ := op_append iS (G.2.2.2.1 (Int32.toNatClampNeg (Int32.ofNat i + (1 : Int32))))
  exact ⟨v1, c1, c2, hL X σ o _ w (fun X1 o1 w1 h1 => ⟨v1, c1, c2, w1.1.t123, hM X1 σ' o1 _ w1 (fun X2 u w2 h2 => ⟨c1, c2, w2.1.t123, w2.1.t123, tl_I w2 h1 h2 (nx _ _ _ _ _ w2 iS' (by omega) (by omega))⟩)⟩)⟩
theorem law_1296 (ls : LwS G P i cc ss) (iS : InvS σ) (w : Wd X σ σ o) : w_L_law_1296 G P 0 1 123 129 130 (Int32.ofNat i) cc ss X K := by
  obtain ⟨⟨v1, v2, v3⟩, ⟨b1, b2⟩, nx⟩ := ls
  obtain ⟨n, iv⟩ := iS.1
  have c1 : cc + 0 ≤ 601024 := by omega
  have c2 : ss + 0 ≤ 7293034 := by omega
  unfold w_L_law_1296
  obtain ⟨v, σ', iS', hL, hM⟩ := op_clearBuffer iS
  exact ⟨c1, c2, w.1.t1, hL X σ o _ w (fun X1 w1 => ⟨c1, c2, w1.1.t123, hM X1 σ' o _ w1 (fun X2 o2 w2 => ⟨fun _ => (nx _ _ _ _ _ w2 iS' (by omega) (by omega)), fun hne => absurd rfl hne⟩)⟩)⟩
theorem law_1309 (ls : LwS G P i cc ss) (iS : InvS σ) (w : Wd X σ σ o) : w_L_law_1309 G P 0 1 123 129 130 (Int32.ofNat i) cc ss X K := by
  obtain ⟨⟨v1, v2, v3⟩, ⟨b1, b2⟩, nx⟩ := ls
  obtain ⟨n, iv⟩ := iS.1
  have c1 : cc + 0 ≤ 601024 := by omega
  have c2 : ss + 0 ≤ 7293034 := by omega
  unfold w_L_law_1309
  obtain ⟨v, σ', iS', hL, hM⟩ := op_firstError iS
  exact ⟨c1, c2, w.1.t1, hL X σ o _ w (fun X1 w1 => ⟨c1, c2, w1.1.t123, hM X1 σ' o _ w1 (fun X2 o2 w2 => ⟨fun _ => (nx _ _ _ _ _ w2 iS' (by omega) (by omega)), fun hne => absurd rfl hne⟩)⟩)⟩
theorem law_1322 (ls : LwS G P i cc ss) (iS : InvS σ) (w : Wd X σ σ o) : w_L_law_1322 G P 0 1 123 129 130 (Int32.ofNat i) cc ss X K := by
  obtain ⟨⟨v1, v2, v3⟩, ⟨b1, b2⟩, nx⟩ := ls
  obtain ⟨n, iv⟩ := iS.1
  have c1 : cc + 1 ≤ 601024 := by omega
  have c2 : ss + 6 ≤ 7293034 := by omega
  unfold w_L_law_1322
  obtain ⟨cd, v, σ', iS', hL, hM⟩ := op_load iS iv
  exact ⟨c1, c2, hL X σ o _ w (fun X1 o1 w1 h1 => ⟨c1, c2, w1.1.t123, hM X1 σ' o1 _ w1 (fun X2 u w2 h2 => ⟨c1, c2, w2.1.t123, w2.1.t123, tl_I w2 h1 h2 (nx _ _ _ _ _ w2 iS' (by omega) (by omega))⟩)⟩)⟩
theorem law_1366 (ls : LwS G P i cc ss) (iS : InvS σ) (w : Wd X σ σ o) : w_L_law_1366 G P 0 1 123 129 130 (Int32.ofNat i) cc ss X K := by
  obtain ⟨⟨v1, v2, v3⟩, ⟨b1, b2⟩, nx⟩ := ls
  obtain ⟨n, iv⟩ := iS.1
  have c1 : cc + 1 ≤ 601024 := by omega
  have c2 : ss + 6 ≤ 7293034 := by omega
  unfold w_L_law_1366
  obtain ⟨cd, σ', iS', hL, hM⟩ := op_keep iS (G.2.2.2.1 (Int32.toNatClampNeg (Int32.ofNat i + (1 : Int32))))
  exact ⟨v1, c1, c2, hL X σ o _ w (fun X1 o1 w1 => ⟨v1, c1, c2, w1.1.t123, hM X1 σ' o1 _ w1 (fun X2 w2 => ⟨c1, c2, w2.1.t123, w2.1.t123, fun _ => (nx _ _ _ _ _ w2 iS' (by omega) (by omega)), fun hne => absurd w2.2.2.2.2.2 hne⟩)⟩)⟩
theorem law_1402 (ls : LwS G P i cc ss) (iS : InvS σ) (w : Wd X σ σ o) : w_L_law_1402 G P 0 1 123 129 130 (Int32.ofNat i) cc ss X K := by
  obtain ⟨⟨v1, v2, v3⟩, ⟨b1, b2⟩, nx⟩ := ls
  obtain ⟨n, iv⟩ := iS.1
  have c1 : cc + 2 ≤ 601024 := by omega
  have c2 : ss + 12 ≤ 7293034 := by omega
  unfold w_L_law_1402
  obtain ⟨cd, σ', iS', hL, hM⟩ := op_goBack iS (G.2.2.2.1 (Int32.toNatClampNeg (Int32.ofNat i + (1 : Int32))))
  exact ⟨v1, c1, c2, hL X σ o _ w (fun X1 o1 w1 => ⟨v1, c1, c2, w1.1.t123, hM X1 σ' o1 _ w1 (fun X2 w2 => ⟨c1, c2, w2.1.t123, w2.1.t123, fun _ => (nx _ _ _ _ _ w2 iS' (by omega) (by omega)), fun hne => absurd w2.2.2.2.2.2 hne⟩)⟩)⟩
theorem law_1438 (ls : LwS G P i cc ss) (iS : InvS σ) (w : Wd X σ σ o) : w_L_law_1438 G P 0 1 123 129 130 (Int32.ofNat i) cc ss X K := by
  obtain ⟨⟨v1, v2, v3⟩, ⟨b1, b2⟩, nx⟩ := ls
  obtain ⟨n, iv⟩ := iS.1
  have c1 : cc + 1 ≤ 601024 := by omega
  have c2 : ss + 6 ≤ 7293034 := by omega
  unfold w_L_law_1438
  obtain ⟨cd, σ', iS', hL, hM⟩ := op_undo iS
  exact ⟨c1, c2, hL X σ o _ w (fun X1 o1 w1 => ⟨c1, c2, w1.1.t123, hM X1 σ' o1 _ w1 (fun X2 w2 => ⟨c1, c2, w2.1.t123, w2.1.t123, fun _ => (nx _ _ _ _ _ w2 iS' (by omega) (by omega)), fun hne => absurd w2.2.2.2.2.2 hne⟩)⟩)⟩
theorem law_1462 (ls : LwS G P i cc ss) (iS : InvS σ) (w : Wd X σ σ o) : w_L_law_1462 G P 0 1 123 129 130 (Int32.ofNat i) cc ss X K := by
  obtain ⟨⟨v1, v2, v3⟩, ⟨b1, b2⟩, nx⟩ := ls
  obtain ⟨n, iv⟩ := iS.1
  have c1 : cc + 0 ≤ 601024 := by omega
  have c2 : ss + 0 ≤ 7293034 := by omega
  unfold w_L_law_1462
  obtain ⟨v, σ', iS', hL, hM⟩ := op_savedStates iS
  exact ⟨c1, c2, w.1.t1, hL X σ o _ w (fun X1 w1 => ⟨c1, c2, w1.1.t123, hM X1 σ' o _ w1 (fun X2 o2 w2 => ⟨fun _ => (nx _ _ _ _ _ w2 iS' (by omega) (by omega)), fun hne => absurd rfl hne⟩)⟩)⟩
theorem law_1475 (ls : LwS G P i cc ss) (iS : InvS σ) (w : Wd X σ σ o) : w_L_law_1475 G P 0 1 123 129 130 (Int32.ofNat i) cc ss X K := by
  obtain ⟨⟨v1, v2, v3⟩, ⟨b1, b2⟩, nx⟩ := ls
  obtain ⟨n, iv⟩ := iS.1
  have c1 : cc + 0 ≤ 601024 := by omega
  have c2 : ss + 0 ≤ 7293034 := by omega
  unfold w_L_law_1475
  obtain ⟨v, σ', iS', hL, hM⟩ := op_clauses iS
  exact ⟨c1, c2, w.1.t1, hL X σ o _ w (fun X1 w1 => ⟨c1, c2, w1.1.t123, hM X1 σ' o _ w1 (fun X2 o2 w2 => ⟨fun _ => (nx _ _ _ _ _ w2 iS' (by omega) (by omega)), fun hne => absurd rfl hne⟩)⟩)⟩
theorem law_1488 (ls : LwS G P i cc ss) (iS : InvS σ) (w : Wd X σ σ o) : w_L_law_1488 G P 0 1 123 129 130 (Int32.ofNat i) cc ss X K := by
  obtain ⟨⟨v1, v2, v3⟩, ⟨b1, b2⟩, nx⟩ := ls
  obtain ⟨n, iv⟩ := iS.1
  have c1 : cc + 1 ≤ 601024 := by omega
  have c2 : ss + 6 ≤ 7293034 := by omega
  unfold w_L_law_1488
  obtain ⟨cd, v, σ', iS', hL, hM⟩ := op_reelOf iS iv (G.2.2.2.1 (Int32.toNatClampNeg (Int32.ofNat i + (1 : Int32))))
  exact ⟨v1, c1, c2, hL X σ o _ w (fun X1 o1 w1 h1 => ⟨v1, c1, c2, w1.1.t123, hM X1 σ' o1 _ w1 (fun X2 u w2 h2 => ⟨c1, c2, w2.1.t123, w2.1.t123, tl_I w2 h1 h2 (nx _ _ _ _ _ w2 iS' (by omega) (by omega))⟩)⟩)⟩
theorem law_1544 (ls : LwS G P i cc ss) (iS : InvS σ) (w : Wd X σ σ o) : w_L_law_1544 G P 0 1 123 129 130 (Int32.ofNat i) cc ss X K := by
  obtain ⟨⟨v1, v2, v3⟩, ⟨b1, b2⟩, nx⟩ := ls
  obtain ⟨n, iv⟩ := iS.1
  have c1 : cc + 1 ≤ 601024 := by omega
  have c2 : ss + 6 ≤ 7293034 := by omega
  unfold w_L_law_1544
  obtain ⟨cd, v, σ', iS', hL, hM⟩ := op_speakerOf iS iv (G.2.2.2.1 (Int32.toNatClampNeg (Int32.ofNat i + (1 : Int32))))
  exact ⟨v1, c1, c2, hL X σ o _ w (fun X1 o1 w1 h1 => ⟨v1, c1, c2, w1.1.t123, hM X1 σ' o1 _ w1 (fun X2 u w2 h2 => ⟨c1, c2, w2.1.t123, w2.1.t123, tl_I w2 h1 h2 (nx _ _ _ _ _ w2 iS' (by omega) (by omega))⟩)⟩)⟩
theorem law_1600 (ls : LwS G P i cc ss) (iS : InvS σ) (w : Wd X σ σ o) : w_L_law_1600 G P 0 1 123 129 130 (Int32.ofNat i) cc ss X K := by
  obtain ⟨⟨v1, v2, v3⟩, ⟨b1, b2⟩, nx⟩ := ls
  obtain ⟨n, iv⟩ := iS.1
  have c1 : cc + 1 ≤ 601024 := by omega
  have c2 : ss + 6 ≤ 7293034 := by omega
  unfold w_L_law_1600
  obtain ⟨cd, v, σ', iS', hL, hM⟩ := op_lipsOf iS iv (G.2.2.2.1 (Int32.toNatClampNeg (Int32.ofNat i + (1 : Int32))))
  exact ⟨v1, c1, c2, hL X σ o _ w (fun X1 o1 w1 h1 => ⟨v1, c1, c2, w1.1.t123, hM X1 σ' o1 _ w1 (fun X2 u w2 h2 => ⟨c1, c2, w2.1.t123, w2.1.t123, tl_I w2 h1 h2 (nx _ _ _ _ _ w2 iS' (by omega) (by omega))⟩)⟩)⟩
theorem law_1656 (ls : LwS G P i cc ss) (iS : InvS σ) (w : Wd X σ σ o) : w_L_law_1656 G P 0 1 123 129 130 (Int32.ofNat i) cc ss X K := by
  obtain ⟨⟨v1, v2, v3⟩, ⟨b1, b2⟩, nx⟩ := ls
  obtain ⟨n, iv⟩ := iS.1
  have c1 : cc + 1 ≤ 601024 := by omega
  have c2 : ss + 6 ≤ 7293034 := by omega
  unfold w_L_law_1656
  obtain ⟨cd, v, σ', iS', hL, hM⟩ := op_sighOf iS iv (G.2.2.2.1 (Int32.toNatClampNeg (Int32.ofNat i + (1 : Int32))))
  exact ⟨v1, c1, c2, hL X σ o _ w (fun X1 o1 w1 h1 => ⟨v1, c1, c2, w1.1.t123, hM X1 σ' o1 _ w1 (fun X2 u w2 h2 => ⟨c1, c2, w2.1.t123, w2.1.t123, tl_I w2 h1 h2 (nx _ _ _ _ _ w2 iS' (by omega) (by omega))⟩)⟩)⟩
theorem law_1712 (ls : LwS G P i cc ss) (iS : InvS σ) (w : Wd X σ σ o) : w_L_law_1712 G P 0 1 123 129 130 (Int32.ofNat i) cc ss X K := by
  obtain ⟨⟨v1, v2, v3⟩, ⟨b1, b2⟩, nx⟩ := ls
  obtain ⟨n, iv⟩ := iS.1
  have c1 : cc + 2 ≤ 601024 := by omega
  have c2 : ss + 12 ≤ 7293034 := by omega
  unfold w_L_law_1712
  obtain ⟨cd, v, σ', iS', hL, hM⟩ := op_isTranslated iS iv (G.2.2.2.1 (Int32.toNatClampNeg (Int32.ofNat i + (1 : Int32)))) (G.2.2.2.1 (Int32.toNatClampNeg (Int32.ofNat i + (2 : Int32))))
  exact ⟨v1, v2, c1, c2, hL X σ o _ w (fun X1 o1 w1 h1 => ⟨v1, v2, c1, c2, w1.1.t123, hM X1 σ' o1 _ w1 (fun X2 u w2 h2 => ⟨c1, c2, w2.1.t123, w2.1.t123, tl_B w2 h1 h2 (nx _ _ _ _ _ w2 iS' (by omega) (by omega))⟩)⟩)⟩
theorem law_1787 (ls : LwS G P i cc ss) (iS : InvS σ) (w : Wd X σ σ o) : w_L_law_1787 G P 0 1 123 129 130 (Int32.ofNat i) cc ss X K := by
  obtain ⟨⟨v1, v2, v3⟩, ⟨b1, b2⟩, nx⟩ := ls
  obtain ⟨n, iv⟩ := iS.1
  have c1 : cc + 3 ≤ 601024 := by omega
  have c2 : ss + 18 ≤ 7293034 := by omega
  unfold w_L_law_1787
  obtain ⟨cd, v, σ', iS', hL, hM⟩ := op_framesOf iS iv (G.2.2.2.1 (Int32.toNatClampNeg (Int32.ofNat i + (1 : Int32)))) (G.2.2.2.1 (Int32.toNatClampNeg (Int32.ofNat i + (2 : Int32))))
  exact ⟨v1, v2, c1, c2, hL X σ o _ w (fun X1 o1 w1 h1 => ⟨v1, v2, c1, c2, w1.1.t123, hM X1 σ' o1 _ w1 (fun X2 u w2 h2 => ⟨c1, c2, w2.1.t123, w2.1.t123, tl_I w2 h1 h2 (nx _ _ _ _ _ w2 iS' (by omega) (by omega))⟩)⟩)⟩
theorem law_1855 (ls : LwS G P i cc ss) (iS : InvS σ) (w : Wd X σ σ o) : w_L_law_1855 G P 0 1 123 129 130 (Int32.ofNat i) cc ss X K := by
  obtain ⟨⟨v1, v2, v3⟩, ⟨b1, b2⟩, nx⟩ := ls
  obtain ⟨n, iv⟩ := iS.1
  have c1 : cc + 2 ≤ 601024 := by omega
  have c2 : ss + 12 ≤ 7293034 := by omega
  unfold w_L_law_1855
  obtain ⟨cd, v, σ', iS', hL, hM⟩ := op_annexedOf iS iv (G.2.2.2.1 (Int32.toNatClampNeg (Int32.ofNat i + (1 : Int32)))) (G.2.2.2.1 (Int32.toNatClampNeg (Int32.ofNat i + (2 : Int32))))
  exact ⟨v1, v2, c1, c2, hL X σ o _ w (fun X1 o1 w1 h1 => ⟨v1, v2, c1, c2, w1.1.t123, hM X1 σ' o1 _ w1 (fun X2 u w2 h2 => ⟨c1, c2, w2.1.t123, w2.1.t123, tl_I w2 h1 h2 (nx _ _ _ _ _ w2 iS' (by omega) (by omega))⟩)⟩)⟩
theorem law_1923 (ls : LwS G P i cc ss) (iS : InvS σ) (w : Wd X σ σ o) : w_L_law_1923 G P 0 1 123 129 130 (Int32.ofNat i) cc ss X K := by
  obtain ⟨⟨v1, v2, v3⟩, ⟨b1, b2⟩, nx⟩ := ls
  obtain ⟨n, iv⟩ := iS.1
  have c1 : cc + 2 ≤ 601024 := by omega
  have c2 : ss + 12 ≤ 7293034 := by omega
  unfold w_L_law_1923
  obtain ⟨cd, v, σ', iS', hL, hM⟩ := op_isRecorded iS iv (G.2.2.2.1 (Int32.toNatClampNeg (Int32.ofNat i + (1 : Int32)))) (G.2.2.2.1 (Int32.toNatClampNeg (Int32.ofNat i + (2 : Int32))))
  exact ⟨v1, v2, c1, c2, hL X σ o _ w (fun X1 o1 w1 h1 => ⟨v1, v2, c1, c2, w1.1.t123, hM X1 σ' o1 _ w1 (fun X2 u w2 h2 => ⟨c1, c2, w2.1.t123, w2.1.t123, tl_B w2 h1 h2 (nx _ _ _ _ _ w2 iS' (by omega) (by omega))⟩)⟩)⟩
theorem law_1998 (ls : LwS G P i cc ss) (iS : InvS σ) (w : Wd X σ σ o) : w_L_law_1998 G P 0 1 123 129 130 (Int32.ofNat i) cc ss X K := by
  obtain ⟨⟨v1, v2, v3⟩, ⟨b1, b2⟩, nx⟩ := ls
  obtain ⟨n, iv⟩ := iS.1
  have c1 : cc + 3 ≤ 601024 := by omega
  have c2 : ss + 18 ≤ 7293034 := by omega
  unfold w_L_law_1998
  obtain ⟨cd, v, σ', iS', hL, hM⟩ := op_sessionOf iS iv (G.2.2.2.1 (Int32.toNatClampNeg (Int32.ofNat i + (1 : Int32)))) (G.2.2.2.1 (Int32.toNatClampNeg (Int32.ofNat i + (2 : Int32))))
  exact ⟨v1, v2, c1, c2, hL X σ o _ w (fun X1 o1 w1 h1 => ⟨v1, v2, c1, c2, w1.1.t123, hM X1 σ' o1 _ w1 (fun X2 u w2 h2 => ⟨c1, c2, w2.1.t123, w2.1.t123, tl_I w2 h1 h2 (nx _ _ _ _ _ w2 iS' (by omega) (by omega))⟩)⟩)⟩
theorem law_2066 (ls : LwS G P i cc ss) (iS : InvS σ) (w : Wd X σ σ o) : w_L_law_2066 G P 0 1 123 129 130 (Int32.ofNat i) cc ss X K := by
  obtain ⟨⟨v1, v2, v3⟩, ⟨b1, b2⟩, nx⟩ := ls
  obtain ⟨n, iv⟩ := iS.1
  have c1 : cc + 3 ≤ 601024 := by omega
  have c2 : ss + 18 ≤ 7293034 := by omega
  unfold w_L_law_2066
  obtain ⟨cd, v, σ', iS', hL, hM⟩ := op_roomFor iS iv (G.2.2.2.1 (Int32.toNatClampNeg (Int32.ofNat i + (1 : Int32)))) (G.2.2.2.1 (Int32.toNatClampNeg (Int32.ofNat i + (2 : Int32))))
  exact ⟨v1, v2, c1, c2, hL X σ o _ w (fun X1 o1 w1 h1 => ⟨v1, v2, c1, c2, w1.1.t123, hM X1 σ' o1 _ w1 (fun X2 u w2 h2 => ⟨c1, c2, w2.1.t123, w2.1.t123, tl_I w2 h1 h2 (nx _ _ _ _ _ w2 iS' (by omega) (by omega))⟩)⟩)⟩
theorem law_2134 (ls : LwS G P i cc ss) (iS : InvS σ) (w : Wd X σ σ o) : w_L_law_2134 G P 0 1 123 129 130 (Int32.ofNat i) cc ss X K := by
  obtain ⟨⟨v1, v2, v3⟩, ⟨b1, b2⟩, nx⟩ := ls
  obtain ⟨n, iv⟩ := iS.1
  have c1 : cc + 2 ≤ 601024 := by omega
  have c2 : ss + 12 ≤ 7293034 := by omega
  unfold w_L_law_2134
  obtain ⟨cd, v, σ', iS', hL, hM⟩ := op_fits iS iv (G.2.2.2.1 (Int32.toNatClampNeg (Int32.ofNat i + (1 : Int32)))) (G.2.2.2.1 (Int32.toNatClampNeg (Int32.ofNat i + (2 : Int32))))
  exact ⟨v1, v2, c1, c2, hL X σ o _ w (fun X1 o1 w1 h1 => ⟨v1, v2, c1, c2, w1.1.t123, hM X1 σ' o1 _ w1 (fun X2 u w2 h2 => ⟨c1, c2, w2.1.t123, w2.1.t123, tl_B w2 h1 h2 (nx _ _ _ _ _ w2 iS' (by omega) (by omega))⟩)⟩)⟩
theorem law_2209 (ls : LwS G P i cc ss) (iS : InvS σ) (w : Wd X σ σ o) : w_L_law_2209 G P 0 1 123 129 130 (Int32.ofNat i) cc ss X K := by
  obtain ⟨⟨v1, v2, v3⟩, ⟨b1, b2⟩, nx⟩ := ls
  obtain ⟨n, iv⟩ := iS.1
  have c1 : cc + 3 ≤ 601024 := by omega
  have c2 : ss + 18 ≤ 7293034 := by omega
  unfold w_L_law_2209
  obtain ⟨cd, v, σ', iS', hL, hM⟩ := op_hundredthsOf iS iv (G.2.2.2.1 (Int32.toNatClampNeg (Int32.ofNat i + (1 : Int32)))) (G.2.2.2.1 (Int32.toNatClampNeg (Int32.ofNat i + (2 : Int32))))
  exact ⟨v1, v2, c1, c2, hL X σ o _ w (fun X1 o1 w1 h1 => ⟨v1, v2, c1, c2, w1.1.t123, hM X1 σ' o1 _ w1 (fun X2 u w2 h2 => ⟨c1, c2, w2.1.t123, w2.1.t123, tl_I w2 h1 h2 (nx _ _ _ _ _ w2 iS' (by omega) (by omega))⟩)⟩)⟩
theorem law_2277 (ls : LwS G P i cc ss) (iS : InvS σ) (w : Wd X σ σ o) : w_L_law_2277 G P 0 1 123 129 130 (Int32.ofNat i) cc ss X K := by
  obtain ⟨⟨v1, v2, v3⟩, ⟨b1, b2⟩, nx⟩ := ls
  obtain ⟨n, iv⟩ := iS.1
  have c1 : cc + 2 ≤ 601024 := by omega
  have c2 : ss + 12 ≤ 7293034 := by omega
  unfold w_L_law_2277
  obtain ⟨cd, v, σ', iS', hL, hM⟩ := op_reasonAgainst iS iv (G.2.2.2.1 (Int32.toNatClampNeg (Int32.ofNat i + (1 : Int32)))) (G.2.2.2.1 (Int32.toNatClampNeg (Int32.ofNat i + (2 : Int32))))
  exact ⟨v1, v2, c1, c2, hL X σ o _ w (fun X1 o1 w1 h1 => ⟨v1, v2, c1, c2, w1.1.t123, hM X1 σ' o1 _ w1 (fun X2 u w2 h2 => ⟨c1, c2, w2.1.t123, w2.1.t123, tl_I w2 h1 h2 (nx _ _ _ _ _ w2 iS' (by omega) (by omega))⟩)⟩)⟩
theorem law_2345 (ls : LwS G P i cc ss) (iS : InvS σ) (w : Wd X σ σ o) : w_L_law_2345 G P 0 1 123 129 130 (Int32.ofNat i) cc ss X K := by
  obtain ⟨⟨v1, v2, v3⟩, ⟨b1, b2⟩, nx⟩ := ls
  obtain ⟨n, iv⟩ := iS.1
  have c1 : cc + 2 ≤ 601024 := by omega
  have c2 : ss + 12 ≤ 7293034 := by omega
  unfold w_L_law_2345
  obtain ⟨cd, v, σ', iS', hL, hM⟩ := op_staminaOf iS iv (G.2.2.2.1 (Int32.toNatClampNeg (Int32.ofNat i + (1 : Int32)))) (G.2.2.2.1 (Int32.toNatClampNeg (Int32.ofNat i + (2 : Int32))))
  exact ⟨v1, v2, c1, c2, hL X σ o _ w (fun X1 o1 w1 h1 => ⟨v1, v2, c1, c2, w1.1.t123, hM X1 σ' o1 _ w1 (fun X2 u w2 h2 => ⟨c1, c2, w2.1.t123, w2.1.t123, tl_I w2 h1 h2 (nx _ _ _ _ _ w2 iS' (by omega) (by omega))⟩)⟩)⟩
theorem law_2413 (ls : LwS G P i cc ss) (iS : InvS σ) (w : Wd X σ σ o) : w_L_law_2413 G P 0 1 123 129 130 (Int32.ofNat i) cc ss X K := by
  obtain ⟨⟨v1, v2, v3⟩, ⟨b1, b2⟩, nx⟩ := ls
  obtain ⟨n, iv⟩ := iS.1
  have c1 : cc + 2 ≤ 601024 := by omega
  have c2 : ss + 12 ≤ 7293034 := by omega
  unfold w_L_law_2413
  obtain ⟨cd, v, σ', iS', hL, hM⟩ := op_strengthLeft iS iv (G.2.2.2.1 (Int32.toNatClampNeg (Int32.ofNat i + (1 : Int32)))) (G.2.2.2.1 (Int32.toNatClampNeg (Int32.ofNat i + (2 : Int32))))
  exact ⟨v1, v2, c1, c2, hL X σ o _ w (fun X1 o1 w1 h1 => ⟨v1, v2, c1, c2, w1.1.t123, hM X1 σ' o1 _ w1 (fun X2 u w2 h2 => ⟨c1, c2, w2.1.t123, w2.1.t123, tl_I w2 h1 h2 (nx _ _ _ _ _ w2 iS' (by omega) (by omega))⟩)⟩)⟩
theorem law_2481 (ls : LwS G P i cc ss) (iS : InvS σ) (w : Wd X σ σ o) : w_L_law_2481 G P 0 1 123 129 130 (Int32.ofNat i) cc ss X K := by
  obtain ⟨⟨v1, v2, v3⟩, ⟨b1, b2⟩, nx⟩ := ls
  obtain ⟨n, iv⟩ := iS.1
  have c1 : cc + 2 ≤ 601024 := by omega
  have c2 : ss + 12 ≤ 7293034 := by omega
  unfold w_L_law_2481
  obtain ⟨cd, v, σ', iS', hL, hM⟩ := op_framesOfVoice iS iv (G.2.2.2.1 (Int32.toNatClampNeg (Int32.ofNat i + (1 : Int32)))) (G.2.2.2.1 (Int32.toNatClampNeg (Int32.ofNat i + (2 : Int32))))
  exact ⟨v1, v2, c1, c2, hL X σ o _ w (fun X1 o1 w1 h1 => ⟨v1, v2, c1, c2, w1.1.t123, hM X1 σ' o1 _ w1 (fun X2 u w2 h2 => ⟨c1, c2, w2.1.t123, w2.1.t123, tl_I w2 h1 h2 (nx _ _ _ _ _ w2 iS' (by omega) (by omega))⟩)⟩)⟩
theorem law_2549 (ls : LwS G P i cc ss) (iS : InvS σ) (w : Wd X σ σ o) : w_L_law_2549 G P 0 1 123 129 130 (Int32.ofNat i) cc ss X K := by
  obtain ⟨⟨v1, v2, v3⟩, ⟨b1, b2⟩, nx⟩ := ls
  obtain ⟨n, iv⟩ := iS.1
  have c1 : cc + 3 ≤ 601024 := by omega
  have c2 : ss + 18 ≤ 7293034 := by omega
  unfold w_L_law_2549
  obtain ⟨cd, v, σ', iS', hL, hM⟩ := op_sessionsByGoing iS iv (G.2.2.2.1 (Int32.toNatClampNeg (Int32.ofNat i + (1 : Int32)))) (G.2.2.2.1 (Int32.toNatClampNeg (Int32.ofNat i + (2 : Int32))))
  exact ⟨v1, v2, c1, c2, hL X σ o _ w (fun X1 o1 w1 h1 => ⟨v1, v2, c1, c2, w1.1.t123, hM X1 σ' o1 _ w1 (fun X2 u w2 h2 => ⟨c1, c2, w2.1.t123, w2.1.t123, tl_I w2 h1 h2 (nx _ _ _ _ _ w2 iS' (by omega) (by omega))⟩)⟩)⟩
theorem law_2617 (ls : LwS G P i cc ss) (iS : InvS σ) (w : Wd X σ σ o) : w_L_law_2617 G P 0 1 123 129 130 (Int32.ofNat i) cc ss X K := by
  obtain ⟨⟨v1, v2, v3⟩, ⟨b1, b2⟩, nx⟩ := ls
  obtain ⟨n, iv⟩ := iS.1
  have c1 : cc + 3 ≤ 601024 := by omega
  have c2 : ss + 18 ≤ 7293034 := by omega
  unfold w_L_law_2617
  obtain ⟨cd, v, σ', iS', hL, hM⟩ := op_sessionsByTable iS iv (G.2.2.2.1 (Int32.toNatClampNeg (Int32.ofNat i + (1 : Int32)))) (G.2.2.2.1 (Int32.toNatClampNeg (Int32.ofNat i + (2 : Int32))))
  exact ⟨v1, v2, c1, c2, hL X σ o _ w (fun X1 o1 w1 h1 => ⟨v1, v2, c1, c2, w1.1.t123, hM X1 σ' o1 _ w1 (fun X2 u w2 h2 => ⟨c1, c2, w2.1.t123, w2.1.t123, tl_I w2 h1 h2 (nx _ _ _ _ _ w2 iS' (by omega) (by omega))⟩)⟩)⟩
theorem law_2685 (ls : LwS G P i cc ss) (iS : InvS σ) (w : Wd X σ σ o) : w_L_law_2685 G P 0 1 123 129 130 (Int32.ofNat i) cc ss X K := by
  obtain ⟨⟨v1, v2, v3⟩, ⟨b1, b2⟩, nx⟩ := ls
  obtain ⟨n, iv⟩ := iS.1
  have c1 : cc + 1 ≤ 601024 := by omega
  have c2 : ss + 6 ≤ 7293034 := by omega
  unfold w_L_law_2685
  obtain ⟨cd, v, σ', iS', hL, hM⟩ := op_clausesIn iS iv (G.2.2.2.1 (Int32.toNatClampNeg (Int32.ofNat i + (1 : Int32))))
  exact ⟨v1, c1, c2, hL X σ o _ w (fun X1 o1 w1 h1 => ⟨v1, c1, c2, w1.1.t123, hM X1 σ' o1 _ w1 (fun X2 u w2 h2 => ⟨c1, c2, w2.1.t123, w2.1.t123, tl_I w2 h1 h2 (nx _ _ _ _ _ w2 iS' (by omega) (by omega))⟩)⟩)⟩
theorem law_2741 (ls : LwS G P i cc ss) (iS : InvS σ) (w : Wd X σ σ o) : w_L_law_2741 G P 0 1 123 129 130 (Int32.ofNat i) cc ss X K := by
  obtain ⟨⟨v1, v2, v3⟩, ⟨b1, b2⟩, nx⟩ := ls
  obtain ⟨n, iv⟩ := iS.1
  have c1 : cc + 1 ≤ 601024 := by omega
  have c2 : ss + 6 ≤ 7293034 := by omega
  unfold w_L_law_2741
  obtain ⟨cd, v, σ', iS', hL, hM⟩ := op_lengthOf iS iv (G.2.2.2.1 (Int32.toNatClampNeg (Int32.ofNat i + (1 : Int32))))
  exact ⟨v1, c1, c2, hL X σ o _ w (fun X1 o1 w1 h1 => ⟨v1, c1, c2, w1.1.t123, hM X1 σ' o1 _ w1 (fun X2 u w2 h2 => ⟨c1, c2, w2.1.t123, w2.1.t123, tl_I w2 h1 h2 (nx _ _ _ _ _ w2 iS' (by omega) (by omega))⟩)⟩)⟩
theorem law_2797 (ls : LwS G P i cc ss) (iS : InvS σ) (w : Wd X σ σ o) : w_L_law_2797 G P 0 1 123 129 130 (Int32.ofNat i) cc ss X K := by
  obtain ⟨⟨v1, v2, v3⟩, ⟨b1, b2⟩, nx⟩ := ls
  obtain ⟨n, iv⟩ := iS.1
  have c1 : cc + 2 ≤ 601024 := by omega
  have c2 : ss + 12 ≤ 7293034 := by omega
  unfold w_L_law_2797
  obtain ⟨cd, v, σ', iS', hL, hM⟩ := op_speaksIn iS iv (G.2.2.2.1 (Int32.toNatClampNeg (Int32.ofNat i + (1 : Int32)))) (G.2.2.2.1 (Int32.toNatClampNeg (Int32.ofNat i + (2 : Int32))))
  exact ⟨v1, v2, c1, c2, hL X σ o _ w (fun X1 o1 w1 h1 => ⟨v1, v2, c1, c2, w1.1.t123, hM X1 σ' o1 _ w1 (fun X2 u w2 h2 => ⟨c1, c2, w2.1.t123, w2.1.t123, tl_B w2 h1 h2 (nx _ _ _ _ _ w2 iS' (by omega) (by omega))⟩)⟩)⟩
theorem law_2872 (ls : LwS G P i cc ss) (iS : InvS σ) (w : Wd X σ σ o) : w_L_law_2872 G P 0 1 123 129 130 (Int32.ofNat i) cc ss X K := by
  obtain ⟨⟨v1, v2, v3⟩, ⟨b1, b2⟩, nx⟩ := ls
  obtain ⟨n, iv⟩ := iS.1
  have c1 : cc + 2 ≤ 601024 := by omega
  have c2 : ss + 12 ≤ 7293034 := by omega
  unfold w_L_law_2872
  obtain ⟨cd, v, σ', iS', hL, hM⟩ := op_isComplete iS iv (G.2.2.2.1 (Int32.toNatClampNeg (Int32.ofNat i + (1 : Int32)))) (G.2.2.2.1 (Int32.toNatClampNeg (Int32.ofNat i + (2 : Int32))))
  exact ⟨v1, v2, c1, c2, hL X σ o _ w (fun X1 o1 w1 h1 => ⟨v1, v2, c1, c2, w1.1.t123, hM X1 σ' o1 _ w1 (fun X2 u w2 h2 => ⟨c1, c2, w2.1.t123, w2.1.t123, tl_B w2 h1 h2 (nx _ _ _ _ _ w2 iS' (by omega) (by omega))⟩)⟩)⟩
theorem law_2947 (ls : LwS G P i cc ss) (iS : InvS σ) (w : Wd X σ σ o) : w_L_law_2947 G P 0 1 123 129 130 (Int32.ofNat i) cc ss X K := by
  obtain ⟨⟨v1, v2, v3⟩, ⟨b1, b2⟩, nx⟩ := ls
  obtain ⟨n, iv⟩ := iS.1
  have c1 : cc + 2 ≤ 601024 := by omega
  have c2 : ss + 12 ≤ 7293034 := by omega
  unfold w_L_law_2947
  obtain ⟨cd, v, σ', iS', hL, hM⟩ := op_isMixed iS iv (G.2.2.2.1 (Int32.toNatClampNeg (Int32.ofNat i + (1 : Int32)))) (G.2.2.2.1 (Int32.toNatClampNeg (Int32.ofNat i + (2 : Int32))))
  exact ⟨v1, v2, c1, c2, hL X σ o _ w (fun X1 o1 w1 h1 => ⟨v1, v2, c1, c2, w1.1.t123, hM X1 σ' o1 _ w1 (fun X2 u w2 h2 => ⟨c1, c2, w2.1.t123, w2.1.t123, tl_B w2 h1 h2 (nx _ _ _ _ _ w2 iS' (by omega) (by omega))⟩)⟩)⟩
theorem law_3022 (ls : LwS G P i cc ss) (iS : InvS σ) (w : Wd X σ σ o) : w_L_law_3022 G P 0 1 123 129 130 (Int32.ofNat i) cc ss X K := by
  obtain ⟨⟨v1, v2, v3⟩, ⟨b1, b2⟩, nx⟩ := ls
  obtain ⟨n, iv⟩ := iS.1
  have c1 : cc + 3 ≤ 601024 := by omega
  have c2 : ss + 18 ≤ 7293034 := by omega
  unfold w_L_law_3022
  obtain ⟨cd, v, σ', iS', hL, hM⟩ := op_hasSigned iS iv (G.2.2.2.1 (Int32.toNatClampNeg (Int32.ofNat i + (1 : Int32)))) (G.2.2.2.1 (Int32.toNatClampNeg (Int32.ofNat i + (2 : Int32)))) (G.2.2.2.1 (Int32.toNatClampNeg (Int32.ofNat i + (3 : Int32))))
  exact ⟨v1, v2, v3, c1, c2, hL X σ o _ w (fun X1 o1 w1 h1 => ⟨v1, v2, v3, c1, c2, w1.1.t123, hM X1 σ' o1 _ w1 (fun X2 u w2 h2 => ⟨c1, c2, w2.1.t123, w2.1.t123, tl_B w2 h1 h2 (nx _ _ _ _ _ w2 iS' (by omega) (by omega))⟩)⟩)⟩
theorem law_3109 (ls : LwS G P i cc ss) (iS : InvS σ) (w : Wd X σ σ o) : w_L_law_3109 G P 0 1 123 129 130 (Int32.ofNat i) cc ss X K := by
  obtain ⟨⟨v1, v2, v3⟩, ⟨b1, b2⟩, nx⟩ := ls
  obtain ⟨n, iv⟩ := iS.1
  have c1 : cc + 2 ≤ 601024 := by omega
  have c2 : ss + 12 ≤ 7293034 := by omega
  unfold w_L_law_3109
  obtain ⟨cd, v, σ', iS', hL, hM⟩ := op_signaturesOn iS iv (G.2.2.2.1 (Int32.toNatClampNeg (Int32.ofNat i + (1 : Int32)))) (G.2.2.2.1 (Int32.toNatClampNeg (Int32.ofNat i + (2 : Int32))))
  exact ⟨v1, v2, c1, c2, hL X σ o _ w (fun X1 o1 w1 h1 => ⟨v1, v2, c1, c2, w1.1.t123, hM X1 σ' o1 _ w1 (fun X2 u w2 h2 => ⟨c1, c2, w2.1.t123, w2.1.t123, tl_I w2 h1 h2 (nx _ _ _ _ _ w2 iS' (by omega) (by omega))⟩)⟩)⟩
theorem law_3177 (ls : LwS G P i cc ss) (iS : InvS σ) (w : Wd X σ σ o) : w_L_law_3177 G P 0 1 123 129 130 (Int32.ofNat i) cc ss X K := by
  obtain ⟨⟨v1, v2, v3⟩, ⟨b1, b2⟩, nx⟩ := ls
  obtain ⟨n, iv⟩ := iS.1
  have c1 : cc + 2 ≤ 601024 := by omega
  have c2 : ss + 12 ≤ 7293034 := by omega
  unfold w_L_law_3177
  obtain ⟨cd, v, σ', iS', hL, hM⟩ := op_missingOn iS iv (G.2.2.2.1 (Int32.toNatClampNeg (Int32.ofNat i + (1 : Int32)))) (G.2.2.2.1 (Int32.toNatClampNeg (Int32.ofNat i + (2 : Int32))))
  exact ⟨v1, v2, c1, c2, hL X σ o _ w (fun X1 o1 w1 h1 => ⟨v1, v2, c1, c2, w1.1.t123, hM X1 σ' o1 _ w1 (fun X2 u w2 h2 => ⟨c1, c2, w2.1.t123, w2.1.t123, tl_I w2 h1 h2 (nx _ _ _ _ _ w2 iS' (by omega) (by omega))⟩)⟩)⟩
theorem law_3245 (ls : LwS G P i cc ss) (iS : InvS σ) (w : Wd X σ σ o) : w_L_law_3245 G P 0 1 123 129 130 (Int32.ofNat i) cc ss X K := by
  obtain ⟨⟨v1, v2, v3⟩, ⟨b1, b2⟩, nx⟩ := ls
  obtain ⟨n, iv⟩ := iS.1
  have c1 : cc + 1 ≤ 601024 := by omega
  have c2 : ss + 6 ≤ 7293034 := by omega
  unfold w_L_law_3245
  obtain ⟨cd, v, σ', iS', hL, hM⟩ := op_annexOf iS iv (G.2.2.2.1 (Int32.toNatClampNeg (Int32.ofNat i + (1 : Int32))))
  exact ⟨v1, c1, c2, hL X σ o _ w (fun X1 o1 w1 h1 => ⟨v1, c1, c2, w1.1.t123, hM X1 σ' o1 _ w1 (fun X2 u w2 h2 => ⟨c1, c2, w2.1.t123, w2.1.t123, tl_I w2 h1 h2 (nx _ _ _ _ _ w2 iS' (by omega) (by omega))⟩)⟩)⟩
theorem law_3301 (ls : LwS G P i cc ss) (iS : InvS σ) (w : Wd X σ σ o) : w_L_law_3301 G P 0 1 123 129 130 (Int32.ofNat i) cc ss X K := by
  obtain ⟨⟨v1, v2, v3⟩, ⟨b1, b2⟩, nx⟩ := ls
  obtain ⟨n, iv⟩ := iS.1
  have c1 : cc + 1 ≤ 601024 := by omega
  have c2 : ss + 6 ≤ 7293034 := by omega
  unfold w_L_law_3301
  obtain ⟨cd, v, σ', iS', hL, hM⟩ := op_recordedIn iS iv (G.2.2.2.1 (Int32.toNatClampNeg (Int32.ofNat i + (1 : Int32))))
  exact ⟨v1, c1, c2, hL X σ o _ w (fun X1 o1 w1 h1 => ⟨v1, c1, c2, w1.1.t123, hM X1 σ' o1 _ w1 (fun X2 u w2 h2 => ⟨c1, c2, w2.1.t123, w2.1.t123, tl_I w2 h1 h2 (nx _ _ _ _ _ w2 iS' (by omega) (by omega))⟩)⟩)⟩
theorem law_3357 (ls : LwS G P i cc ss) (iS : InvS σ) (w : Wd X σ σ o) : w_L_law_3357 G P 0 1 123 129 130 (Int32.ofNat i) cc ss X K := by
  obtain ⟨⟨v1, v2, v3⟩, ⟨b1, b2⟩, nx⟩ := ls
  obtain ⟨n, iv⟩ := iS.1
  have c1 : cc + 1 ≤ 601024 := by omega
  have c2 : ss + 6 ≤ 7293034 := by omega
  unfold w_L_law_3357
  obtain ⟨cd, v, σ', iS', hL, hM⟩ := op_readyByClauses iS iv (G.2.2.2.1 (Int32.toNatClampNeg (Int32.ofNat i + (1 : Int32))))
  exact ⟨v1, c1, c2, hL X σ o _ w (fun X1 o1 w1 h1 => ⟨v1, c1, c2, w1.1.t123, hM X1 σ' o1 _ w1 (fun X2 u w2 h2 => ⟨c1, c2, w2.1.t123, w2.1.t123, tl_I w2 h1 h2 (nx _ _ _ _ _ w2 iS' (by omega) (by omega))⟩)⟩)⟩
theorem law_3413 (ls : LwS G P i cc ss) (iS : InvS σ) (w : Wd X σ σ o) : w_L_law_3413 G P 0 1 123 129 130 (Int32.ofNat i) cc ss X K := by
  obtain ⟨⟨v1, v2, v3⟩, ⟨b1, b2⟩, nx⟩ := ls
  obtain ⟨n, iv⟩ := iS.1
  have c1 : cc + 1 ≤ 601024 := by omega
  have c2 : ss + 6 ≤ 7293034 := by omega
  unfold w_L_law_3413
  obtain ⟨cd, v, σ', iS', hL, hM⟩ := op_readyByVoices iS iv (G.2.2.2.1 (Int32.toNatClampNeg (Int32.ofNat i + (1 : Int32))))
  exact ⟨v1, c1, c2, hL X σ o _ w (fun X1 o1 w1 h1 => ⟨v1, c1, c2, w1.1.t123, hM X1 σ' o1 _ w1 (fun X2 u w2 h2 => ⟨c1, c2, w2.1.t123, w2.1.t123, tl_I w2 h1 h2 (nx _ _ _ _ _ w2 iS' (by omega) (by omega))⟩)⟩)⟩
theorem law_3469 (ls : LwS G P i cc ss) (iS : InvS σ) (w : Wd X σ σ o) : w_L_law_3469 G P 0 1 123 129 130 (Int32.ofNat i) cc ss X K := by
  obtain ⟨⟨v1, v2, v3⟩, ⟨b1, b2⟩, nx⟩ := ls
  obtain ⟨n, iv⟩ := iS.1
  have c1 : cc + 1 ≤ 601024 := by omega
  have c2 : ss + 6 ≤ 7293034 := by omega
  unfold w_L_law_3469
  obtain ⟨cd, v, σ', iS', hL, hM⟩ := op_isRatified iS iv (G.2.2.2.1 (Int32.toNatClampNeg (Int32.ofNat i + (1 : Int32))))
  exact ⟨v1, c1, c2, hL X σ o _ w (fun X1 o1 w1 h1 => ⟨v1, c1, c2, w1.1.t123, hM X1 σ' o1 _ w1 (fun X2 u w2 h2 => ⟨c1, c2, w2.1.t123, w2.1.t123, tl_B w2 h1 h2 (nx _ _ _ _ _ w2 iS' (by omega) (by omega))⟩)⟩)⟩
theorem law_3532 (ls : LwS G P i cc ss) (iS : InvS σ) (w : Wd X σ σ o) : w_L_law_3532 G P 0 1 123 129 130 (Int32.ofNat i) cc ss X K := by
  obtain ⟨⟨v1, v2, v3⟩, ⟨b1, b2⟩, nx⟩ := ls
  obtain ⟨n, iv⟩ := iS.1
  have c1 : cc + 1 ≤ 601024 := by omega
  have c2 : ss + 6 ≤ 7293034 := by omega
  unfold w_L_law_3532
  obtain ⟨cd, v, σ', iS', hL, hM⟩ := op_misfitsIn iS iv (G.2.2.2.1 (Int32.toNatClampNeg (Int32.ofNat i + (1 : Int32))))
  exact ⟨v1, c1, c2, hL X σ o _ w (fun X1 o1 w1 h1 => ⟨v1, c1, c2, w1.1.t123, hM X1 σ' o1 _ w1 (fun X2 u w2 h2 => ⟨c1, c2, w2.1.t123, w2.1.t123, tl_I w2 h1 h2 (nx _ _ _ _ _ w2 iS' (by omega) (by omega))⟩)⟩)⟩
theorem law_3588 (ls : LwS G P i cc ss) (iS : InvS σ) (w : Wd X σ σ o) : w_L_law_3588 G P 0 1 123 129 130 (Int32.ofNat i) cc ss X K := by
  obtain ⟨⟨v1, v2, v3⟩, ⟨b1, b2⟩, nx⟩ := ls
  obtain ⟨n, iv⟩ := iS.1
  have c1 : cc + 0 ≤ 601024 := by omega
  have c2 : ss + 0 ≤ 7293034 := by omega
  unfold w_L_law_3588
  obtain ⟨v, σ', iS', hL, hM⟩ := op_session iS
  exact ⟨c1, c2, w.1.t1, hL X σ o _ w (fun X1 w1 => ⟨c1, c2, w1.1.t123, hM X1 σ' o _ w1 (fun X2 o2 w2 => ⟨fun _ => (nx _ _ _ _ _ w2 iS' (by omega) (by omega)), fun hne => absurd rfl hne⟩)⟩)⟩
theorem law_3601 (ls : LwS G P i cc ss) (iS : InvS σ) (w : Wd X σ σ o) : w_L_law_3601 G P 0 1 123 129 130 (Int32.ofNat i) cc ss X K := by
  obtain ⟨⟨v1, v2, v3⟩, ⟨b1, b2⟩, nx⟩ := ls
  obtain ⟨n, iv⟩ := iS.1
  have c1 : cc + 0 ≤ 601024 := by omega
  have c2 : ss + 0 ≤ 7293034 := by omega
  unfold w_L_law_3601
  obtain ⟨v, σ', iS', hL, hM⟩ := op_recordings iS
  exact ⟨c1, c2, w.1.t1, hL X σ o _ w (fun X1 w1 => ⟨c1, c2, w1.1.t123, hM X1 σ' o _ w1 (fun X2 o2 w2 => ⟨fun _ => (nx _ _ _ _ _ w2 iS' (by omega) (by omega)), fun hne => absurd rfl hne⟩)⟩)⟩
theorem law_3614 (ls : LwS G P i cc ss) (iS : InvS σ) (w : Wd X σ σ o) : w_L_law_3614 G P 0 1 123 129 130 (Int32.ofNat i) cc ss X K := by
  obtain ⟨⟨v1, v2, v3⟩, ⟨b1, b2⟩, nx⟩ := ls
  obtain ⟨n, iv⟩ := iS.1
  have c1 : cc + 0 ≤ 601024 := by omega
  have c2 : ss + 0 ≤ 7293034 := by omega
  unfold w_L_law_3614
  obtain ⟨v, σ', iS', hL, hM⟩ := op_wiped iS
  exact ⟨c1, c2, w.1.t1, hL X σ o _ w (fun X1 w1 => ⟨c1, c2, w1.1.t123, hM X1 σ' o _ w1 (fun X2 o2 w2 => ⟨fun _ => (nx _ _ _ _ _ w2 iS' (by omega) (by omega)), fun hne => absurd rfl hne⟩)⟩)⟩
theorem law_3627 (ls : LwS G P i cc ss) (iS : InvS σ) (w : Wd X σ σ o) : w_L_law_3627 G P 0 1 123 129 130 (Int32.ofNat i) cc ss X K := by
  obtain ⟨⟨v1, v2, v3⟩, ⟨b1, b2⟩, nx⟩ := ls
  obtain ⟨n, iv⟩ := iS.1
  have c1 : cc + 0 ≤ 601024 := by omega
  have c2 : ss + 0 ≤ 7293034 := by omega
  unfold w_L_law_3627
  obtain ⟨v, σ', iS', hL, hM⟩ := op_mixes iS
  exact ⟨c1, c2, w.1.t1, hL X σ o _ w (fun X1 w1 => ⟨c1, c2, w1.1.t123, hM X1 σ' o _ w1 (fun X2 o2 w2 => ⟨fun _ => (nx _ _ _ _ _ w2 iS' (by omega) (by omega)), fun hne => absurd rfl hne⟩)⟩)⟩
theorem law_3640 (ls : LwS G P i cc ss) (iS : InvS σ) (w : Wd X σ σ o) : w_L_law_3640 G P 0 1 123 129 130 (Int32.ofNat i) cc ss X K := by
  obtain ⟨⟨v1, v2, v3⟩, ⟨b1, b2⟩, nx⟩ := ls
  obtain ⟨n, iv⟩ := iS.1
  have c1 : cc + 4 ≤ 601024 := by omega
  have c2 : ss + 24 ≤ 7293034 := by omega
  unfold w_L_law_3640
  obtain ⟨cd, v, σ', iS', hL, hM⟩ := op_leastAnnex iS iv (G.2.2.2.1 (Int32.toNatClampNeg (Int32.ofNat i + (1 : Int32)))) (G.2.2.2.1 (Int32.toNatClampNeg (Int32.ofNat i + (2 : Int32))))
  exact ⟨v1, v2, c1, c2, hL X σ o _ w (fun X1 o1 w1 h1 => ⟨v1, v2, c1, c2, w1.1.t123, hM X1 σ' o1 _ w1 (fun X2 u w2 h2 => ⟨c1, c2, w2.1.t123, w2.1.t123, tl_I w2 h1 h2 (nx _ _ _ _ _ w2 iS' (by omega) (by omega))⟩)⟩)⟩
theorem law_3708 (ls : LwS G P i cc ss) (iS : InvS σ) (w : Wd X σ σ o) : w_L_law_3708 G P 0 1 123 129 130 (Int32.ofNat i) cc ss X K := by
  obtain ⟨⟨v1, v2, v3⟩, ⟨b1, b2⟩, nx⟩ := ls
  obtain ⟨n, iv⟩ := iS.1
  have c1 : cc + 2 ≤ 601024 := by omega
  have c2 : ss + 12 ≤ 7293034 := by omega
  unfold w_L_law_3708
  obtain ⟨cd, v, σ', iS', hL, hM⟩ := op_longestSigh iS iv (G.2.2.2.1 (Int32.toNatClampNeg (Int32.ofNat i + (1 : Int32))))
  exact ⟨v1, c1, c2, hL X σ o _ w (fun X1 o1 w1 h1 => ⟨v1, c1, c2, w1.1.t123, hM X1 σ' o1 _ w1 (fun X2 u w2 h2 => ⟨c1, c2, w2.1.t123, w2.1.t123, tl_I w2 h1 h2 (nx _ _ _ _ _ w2 iS' (by omega) (by omega))⟩)⟩)⟩
theorem law_3764 (ls : LwS G P i cc ss) (iS : InvS σ) (w : Wd X σ σ o) : w_L_law_3764 G P 0 1 123 129 130 (Int32.ofNat i) cc ss X K := by
  obtain ⟨⟨v1, v2, v3⟩, ⟨b1, b2⟩, nx⟩ := ls
  obtain ⟨n, iv⟩ := iS.1
  have c1 : cc + 2 ≤ 601024 := by omega
  have c2 : ss + 12 ≤ 7293034 := by omega
  unfold w_L_law_3764
  obtain ⟨cd, v, σ', iS', hL, hM⟩ := op_nextClause iS iv (G.2.2.2.1 (Int32.toNatClampNeg (Int32.ofNat i + (1 : Int32))))
  exact ⟨v1, c1, c2, hL X σ o _ w (fun X1 o1 w1 h1 => ⟨v1, c1, c2, w1.1.t123, hM X1 σ' o1 _ w1 (fun X2 u w2 h2 => ⟨c1, c2, w2.1.t123, w2.1.t123, tl_I w2 h1 h2 (nx _ _ _ _ _ w2 iS' (by omega) (by omega))⟩)⟩)⟩
theorem law_3820 (ls : LwS G P i cc ss) (iS : InvS σ) (w : Wd X σ σ o) : w_L_law_3820 G P 0 1 123 129 130 (Int32.ofNat i) cc ss X K := by
  obtain ⟨⟨v1, v2, v3⟩, ⟨b1, b2⟩, nx⟩ := ls
  obtain ⟨n, iv⟩ := iS.1
  have c1 : cc + 0 ≤ 601024 := by omega
  have c2 : ss + 0 ≤ 7293034 := by omega
  unfold w_L_law_3820
  obtain ⟨v, σ', iS', hL, hM⟩ := op_bestTongue iS iv
  exact ⟨c1, c2, w.1.t1, hL X σ o _ w (fun X1 w1 => ⟨c1, c2, w1.1.t123, hM X1 σ' o _ w1 (fun X2 o2 w2 => ⟨fun _ => (nx _ _ _ _ _ w2 iS' (by omega) (by omega)), fun hne => absurd rfl hne⟩)⟩)⟩
theorem law_3833 (ls : LwS G P i cc ss) (iS : InvS σ) (w : Wd X σ σ o) : w_L_law_3833 G P 0 1 123 129 130 (Int32.ofNat i) cc ss X K := by
  obtain ⟨⟨v1, v2, v3⟩, ⟨b1, b2⟩, nx⟩ := ls
  obtain ⟨n, iv⟩ := iS.1
  have c1 : cc + 0 ≤ 601024 := by omega
  have c2 : ss + 0 ≤ 7293034 := by omega
  unfold w_L_law_3833
  obtain ⟨v, σ', iS', hL, hM⟩ := op_loudestState iS iv
  exact ⟨c1, c2, w.1.t1, hL X σ o _ w (fun X1 w1 => ⟨c1, c2, w1.1.t123, hM X1 σ' o _ w1 (fun X2 o2 w2 => ⟨fun _ => (nx _ _ _ _ _ w2 iS' (by omega) (by omega)), fun hne => absurd rfl hne⟩)⟩)⟩
theorem law_3846 (ls : LwS G P i cc ss) (iS : InvS σ) (w : Wd X σ σ o) : w_L_law_3846 G P 0 1 123 129 130 (Int32.ofNat i) cc ss X K := by
  obtain ⟨⟨v1, v2, v3⟩, ⟨b1, b2⟩, nx⟩ := ls
  obtain ⟨n, iv⟩ := iS.1
  have c1 : cc + 1 ≤ 601024 := by omega
  have c2 : ss + 6 ≤ 7293034 := by omega
  unfold w_L_law_3846
  obtain ⟨cd, v, σ', iS', hs, hL, hM⟩ := op_meanFit iS iv (G.2.2.2.1 (Int32.toNatClampNeg (Int32.ofNat i + (1 : Int32))))
  exact ⟨v1, c1, c2, hL X σ o _ w (fun X1 o1 w1 h1 => ⟨v1, c1, c2, w1.1.t123, hM X1 σ' o1 _ w1 (fun X2 u w2 h2 => ⟨c1, c2, w2.1.t123, w2.1.t123, tl_D w2 hs h1 h2 (nx _ _ _ _ _ w2 iS' (by omega) (by omega))⟩)⟩)⟩
theorem law_3923 (ls : LwS G P i cc ss) (iS : InvS σ) (w : Wd X σ σ o) : w_L_law_3923 G P 0 1 123 129 130 (Int32.ofNat i) cc ss X K := by
  obtain ⟨⟨v1, v2, v3⟩, ⟨b1, b2⟩, nx⟩ := ls
  obtain ⟨n, iv⟩ := iS.1
  have c1 : cc + 0 ≤ 601024 := by omega
  have c2 : ss + 0 ≤ 7293034 := by omega
  unfold w_L_law_3923
  have iS' := iS
  exact ⟨c1, c2, w.1.t1, c_dg w iv (fun X1 w1 => ⟨c1, c2, w1.1.t123, m_dg w1 iv (fun X2 w2 => ⟨fun _ => (nx _ _ _ _ _ w2 iS' (by omega) (by omega)), fun hne => absurd (lg_self _) hne⟩)⟩)⟩
theorem lcond {M i : Nat} (hM : M < 4096) (hi : i < 4096) : ((Int32.ofNat M - (4 : Int32)) < Int32.ofNat i) = (M < i + 4) := by
  have t4 : (4 : Int32).toInt = 4 := rfl
  rw [Int32.lt_iff_toInt_lt, sub_toInt (by rw [of_toInt (by omega), t4]; omega) (by rw [of_toInt (by omega), t4]; omega), of_toInt (by omega), of_toInt (by omega), t4]
  exact propext ⟨fun _ => by omega, fun _ => by omega⟩
theorem law_28 {M : Nat} (hG : G.2.2.1 = M) (hM : M ≤ 2048) (hK : ∀ X, K 1 X) (w0 : Wd X σ σ o) (iS0 : InvS σ) : w_L_law_28 G 0 1 123 129 130 (0 : Int32) 130 7236 X K := by
  intro P hP
  have vp : ∀ k, k < M → vp_in (Int32.ofNat k) G.2.2.1 := fun k hk => by
    rw [hG, vp_of hk (by omega)]
    trivial
  have main : ∀ f i (X : XH) (σ : St) (o : Ou) cc ss, M < i + 4 * f → i ≤ M + 4 → Wd X σ σ o → InvS σ → cc ≤ 130 + i → ss ≤ 7236 + 6 * i → P 0 1 123 129 130 (Int32.ofNat i) cc ss X := by
    intro f
    induction f with
    | zero =>
      intro i X σ o cc ss hf hi w iS hc hs
      refine hP _ _ _ _ _ _ _ _ _ ⟨fun _ => ⟨by omega, by omega, hK X⟩, fun hne => absurd ?_ hne⟩
      rw [hG, lcond (by omega) (by omega)]
      omega
    | succ f ih =>
      intro i X σ o cc ss hf hi w iS hc hs
      refine hP _ _ _ _ _ _ _ _ _ ⟨fun _ => ⟨by omega, by omega, hK X⟩, fun hne => ?_⟩
      rw [hG, lcond (by omega) (by omega)] at hne
      have e4 : Int32.ofNat i + (4 : Int32) = Int32.ofNat (i + 4) := (Int32.ofNat_add i 4).symm
      have nx : ∀ X1 σ1 o1 cc1 ss1, Wd X1 σ1 σ1 o1 → InvS σ1 → cc1 ≤ cc + 4 → ss1 ≤ ss + 24 → P 0 1 123 129 130 (Int32.ofNat i + (4 : Int32)) cc1 ss1 X1 := fun X1 σ1 o1 cc1 ss1 w1 iS1 h1 h2 => by
        rw [e4]
        exact ih (i + 4) X1 σ1 o1 cc1 ss1 (by omega) (by omega) w1 iS1 (by omega) (by omega)
      have ls : LwS G P i cc ss := ⟨⟨by rw [show Int32.ofNat i + (1 : Int32) = Int32.ofNat (i + 1) from (Int32.ofNat_add i 1).symm]; exact vp _ (by omega), by rw [show Int32.ofNat i + (2 : Int32) = Int32.ofNat (i + 2) from (Int32.ofNat_add i 2).symm]; exact vp _ (by omega), by rw [show Int32.ofNat i + (3 : Int32) = Int32.ofNat (i + 3) from (Int32.ofNat_add i 3).symm]; exact vp _ (by omega)⟩, ⟨by omega, by omega⟩, nx⟩
      exact ⟨vp _ (by omega), fun _ => nx _ _ _ _ _ w iS (by omega) (by omega), fun _ => law_320 ls iS w, fun _ => law_400 ls iS w, fun _ => law_468 ls iS w, fun _ => law_536 ls iS w, fun _ => law_604 ls iS w, fun _ => law_684 ls iS w, fun _ => law_764 ls iS w, fun _ => law_832 ls iS w, fun _ => law_912 ls iS w, fun _ => law_980 ls iS w, fun _ => law_1048 ls iS w, fun _ => law_1092 ls iS w, fun _ => law_1160 ls iS w, fun _ => law_1240 ls iS w, fun _ => law_1296 ls iS w, fun _ => law_1309 ls iS w, fun _ => law_1322 ls iS w, fun _ => law_1366 ls iS w, fun _ => law_1402 ls iS w, fun _ => law_1438 ls iS w, fun _ => law_1462 ls iS w, fun _ => law_1475 ls iS w, fun _ => law_1488 ls iS w, fun _ => law_1544 ls iS w, fun _ => law_1600 ls iS w, fun _ => law_1656 ls iS w, fun _ => law_1712 ls iS w, fun _ => law_1787 ls iS w, fun _ => law_1855 ls iS w, fun _ => law_1923 ls iS w, fun _ => law_1998 ls iS w, fun _ => law_2066 ls iS w, fun _ => law_2134 ls iS w, fun _ => law_2209 ls iS w, fun _ => law_2277 ls iS w, fun _ => law_2345 ls iS w, fun _ => law_2413 ls iS w, fun _ => law_2481 ls iS w, fun _ => law_2549 ls iS w, fun _ => law_2617 ls iS w, fun _ => law_2685 ls iS w, fun _ => law_2741 ls iS w, fun _ => law_2797 ls iS w, fun _ => law_2872 ls iS w, fun _ => law_2947 ls iS w, fun _ => law_3022 ls iS w, fun _ => law_3109 ls iS w, fun _ => law_3177 ls iS w, fun _ => law_3245 ls iS w, fun _ => law_3301 ls iS w, fun _ => law_3357 ls iS w, fun _ => law_3413 ls iS w, fun _ => law_3469 ls iS w, fun _ => law_3532 ls iS w, fun _ => law_3588 ls iS w, fun _ => law_3601 ls iS w, fun _ => law_3614 ls iS w, fun _ => law_3627 ls iS w, fun _ => law_3640 ls iS w, fun _ => law_3708 ls iS w, fun _ => law_3764 ls iS w, fun _ => law_3820 ls iS w, fun _ => law_3833 ls iS w, fun _ => law_3846 ls iS w, fun _ => law_3923 ls iS w⟩
  exact main 513 0 X σ o 130 7236 (by omega) (by omega) w0 iS0 (by omega) (by omega)
end PZ
