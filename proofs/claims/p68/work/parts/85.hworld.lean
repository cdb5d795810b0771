/-! the heap while hangs runs: its own array behind, all else as before -/
section HO
def Gro (X X1 : XH) : Prop := hz X ≤ hz X1 ∧ ∀ a, (a = 0 ∨ 122 < a) → a ≤ hz X → hty X1 a = hty X a ∧ hln X1 a = hln X a ∧ hI X1 a = hI X a ∧ hR X1 a = hR X a ∧ hL X1 a = hL X a ∧ hDd X1 a = hDd X a
theorem Gro.rf {X : XH} : Gro X X := ⟨Nat.le_refl _, fun _ _ _ => ⟨rfl, rfl, rfl, rfl, rfl, rfl⟩⟩
theorem Gro.tr {X X1 X2 : XH} (h : Gro X X1) (k : Gro X1 X2) : Gro X X2 := ⟨Nat.le_trans h.1 k.1, fun a ha hl => by
  obtain ⟨a1, a2, a3, a4, a5, a6⟩ := h.2 a ha hl
  obtain ⟨b1, b2, b3, b4, b5, b6⟩ := k.2 a ha (Nat.le_trans hl h.1)
  exact ⟨b1.trans a1, b2.trans a2, b3.trans a3, b4.trans a4, b5.trans a5, b6.trans a6⟩⟩
theorem Rst.eqs {X Y : XH} (r : Rst X Y) : hz X = hz Y ∧ hty X = hty Y ∧ hln X = hln Y ∧ hL X = hL Y ∧ hDd X = hDd Y := by
  obtain ⟨h1, h2, -⟩ := r
  simp only [Prod.mk.injEq] at h1 h2
  exact ⟨h1.1, h1.2.1, h1.2.2, h2.1, h2.2⟩
theorem Rst.gro {X Y : XH} (r : Rst X Y) : Gro Y X := by
  obtain ⟨h1, h2, h3, h4, h5⟩ := r.eqs
  exact ⟨by omega, fun a ha _ => ⟨by rw [h2], by rw [h3], (r.2.2 a ha).1, (r.2.2 a ha).2, by rw [h4], by rw [h5]⟩⟩
theorem CS.cg {X X1 : XH} {c : St} (k : CS X c) (h : ∀ a, a ≠ 0 → a ≤ 122 → hI X1 a = hI X a ∧ hR X1 a = hR X a) : CS X1 c := by
  have tr : ∀ b g, b ≠ 0 → b + 11 ≤ 122 → TR X b g → TR X1 b g := fun b g h0 hb t j i hj => by
    have := (okT_j hj).1
    rw [(h (b + j) (by omega) (by omega)).1]
    exact t j i hj
  obtain ⟨k1, ⟨a1, a2, ρ, a3, a4, a5⟩, k3, k4, k5, k6⟩ := k
  refine ⟨tr 2 _ (by decide) (by decide) k1, ⟨?_, a2, ρ, fun k hk => ?_, a4, fun k hk => ?_⟩, fun k hk => ?_, ?_, k5, fun k hk => ?_⟩
  · rw [(h 14 (by decide) (by decide)).1]
    exact a1
  · rw [(h 15 (by decide) (by decide)).2]
    exact a3 k hk
  · have := (a3 k (by omega)).2
    exact tr _ _ (by omega) (by omega) (a5 k hk)
  · obtain ⟨b1, b2, b3⟩ := k3 k hk
    refine ⟨?_, b2, fun e => tr _ _ (by omega) (by omega) (b3 e)⟩
    rw [(h 113 (by decide) (by decide)).1]
    exact b1
  · rw [(h 114 (by decide) (by decide)).1]
    exact k4
  · rw [(h 115 (by decide) (by decide)).1]
    exact k6 k hk
theorem Shp.cg {X X1 : XH} (q : Shp X) (hzz : 122 ≤ hz X1) (h : ∀ a, a ≤ 122 → hty X1 a = hty X a ∧ hln X1 a = hln X a ∧ hR X1 a = hR X a) : Shp X1 := by
  refine ⟨hzz, fun a ha => (h a ha).1.trans (q.2.1 a ha), fun a ha => (h a ha).2.1.trans (q.2.2.1 a ha), fun a k hk => ?_⟩
  have ha : a ≤ 122 := by
    refine Decidable.byContradiction fun hx => ?_
    unfold rfO at hk
    rw [show rfL.getD a [] = [] by rw [List.getD_eq_getElem?_getD, List.getElem?_eq_none (by simp [rfL]; omega)]; rfl] at hk
    exact absurd hk (by simp)
  rw [(h a ha).2.2]
  exact q.2.2.2 a k hk
/-- the heap X0, an array of four ints f behind it, the class's state σ -/
def LW (X0 : XH) (σ : St) (X : XH) (f : Nat → Int32) : Prop := Shp X ∧ CS X σ ∧ Gro X0 X ∧ hty X (hz X0 + 1) = 100 ∧ hln X (hz X0 + 1) = 4 ∧ ∀ j, j < 4 → hI X (hz X0 + 1) j = f j
variable {X0 X Z : XH} {σ : St} {f : Nat → Int32}
theorem LW.wd (l : LW X0 σ X f) : Wd X σ X := ⟨l.1, l.2.1, Rst.rf⟩
theorem LW.mv (hX : 122 ≤ hz X0) (l : LW X0 σ Z f) (w : Wd X σ Z) : LW X0 σ X f := by
  obtain ⟨h1, h2, h3, h4, h5⟩ := w.2.2.eqs
  obtain ⟨l1, l2, l3, l4, l5, l6⟩ := l
  have e := (w.2.2.2.2 (hz X0 + 1) (by omega)).1
  exact ⟨w.1, w.2.1, l3.tr w.2.2.gro, by rw [h2]; exact l4, by rw [h3]; exact l5, fun j hj => by rw [e]; exact l6 j hj⟩
theorem LW.arr {j : Nat} {v : Int32} (hX : 122 ≤ hz X0) (l : LW X0 σ X f) : LW X0 σ (sI X (hz X0 + 1) j v) (fun i => if i = j then v else f i) := by
  obtain ⟨l1, l2, l3, l4, l5, l6⟩ := l
  refine ⟨l1, l2.cg (fun a h0 ha => ⟨sI_ne (by omega), rfl⟩), ⟨l3.1, fun a ha hl => ?_⟩, l4, l5, fun i hi => ?_⟩
  · obtain ⟨a1, a2, a3, a4, a5, a6⟩ := l3.2 a ha hl
    exact ⟨a1, a2, (sI_ne (by omega)).trans a3, a4, a5, a6⟩
  · by_cases h : i = j
    · subst h
      exact sI_at.trans (if_pos rfl).symm
    · rw [sI_nk h]
      exact (l6 i hi).trans (if_neg h).symm
theorem LW.new (w : Wd X σ Z) : LW X σ (sN X 100 4) (fun _ => 0) := by
  have hX := w.1.1
  have e1 : ∀ {α : Type} (g : Nat → α) (v : α) (a : Nat), a ≠ hz X + 1 → up1 g (hz X + 1) v a = g a := fun g v a h => if_neg h
  have e2 : ∀ {α : Type} (g : Nat → α) (v : α), up1 g (hz X + 1) v (hz X + 1) = v := fun g v => if_pos rfl
  refine ⟨w.1.cg (show 122 ≤ hz X + 1 by omega) (fun a ha => ⟨e1 _ _ a (by omega), e1 _ _ a (by omega), e1 _ _ a (by omega)⟩), w.2.1.cg (fun a h0 ha => ⟨e1 _ _ a (by omega), e1 _ _ a (by omega)⟩), ⟨Nat.le_succ _, fun a ha hl => ⟨e1 _ _ a (by omega), e1 _ _ a (by omega), e1 _ _ a (by omega), e1 _ _ a (by omega), e1 _ _ a (by omega), e1 _ _ a (by omega)⟩⟩, e2 _ _, e2 _ _, fun j hj => congrFun (e2 _ _) j⟩
theorem LW.cgf {f' : Nat → Int32} (l : LW X0 σ X f) (h : ∀ j, j < 4 → f j = f' j) : LW X0 σ X f' := by
  obtain ⟨l1, l2, l3, l4, l5, l6⟩ := l
  exact ⟨l1, l2, l3, l4, l5, fun j hj => (l6 j hj).trans (h j hj)⟩
end HO
