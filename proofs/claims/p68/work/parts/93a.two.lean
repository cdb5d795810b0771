/-! two objects side by side: o is things 1..122, q is things 123..244 -/
section W2S
def W2 (X : XH) (σ τ : St) : Prop := (Shp X ∧ CS X σ) ∧ (Shp (swX X) ∧ CS (swX X) τ) ∧ 244 ≤ hz X
variable {X X1 Z : XH} {σ σ' τ τ' : St} {n : Nat}
theorem W2.sym (w : W2 X σ τ) : W2 (swX X) τ σ := by
  refine ⟨w.2.1, ?_, w.2.2⟩
  rw [swX_swX]
  exact w.1
theorem W2.wd (w : W2 X σ τ) : Wd X σ X := ⟨w.1.1, w.1.2, Rst.rf⟩
theorem sw_k {X X1 : XH} (hz1 : 122 ≤ hz X1) (h : ∀ a, (a = 0 ∨ (122 < a ∧ a ≤ 244)) → hty X1 a = hty X a ∧ hln X1 a = hln X a ∧ hI X1 a = hI X a ∧ hR X1 a = hR X a) (w : Shp (swX X) ∧ CS (swX X) τ) : Shp (swX X1) ∧ CS (swX X1) τ := by
  have hs : ∀ a, a ≤ 122 → sw a = 0 ∨ (122 < sw a ∧ sw a ≤ 244) := fun a ha => by
    by_cases h0 : a = 0
    · subst h0
      exact Or.inl rfl
    · right
      rw [sw_lo h0 ha]
      omega
  have hR' : ∀ a, a ≤ 122 → hR (swX X1) a = hR (swX X) a := fun a ha => by
    funext k
    rw [swX_R, swX_R, (h _ (hs a ha)).2.2.2]
  refine ⟨w.1.cg hz1 (fun a ha => ?_), w.2.cg (fun a h0 ha => ?_)⟩
  · exact ⟨(h _ (hs a ha)).1, (h _ (hs a ha)).2.1, hR' a ha⟩
  · exact ⟨(h _ (hs a ha)).2.2.1, hR' a ha⟩
theorem W2.gro (w : W2 X σ τ) (h1 : Shp X1) (h2 : CS X1 σ') (g : Gro X X1) : W2 X1 σ' τ := by
  obtain ⟨g1, g2⟩ := g
  have h9 := w.2.2
  refine ⟨⟨h1, h2⟩, sw_k (by omega) (fun a ha => ?_) w.2.1, by omega⟩
  obtain ⟨a1, a2, a3, a4, -, -⟩ := g2 a (by omega) (by omega)
  exact ⟨a1, a2, a3, a4⟩
theorem W2.op (w : W2 X σ τ) (w1 : Wd X1 σ' X) : W2 X1 σ' τ := w.gro w1.1 w1.2.1 w1.2.2.gro
variable {G : GG} {M : MM} {args args' : List Value} {v : Int32} {K : Int32 → XH → Prop} {f : XH → (Int32 → XH → Prop) → Prop}
/-- a call of the first -/
theorem oI (am : ∀ X K, f X K → AM G M X args (KrI K)) (op : Op f σ v σ') (w : W2 X σ τ) (k : ∀ X1, W2 X1 σ' τ → K v X1) : AM G M X args (KrI K) := am X K (op X X K w.wd (fun X1 w1 => k X1 (w.op w1)))
/-- a call of the second -/
theorem qI (am : ∀ X K, f X K → AM G M X args' (KrI K)) (op : Op f τ v τ') (w : W2 X σ τ) (e : args.map swV = args') (k : ∀ X1, W2 X1 σ τ' → K v X1) : AM G M X args (KrI K) := by
  have h := am (swX X) (fun v' X' => v' = v ∧ W2 X' τ' σ) (op (swX X) (swX X) _ w.sym.wd (fun X1 w1 => ⟨rfl, w.sym.op w1⟩))
  rw [← e] at h
  refine AM.swp w.2.2 h (fun r X' hr => ?_)
  obtain ⟨v', rfl, rfl, w'⟩ := hr
  exact ⟨v', rfl, k _ w'.sym⟩
theorem oHangs {B : Nat} (hG : G.1.stackTraces = false) (iS : InvS B σ) (hB : B < 4096) (w : W2 X σ τ) (k : ∀ X1, W2 X1 σ τ → K 1 X1) : AM G M_L_hangs X [.ref 1] (KrI K) :=
  am_L_hangs hG (ok_hangs iS hB w.wd (fun X1 h1 h2 g => k X1 (w.gro h1 h2 g)))
theorem qHangs {B : Nat} (hG : G.1.stackTraces = false) (iS : InvS B τ) (hB : B < 4096) (w : W2 X σ τ) (k : ∀ X1, W2 X1 σ τ → K 1 X1) : AM G M_L_hangs X [.ref 123] (KrI K) := by
  have h : AM G M_L_hangs (swX X) ([Value.ref 123].map swV) (KrI fun v' X' => v' = 1 ∧ W2 X' τ σ) := oHangs hG iS hB w.sym (fun X1 w1 => ⟨rfl, w1⟩)
  refine AM.swp w.2.2 h (fun r X' hr => ?_)
  obtain ⟨v', rfl, rfl, w'⟩ := hr
  exact ⟨1, rfl, k _ w'.sym⟩
theorem oDig {K : Int64 → XH → Prop} (hG : G.1.stackTraces = false) (i : Inv (zG σ) n) (w : W2 X σ τ) (k : ∀ X1, W2 X1 σ τ → K (dgst σ n) X1) : AM G M_X4_digest X [.ref 1] (KrL K) :=
  am_X4_digest hG (c_dg w.wd i (fun X1 w1 => k X1 (w.op w1)))
theorem qDig {K : Int64 → XH → Prop} (hG : G.1.stackTraces = false) (i : Inv (zG τ) n) (w : W2 X σ τ) (k : ∀ X1, W2 X1 σ τ → K (dgst τ n) X1) : AM G M_X4_digest X [.ref 123] (KrL K) := by
  have h : AM G M_X4_digest (swX X) ([Value.ref 123].map swV) (KrL fun v' X' => v' = dgst τ n ∧ W2 X' τ σ) := oDig hG i w.sym (fun X1 w1 => ⟨rfl, w1⟩)
  refine AM.swp w.2.2 h (fun r X' hr => ?_)
  obtain ⟨v', rfl, rfl, w'⟩ := hr
  exact ⟨_, rfl, k _ w'.sym⟩
theorem W2.t1 (w : W2 X σ τ) : hty X 1 = 4 := w.1.1.t1
theorem W2.t123 (w : W2 X σ τ) : hty X 123 = 4 := w.sym.1.1.t1
end W2S
