/-! what the printed walks of the methods stand on -/
section XQ
theorem aw_pick {G : GG} {M : MM} {pc : Nat} {lv lv' : List (Nat × Value)} {st : List Value} {X : XH} {cc ss : Nat} {K : RK} (ks : List Nat) (h : lv_pick lv ks = lv') (k : AW G M pc lv' st X cc ss K) : AW G M pc lv st X cc ss K := by
  refine aw_sub (fun q hq => ?_) k
  rw [← h] at hq
  obtain ⟨j, -, hj⟩ := List.mem_filterMap.mp hq
  exact List.mem_of_getElem? hj
theorem aw_widen {G : GG} {M : MM} {pc : Nat} {lv : List (Nat × Value)} {st : List Value} {X : XH} {cc ss cc' ss' : Nat} {K : RK} (h1 : cc ≤ cc') (h2 : ss ≤ ss') (k : AW G M pc lv st X cc' ss' K) : AW G M pc lv st X cc ss K :=
  fun p e s m args below meth c H locs ls ad ad0 n0 C F => W.widen h1 h2 (k p e s m args below meth c H locs ls ad ad0 n0 C F)
def KrI (K : Int32 → XH → Prop) : RK := fun r X => ∃ v, r = .inl (some (.int v)) ∧ K v X
def KrL (K : Int64 → XH → Prop) : RK := fun r X => ∃ v, r = .inl (some (.long v)) ∧ K v X
def KrD (K : UInt64 → XH → Prop) : RK := fun r X => ∃ v, r = .inl (some (.double v)) ∧ K v X
def KrR (K : Nat → XH → Prop) : RK := fun r X => ∃ v, r = .inl (some (.ref v)) ∧ K v X
def KrV (K : XH → Prop) : RK := fun r X => r = .inl none ∧ K X
/-- .. or thrown -/
def KxT (Kr : RK) (KX : String → XH → Prop) : RK := fun r X => Kr r X ∨ ∃ E, r = .inr E ∧ KX E X
theorem KrI.no {K : Int32 → XH → Prop} : ∀ E X, ¬ KrI K (.inr E) X := fun _ _ h => by obtain ⟨v, h, -⟩ := h; cases h
theorem KrL.no {K : Int64 → XH → Prop} : ∀ E X, ¬ KrL K (.inr E) X := fun _ _ h => by obtain ⟨v, h, -⟩ := h; cases h
theorem KrD.no {K : UInt64 → XH → Prop} : ∀ E X, ¬ KrD K (.inr E) X := fun _ _ h => by obtain ⟨v, h, -⟩ := h; cases h
theorem KrR.no {K : Nat → XH → Prop} : ∀ E X, ¬ KrR K (.inr E) X := fun _ _ h => by obtain ⟨v, h, -⟩ := h; cases h
theorem KrV.no {K : XH → Prop} : ∀ E X, ¬ KrV K (.inr E) X := fun _ _ h => by cases h.1
section KK
variable {G : GG} {M : MM} {pc : Nat} {lv : List (Nat × Value)} {rest : List Value} {cc ss : Nat} {K0 Kr : RK} {KX : String → XH → Prop}
theorem kkI {K : Int32 → XH → Prop} (k : ∀ v X', K v X' → AW G M pc lv (.int v :: rest) X' cc ss K0) : ∀ r X', KrI K (.inl r) X' → AW G M pc lv (r.toList ++ rest) X' cc ss K0 := by
  rintro r X' ⟨v, h, hk⟩
  cases h
  exact k v X' hk
theorem kkL {K : Int64 → XH → Prop} (k : ∀ v X', K v X' → AW G M pc lv (.long v :: rest) X' cc ss K0) : ∀ r X', KrL K (.inl r) X' → AW G M pc lv (r.toList ++ rest) X' cc ss K0 := by
  rintro r X' ⟨v, h, hk⟩
  cases h
  exact k v X' hk
theorem kkD {K : UInt64 → XH → Prop} (k : ∀ v X', K v X' → AW G M pc lv (.double v :: rest) X' cc ss K0) : ∀ r X', KrD K (.inl r) X' → AW G M pc lv (r.toList ++ rest) X' cc ss K0 := by
  rintro r X' ⟨v, h, hk⟩
  cases h
  exact k v X' hk
theorem kkR {K : Nat → XH → Prop} (k : ∀ v X', K v X' → AW G M pc lv (.ref v :: rest) X' cc ss K0) : ∀ r X', KrR K (.inl r) X' → AW G M pc lv (r.toList ++ rest) X' cc ss K0 := by
  rintro r X' ⟨v, h, hk⟩
  cases h
  exact k v X' hk
theorem kkV {K : XH → Prop} (k : ∀ X', K X' → AW G M pc lv rest X' cc ss K0) : ∀ r X', KrV K (.inl r) X' → AW G M pc lv (r.toList ++ rest) X' cc ss K0 := by
  rintro r X' ⟨h, hk⟩
  cases h
  exact k X' hk
theorem kkT (k : ∀ r X', Kr (.inl r) X' → AW G M pc lv (r.toList ++ rest) X' cc ss K0) : ∀ r X', KxT Kr KX (.inl r) X' → AW G M pc lv (r.toList ++ rest) X' cc ss K0 := by
  rintro r X' (h | ⟨E, h, -⟩)
  · exact k r X' h
  · cases h
theorem kxN (hno : ∀ E X, ¬ Kr (.inr E) X) : ∀ E X', Kr (.inr E) X' → AT G M pc lv X' cc ss K0 E := fun E X' h => absurd h (hno E X')
theorem kxT (hno : ∀ E X, ¬ Kr (.inr E) X) (k : ∀ E X', KX E X' → AT G M pc lv X' cc ss K0 E) : ∀ E X', KxT Kr KX (.inr E) X' → AT G M pc lv X' cc ss K0 E := by
  rintro E X' (h | ⟨E', h, hk⟩)
  · exact absurd h (hno E X')
  · cases h
    exact k E X' hk
end KK
theorem narZ {v : Int32} (h : v = 0 ∨ v = 1) : narrow .boolean (.int v) = .int v := by rcases h with rfl | rfl <;> rfl
theorem fitZ {v : Int32} (h : v = 0 ∨ v = 1) : fits .boolean (.int v) = true := by rcases h with rfl | rfl <;> rfl
theorem pk {q : MethodName × Nat} (h : q ∈ lw_privs) : Cond.selects q.1.cls q.1 q.1 ∈ lwG := lwG_of (List.mem_append_left _ (List.mem_map.mpr ⟨q, h, rfl⟩)) rfl
end XQ
section XQ2
theorem ltb {a b : Nat} (h : Nat.ble (a + 1) b = true) : a < b := Nat.le_of_ble_eq_true h
theorem leb {a b : Nat} (h : Nat.ble a b = true) : a ≤ b := Nat.le_of_ble_eq_true h
theorem aw_ldcw {G : GG} {M : MM} {pc : Nat} {lv : List (Nat × Value)} {st : List Value} {X : XH} {cc ss : Nat} {K : RK} (pc' : Nat) {i : Nat} {v : Int32} (hd : decode (mC M) pc = .ok (.ldc_w i, 3)) (hw : Jvm.Cond.constant (mY M).cls i v ∈ lwG) (hp : pc + 3 = pc') (k : AW G M pc' lv (.int v :: st) X cc ss K) : AW G M pc lv st X cc ss K := by
  subst hp
  exact aw_pure (fun ad C hl k => lv_ldcw C.1 C.2.1 C.2.2.2.2.1 (C.2.2.2.2.2.1 _ hw) hd k) (fun n h1 h2 => vok_c vok_int h2) k
end XQ2
section XQ3
theorem aw_atc {G : GG} {M : MM} {pc : Nat} {lv lv' : List (Nat × Value)} {X : XH} {cc ss : Nat} {K : RK} {E : String} (pre : List (Nat × Nat × Nat × Nat)) (x : Nat × Nat × Nat × Nat) (suf : List (Nat × Nat × Nat × Nat)) (hh : mH M = pre ++ x :: suf)
    (hpass : ∀ z ∈ pre, z.2.2.2 ≠ 0 ∧ ∃ nm : String, Cond.classLink (mY M).cls z.2.2.2 nm ∈ lwG ∧ (E, nm) ∈ ncT) (hx : covers ⟨x.1, x.2.1, x.2.2.1, x.2.2.2⟩ pc = true) (h0 : x.2.2.2 ≠ 0) (hl : Cond.classLink (mY M).cls x.2.2.2 E ∈ lwG) (hE : E ∈ [xcI, xcA, xcS])
    (i ln pc' : Nat) (hd : (∃ j : Fin 4, (j : Nat) = i ∧ decode (mC M) x.2.2.1 = .ok (.astore_n j, 1) ∧ x.2.2.1 + 1 = pc') ∨ (decode (mC M) x.2.2.1 = .ok (.astore i, 2) ∧ x.2.2.1 + 2 = pc')) (hn : i < mN M) (hlv : lv.filter (fun q => !(q.1 == i) && !(q.1 + 1 == i && q.2.category == 2)) = lv')
    (k : AW G M pc' lv' [] X cc ss K) : AT G M pc lv X cc ss K E := at_catch pre x suf hh hpass hx h0 hl hE i ln pc' hd hn (fun q hq => by rw [← hlv] at hq; exact ⟨(List.mem_filter.mp hq).1, (List.mem_filter.mp hq).2⟩) k
theorem AT.widen {G : GG} {M : MM} {pc : Nat} {lv : List (Nat × Value)} {X : XH} {cc ss cc' ss' : Nat} {K : RK} {E : String} (h1 : cc ≤ cc') (h2 : ss ≤ ss') (k : AT G M pc lv X cc' ss' K E) : AT G M pc lv X cc ss K E :=
  fun p e s m args below meth c H locs ls ad ad0 n0 C F ce q9 rest g1 g2 g3 => vx_widen h1 h2 (k p e s m args below meth c H locs ls ad ad0 n0 C F ce q9 rest g1 g2 g3)
end XQ3
