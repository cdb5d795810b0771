/-! THE ABSTRACT HEAP: objects by number (in the order of their making), contents as total functions; what ties it to the machine's heap -/
section XW
/-- size, kinds, lengths, ints, references, longs, doubles -/
abbrev XH : Type := Nat × (Nat → Nat) × (Nat → Nat) × (Nat → Nat → Int32) × (Nat → Nat → Nat) × (Nat → Nat → Int64) × (Nat → Nat → UInt64)
def hz (X : XH) : Nat := X.1
def hty (X : XH) : Nat → Nat := X.2.1
def hln (X : XH) : Nat → Nat := X.2.2.1
def hI (X : XH) : Nat → Nat → Int32 := X.2.2.2.1
def hR (X : XH) : Nat → Nat → Nat := X.2.2.2.2.1
def hL (X : XH) : Nat → Nat → Int64 := X.2.2.2.2.2.1
def hDd (X : XH) : Nat → Nat → UInt64 := X.2.2.2.2.2.2
def up1 {α : Type} (f : Nat → α) (a : Nat) (v : α) : Nat → α := fun a' => if a' = a then v else f a'
def up2 {α : Type} (f : Nat → Nat → α) (a k : Nat) (v : α) : Nat → Nat → α := fun a' k' => if a' = a then (if k' = k then v else f a' k') else f a' k'
def sI (X : XH) (a k : Nat) (v : Int32) : XH := (X.1, X.2.1, X.2.2.1, up2 X.2.2.2.1 a k v, X.2.2.2.2.1, X.2.2.2.2.2.1, X.2.2.2.2.2.2)
def sR (X : XH) (a k : Nat) (v : Nat) : XH := (X.1, X.2.1, X.2.2.1, X.2.2.2.1, up2 X.2.2.2.2.1 a k v, X.2.2.2.2.2.1, X.2.2.2.2.2.2)
def sL (X : XH) (a k : Nat) (v : Int64) : XH := (X.1, X.2.1, X.2.2.1, X.2.2.2.1, X.2.2.2.2.1, up2 X.2.2.2.2.2.1 a k v, X.2.2.2.2.2.2)
def sD (X : XH) (a k : Nat) (v : UInt64) : XH := (X.1, X.2.1, X.2.2.1, X.2.2.2.1, X.2.2.2.2.1, X.2.2.2.2.2.1, up2 X.2.2.2.2.2.2 a k v)
/-- the whole row of an int array -/
def sIr (X : XH) (a : Nat) (f : Nat → Int32) : XH := (X.1, X.2.1, X.2.2.1, up1 X.2.2.2.1 a f, X.2.2.2.2.1, X.2.2.2.2.2.1, X.2.2.2.2.2.2)
/-- a new thing of kind t and length n, all its contents 0 -/
def sN (X : XH) (t n : Nat) : XH := (X.1 + 1, up1 X.2.1 (X.1 + 1) t, up1 X.2.2.1 (X.1 + 1) n, up1 X.2.2.2.1 (X.1 + 1) (fun _ => 0), up1 X.2.2.2.2.1 (X.1 + 1) (fun _ => 0), up1 X.2.2.2.2.2.1 (X.1 + 1) (fun _ => 0), up1 X.2.2.2.2.2.2 (X.1 + 1) (fun _ => 0))
/-- the classes and their fields -/
def xT (c : Nat) : vw_C := match c with
  | 0 => (RX0, TX0, 8)
  | 1 => (RX1, TX1, 2)
  | 2 => (RX2, TX2, 5)
  | 3 => (RX3, TX3, 16)
  | _ => (RX4, TX4, 6)
def xF (c k : Nat) : FieldType := match c with
  | 0 => tyX0 k
  | 1 => tyX1 k
  | 2 => tyX2 k
  | 3 => tyX3 k
  | _ => tyX4 k
def xN (c : Nat) : Nat := (xT c).2.2
theorem xT_cl : ∀ c, c < 5 → vwCl[c]? = some (xT c)
  | 0, _ => rfl
  | 1, _ => rfl
  | 2, _ => rfl
  | 3, _ => rfl
  | 4, _ => rfl
  | n + 5, h => absurd h (by omega)
/-- what a value of the abstract machine is on the machine -/
def vm (ad : Nat → Nat) (v : Value) : Value := match v with
  | .ref a => .ref (ad a)
  | v => v
def vok (n : Nat) (v : Value) : Prop := match v with
  | .ref a => a ≤ n
  | _ => True
def rf (ad : Nat → Nat) (a : Nat) : Option Nat := if a = 0 then none else some (ad a)
def fv (X : XH) (ad : Nat → Nat) (a : Nat) (ty : FieldType) (k : Nat) : Value := match ty with
  | .object _ => va_rf (rf ad (hR X a k))
  | .array _ => va_rf (rf ad (hR X a k))
  | .long => .long (hL X a k)
  | .double => .double (hDd X a k)
  | _ => .int (hI X a k)
/-- kinds of arrays: 100 ints, 101 booleans, 102 longs, 103 doubles, from 104 on references to objects of class t - 104 -/
def aT (t : Nat) : FieldType := if t = 100 then .int else if t = 101 then .boolean else if t = 102 then .long else if t = 103 then .double else .object (xT (t - 104)).1
def av (X : XH) (ad : Nat → Nat) (a : Nat) (t : Nat) : (Nat → Int32) ⊕ (Nat → Int64) ⊕ (Nat → UInt32) ⊕ (Nat → UInt64) ⊕ (Nat → Option Nat) :=
  if t ≤ 101 then .inl (hI X a) else if t = 102 then .inr (.inl (hL X a)) else if t = 103 then .inr (.inr (.inr (.inl (hDd X a)))) else .inr (.inr (.inr (.inr fun k => rf ad (hR X a k))))
def fvs (X : XH) (ad : Nat → Nat) (a c : Nat) : List Value := (List.range (xN c)).map (fun k => fv X ad a (xF c k) k)
def ob (X : XH) (ad : Nat → Nat) (ca : Nat → ClassId) (a : Nat) : va_E :=
  if hty X a < 5 then .inr (hty X a, fvs X ad a (hty X a)) else .inl (ca a, hln X a, av X ad a (hty X a))
def wsO (X : XH) (ad : Nat → Nat) (ca : Nat → ClassId) : va_W := (List.range (hz X)).map fun i => (ad (i + 1), ob X ad ca (i + 1))
theorem wsO_get {X : XH} {ad : Nat → Nat} {ca : Nat → ClassId} {a : Nat} (h0 : a ≠ 0) (h : a ≤ hz X) : (wsO X ad ca)[a - 1]? = some (ad a, ob X ad ca a) := by
  unfold wsO
  rw [List.getElem?_map, List.getElem?_range (by omega)]
  have : a - 1 + 1 = a := by omega
  simp [this]
theorem wsO_set {X X' : XH} {ad : Nat → Nat} {ca : Nat → ClassId} {a : Nat} (h0 : a ≠ 0) (hsz : hz X' = hz X) (ho : ∀ i, i ≠ a → ob X' ad ca i = ob X ad ca i) : (wsO X ad ca).set (a - 1) (ad a, ob X' ad ca a) = wsO X' ad ca := by
  apply List.ext_getElem?
  intro i
  unfold wsO
  rw [hsz]
  by_cases hi : i = a - 1
  · subst hi
    by_cases hl : a - 1 < hz X
    · rw [List.getElem?_set_self (by simpa using hl), List.getElem?_map, List.getElem?_range hl]
      have : a - 1 + 1 = a := by omega
      simp [this]
    · rw [List.getElem?_eq_none (by simp; omega), List.getElem?_eq_none (by simp; omega)]
  · rw [List.getElem?_set_ne (Ne.symm hi), List.getElem?_map, List.getElem?_map]
    by_cases hl : i < hz X
    · rw [List.getElem?_range hl]
      simp only [Option.map_some]
      rw [ho (i + 1) (by omega)]
    · rw [List.getElem?_eq_none (by simp; omega)]
      rfl
theorem wsO_push {X X' : XH} {ad ad' : Nat → Nat} {ca ca' : Nat → ClassId} (hsz : hz X' = hz X + 1) (hca : ∀ i, i ≠ 0 → i ≤ hz X → ad' i = ad i ∧ ob X' ad' ca' i = ob X ad ca i) : wsO X ad ca ++ [(ad' (hz X + 1), ob X' ad' ca' (hz X + 1))] = wsO X' ad' ca' := by
  apply List.ext_getElem?
  intro i
  unfold wsO
  rw [hsz]
  by_cases hl : i < hz X
  · rw [List.getElem?_append_left (by simpa using hl), List.getElem?_map, List.getElem?_map, List.getElem?_range hl, List.getElem?_range (by omega)]
    obtain ⟨h1, h2⟩ := hca (i + 1) (by omega) (by omega)
    simp [h1, h2]
  · rw [List.getElem?_append_right (by simpa using (by omega : hz X ≤ i)), List.getElem?_map]
    by_cases hi : i = hz X
    · subst hi
      rw [List.getElem?_range (by omega)]
      simp
    · rw [List.getElem?_eq_none (by simp; omega), List.getElem?_eq_none (by simp; omega)]
      rfl
/-- launch, the script's cell, length and values, the base: cells from it on are the run's own -/
abbrev GG : Type := Launch × Nat × Nat × (Nat → Int32) × Nat
def gA (G : GG) : Nat → Prop := fun q => G.2.2.2.2 ≤ q
/-- the abstract heap X lies in the machine's heap H, its things at the addresses ad -/
def RepO (G : GG) (X : XH) (ad : Nat → Nat) (s : State) (H : Heap) : Prop :=
  ∃ (D : va_G) (ca : Nat → ClassId) (tys : List (ClassId × FieldType)), va_K D vwCl tys s ∧ va_P D vwCl (wsO X ad ca) H ∧ va_D (gA G) (wsO X ad ca) ∧
    (∀ a, a ≠ 0 → a ≤ hz X → 5 ≤ hty X a → ∃ t0 : Nat, tys[t0]? = some (ca a, aT (hty X a))) ∧ (∀ a k, hR X a k ≤ hz X) ∧ hty X 0 = 99 ∧ ad 0 = G.2.1
theorem RepO.moved {G : GG} {X : XH} {ad : Nat → Nat} {u U : State} {H : Heap} (hvm : u.vm.Alike U.vm) (h : RepO G X ad u H) : RepO G X ad U H := by
  obtain ⟨D, ca, tys, h1, h2⟩ := h
  exact ⟨D, ca, tys, h1.moved hvm, h2⟩
theorem ob_cls {X : XH} {ad : Nat → Nat} {ca : Nat → ClassId} {a c : Nat} (hc : c < 5) (h : hty X a = c) : ob X ad ca a = .inr (c, fvs X ad a c) := by
  unfold ob
  rw [h, if_pos hc]
theorem ob_arr {X : XH} {ad : Nat → Nat} {ca : Nat → ClassId} {a t : Nat} (hc : 5 ≤ t) (h : hty X a = t) : ob X ad ca a = .inl (ca a, hln X a, av X ad a t) := by
  unfold ob
  rw [h, if_neg (by omega)]
theorem fvs_get {X : XH} {ad : Nat → Nat} {a c k : Nat} (hk : k < xN c) : (fvs X ad a c)[k]? = some (fv X ad a (xF c k) k) := by
  unfold fvs
  rw [List.getElem?_map, List.getElem?_range hk]
  rfl
theorem fvs_len {X : XH} {ad : Nat → Nat} {a c : Nat} : (fvs X ad a c).length = xN c := by simp [fvs]
/-- another heap that differs at one place of one object alone -/
theorem fvs_set {X X' : XH} {ad : Nat → Nat} {a c k : Nat} {v : Value} (hv : fv X' ad a (xF c k) k = v) (ho : ∀ j, j ≠ k → fv X' ad a (xF c j) j = fv X ad a (xF c j) j) : (fvs X ad a c).set k v = fvs X' ad a c := by
  apply List.ext_getElem?
  intro i
  by_cases hi : i = k
  · subst hi
    by_cases hl : i < xN c
    · rw [List.getElem?_set_self (by rw [fvs_len]; exact hl), fvs_get hl, hv]
    · rw [List.getElem?_eq_none (by simp [fvs_len]; omega), List.getElem?_eq_none (by simp [fvs_len]; omega)]
  · rw [List.getElem?_set_ne (Ne.symm hi)]
    by_cases hl : i < xN c
    · rw [fvs_get hl, fvs_get hl, ho i hi]
    · rw [List.getElem?_eq_none (by simp [fvs_len]; omega), List.getElem?_eq_none (by simp [fvs_len]; omega)]
/-- the same things at the same places but one -/
theorem ob_same {X X' : XH} {ad : Nat → Nat} {ca : Nat → ClassId} {i : Nat} (h1 : hty X' i = hty X i) (h2 : hln X' i = hln X i) (h3 : ∀ k, hI X' i k = hI X i k) (h4 : ∀ k, hR X' i k = hR X i k) (h5 : ∀ k, hL X' i k = hL X i k) (h6 : ∀ k, hDd X' i k = hDd X i k) : ob X' ad ca i = ob X ad ca i := by
  have e : ∀ (ty : FieldType) (k : Nat), fv X' ad i ty k = fv X ad i ty k := by
    intro ty k
    unfold fv
    split <;> simp [h3, h4, h5, h6]
  unfold ob fvs av
  rw [h1, h2, funext h3, funext h5, funext h6]
  simp only [e, h4]
theorem up2_ne {α : Type} {f : Nat → Nat → α} {a k : Nat} {v : α} {i j : Nat} (h : i ≠ a) : up2 f a k v i j = f i j := by
  unfold up2
  rw [if_neg h]
theorem up2_row {α : Type} (f : Nat → Nat → α) (a k : Nat) (v : α) : up2 f a k v a = fun j => if j = k then v else f a j := by
  funext j
  unfold up2
  rw [if_pos rfl]
theorem up1_ne {α : Type} {f : Nat → α} {a : Nat} {v : α} {i : Nat} (h : i ≠ a) : up1 f a v i = f i := by
  unfold up1
  rw [if_neg h]
theorem up1_eq {α : Type} (f : Nat → α) (a : Nat) (v : α) : up1 f a v a = v := by
  unfold up1
  rw [if_pos rfl]
theorem vm_cat (ad : Nat → Nat) (v : Value) : (vm ad v).category = v.category := by
  cases v <;> rfl
theorem vm_int (ad : Nat → Nat) (x : Int32) : vm ad (.int x) = .int x := rfl
theorem vm_ref (ad : Nat → Nat) (x : Nat) : vm ad (.ref x) = .ref (ad x) := rfl
theorem rf_some {ad : Nat → Nat} {a : Nat} (h : a ≠ 0) : va_rf (rf ad a) = .ref (ad a) := by
  unfold rf
  rw [if_neg h]
  rfl
/-- values stand for the same where the addresses agree -/
theorem vm_eq {ad ad' : Nat → Nat} {n : Nat} {v : Value} (h : vok n v) (ha : ∀ i, i ≤ n → ad' i = ad i) : vm ad' v = vm ad v := by
  cases v with
  | ref a => show Value.ref (ad' a) = .ref (ad a); rw [ha a h]
  | _ => rfl
theorem vok_mono {n n' : Nat} {v : Value} (h : vok n v) (hn : n ≤ n') : vok n' v := by
  cases v with
  | ref a => exact Nat.le_trans h hn
  | _ => trivial
end XW
