/-! things 1..122 and 123..244 change their numbers: a contract is blind to that -/
section XSW
def sw (i : Nat) : Nat := if i = 0 then 0 else if i ≤ 122 then i + 122 else if i ≤ 244 then i - 122 else i
theorem sw_z : sw 0 = 0 := rfl
theorem sw_lo {i : Nat} (h0 : i ≠ 0) (h : i ≤ 122) : sw i = i + 122 := by
  unfold sw
  rw [if_neg h0, if_pos h]
theorem sw_mid {i : Nat} (h0 : 122 < i) (h : i ≤ 244) : sw i = i - 122 := by
  unfold sw
  rw [if_neg (by omega), if_neg (by omega), if_pos h]
theorem sw_hi {i : Nat} (h : 244 < i) : sw i = i := by
  unfold sw
  rw [if_neg (by omega), if_neg (by omega), if_neg (by omega)]
theorem sw_cs (i : Nat) : (i = 0 ∧ sw i = 0) ∨ (i ≠ 0 ∧ i ≤ 122 ∧ sw i = i + 122) ∨ (122 < i ∧ i ≤ 244 ∧ sw i = i - 122) ∨ (244 < i ∧ sw i = i) := by
  by_cases h0 : i = 0
  · subst h0
    exact Or.inl ⟨rfl, rfl⟩
  · by_cases h1 : i ≤ 122
    · exact Or.inr (Or.inl ⟨h0, h1, sw_lo h0 h1⟩)
    · by_cases h2 : i ≤ 244
      · exact Or.inr (Or.inr (Or.inl ⟨by omega, h2, sw_mid (by omega) h2⟩))
      · exact Or.inr (Or.inr (Or.inr ⟨by omega, sw_hi (by omega)⟩))
theorem sw_sw (i : Nat) : sw (sw i) = i := by
  rcases sw_cs i with ⟨h1, h2⟩ | ⟨h1, h2, h3⟩ | ⟨h1, h2, h3⟩ | ⟨h1, h2⟩
  · rw [h2, h1]
    rfl
  · rw [h3, sw_mid (by omega) (by omega)]
    omega
  · rw [h3, sw_lo (by omega) (by omega)]
    omega
  · rw [h2, h2]
theorem sw_le {n i : Nat} (hn : 244 ≤ n) (h : i ≤ n) : sw i ≤ n := by
  rcases sw_cs i with ⟨h1, h2⟩ | ⟨h1, h2, h3⟩ | ⟨h1, h2, h3⟩ | ⟨h1, h2⟩ <;> omega
theorem sw_n0 {i : Nat} (h : i ≠ 0) : sw i ≠ 0 := by
  rcases sw_cs i with ⟨h1, h2⟩ | ⟨h1, h2, h3⟩ | ⟨h1, h2, h3⟩ | ⟨h1, h2⟩ <;> omega
theorem sw_inj {i j : Nat} (h : sw i = sw j) : i = j := by
  rw [← sw_sw i, h, sw_sw]
def swX (X : XH) : XH := (hz X, (fun a => hty X (sw a)), (fun a => hln X (sw a)), (fun a => hI X (sw a)), (fun a k => sw (hR X (sw a) k)), (fun a => hL X (sw a)), (fun a => hDd X (sw a)))
theorem swX_swX (X : XH) : swX (swX X) = X := by
  show (hz X, (fun a => hty X (sw (sw a))), (fun a => hln X (sw (sw a))), (fun a => hI X (sw (sw a))), (fun a k => sw (sw (hR X (sw (sw a)) k))), (fun a => hL X (sw (sw a))), (fun a => hDd X (sw (sw a)))) = X
  simp only [sw_sw]
  rfl
theorem swX_z {X : XH} : hz (swX X) = hz X := rfl
theorem swX_ty {X : XH} {a : Nat} : hty (swX X) a = hty X (sw a) := rfl
theorem swX_ln {X : XH} {a : Nat} : hln (swX X) a = hln X (sw a) := rfl
theorem swX_I {X : XH} {a k : Nat} : hI (swX X) a k = hI X (sw a) k := rfl
theorem swX_R {X : XH} {a k : Nat} : hR (swX X) a k = sw (hR X (sw a) k) := rfl
theorem swX_L {X : XH} {a k : Nat} : hL (swX X) a k = hL X (sw a) k := rfl
theorem swX_D {X : XH} {a k : Nat} : hDd (swX X) a k = hDd X (sw a) k := rfl
def swV (v : Value) : Value := match v with
  | .ref a => .ref (sw a)
  | v => v
theorem swV_swV (v : Value) : swV (swV v) = v := by
  cases v with
  | ref a => show Value.ref (sw (sw a)) = _; rw [sw_sw]
  | _ => rfl
theorem vm_sw (ad : Nat → Nat) (v : Value) : vm (fun a => ad (sw a)) (swV v) = vm ad v := by
  cases v with
  | ref a => show Value.ref (ad (sw (sw a))) = _; rw [sw_sw]; rfl
  | _ => rfl
theorem vok_sw {n : Nat} {v : Value} (hn : 244 ≤ n) (h : vok n v) : vok n (swV v) := by
  cases v with
  | ref a => exact sw_le hn h
  | _ => trivial
theorem rf_sw (ad : Nat → Nat) (b : Nat) : rf (fun a => ad (sw a)) (sw b) = rf ad b := by
  unfold rf
  by_cases h : b = 0
  · subst h
    rw [if_pos sw_z, if_pos rfl]
  · rw [if_neg (sw_n0 h), if_neg h]
    exact congrArg (fun z => some (ad z)) (sw_sw b)
theorem fv_sw {X : XH} {ad : Nat → Nat} {a k : Nat} (ty : FieldType) : fv (swX X) (fun a => ad (sw a)) a ty k = fv X ad (sw a) ty k := by
  cases ty <;> first | rfl | exact congrArg va_rf (rf_sw ad _)
theorem ob_sw {X : XH} {ad : Nat → Nat} {ca : Nat → ClassId} {a : Nat} : ob (swX X) (fun a => ad (sw a)) (fun a => ca (sw a)) a = ob X ad ca (sw a) := by
  have h1 : ∀ c, fvs (swX X) (fun a => ad (sw a)) a c = fvs X ad (sw a) c := fun c => by
    unfold fvs
    exact congrArg (fun f => List.map f _) (funext fun k => fv_sw _)
  have h2 : ∀ t, av (swX X) (fun a => ad (sw a)) a t = av X ad (sw a) t := fun t => by
    unfold av
    have h3 : (fun k => rf (fun a => ad (sw a)) (hR (swX X) a k)) = fun k => rf ad (hR X (sw a) k) := funext fun k => rf_sw ad _
    rw [h3]
    rfl
  unfold ob
  rw [h1, h2]
  rfl
theorem wsO_sw {X : XH} {ad : Nat → Nat} {ca : Nat → ClassId} (hn : 244 ≤ hz X) {k : Nat} {q : Nat × va_E} (h : (wsO (swX X) (fun a => ad (sw a)) (fun a => ca (sw a)))[k]? = some q) : k < hz X ∧ (wsO X ad ca)[sw (k + 1) - 1]? = some q := by
  by_cases hk : k < hz X
  · refine ⟨hk, ?_⟩
    have h1 := wsO_get (X := swX X) (ad := fun a => ad (sw a)) (ca := fun a => ca (sw a)) (a := k + 1) (by omega) (show k + 1 ≤ hz X by omega)
    rw [Nat.add_sub_cancel, h] at h1
    rw [wsO_get (sw_n0 (by omega)) (sw_le hn (by omega)), h1, ob_sw]
  · unfold wsO at h
    rw [List.getElem?_eq_none (by simp; exact Nat.le_of_not_lt hk)] at h
    exact nomatch h
theorem RepO.swp {G : GG} {X : XH} {ad : Nat → Nat} {s : State} {H : Heap} (hn : 244 ≤ hz X) (h : RepO G X ad s H) : RepO G (swX X) (fun a => ad (sw a)) s H := by
  obtain ⟨D, ca, tys, hK, hP, hD, hA, hRz, h0, hb⟩ := h
  refine ⟨D, fun a => ca (sw a), tys, hK, fun k q hq => hP _ _ (wsO_sw hn hq).2, ⟨fun i j p q hp hq e => ?_, fun k q hq => hD.2 _ _ (wsO_sw hn hq).2⟩, fun a ha0 ha h5 => hA (sw a) (sw_n0 ha0) (sw_le hn ha) h5, fun a k => sw_le hn (hRz _ _), h0, hb⟩
  have e1 := hD.1 _ _ _ _ (wsO_sw hn hp).2 (wsO_sw hn hq).2 e
  have n1 := sw_n0 (show i + 1 ≠ 0 by omega)
  have n2 := sw_n0 (show j + 1 ≠ 0 by omega)
  have e2 := sw_inj (show sw (i + 1) = sw (j + 1) by omega)
  omega
def swr (r : Option Value ⊕ String) : Option Value ⊕ String := match r with
  | .inl v => .inl (v.map swV)
  | .inr E => .inr E
theorem AM.swp {G : GG} {M : MM} {X : XH} {args : List Value} {K K' : RK} (hn : 244 ≤ hz X) (h : AM G M (swX X) (args.map swV) K') (hk : ∀ r X', K' r X' → K (swr r) (swX X')) : AM G M X args K := by
  intro ad0 hok p e h1 h2 h3 s m args' below h4 h5 h6 h7
  have hok' : ∀ v ∈ args.map swV, vok (hz (swX X)) v := fun v hv => by
    obtain ⟨w, hw, rfl⟩ := List.mem_map.mp hv
    exact vok_sw hn (hok w hw)
  have hmap : ∀ (ad : Nat → Nat), (args.map swV).map (vm (fun a => ad (sw a))) = args.map (vm ad) := fun ad => by
    rw [List.map_map]
    exact List.map_congr_left fun v _ => vm_sw ad v
  have h6' : PcK G (swX X) (fun a => ad0 (sw a)) (args.map swV) args' s := by
    refine ⟨?_, h6.2.1.swp hn, h6.2.2⟩
    rw [hmap]
    exact h6.1
  have back : ∀ (n0 : Nat) (ad1 : Nat → Nat), 244 ≤ n0 → (∀ i, i ≤ n0 → ad1 i = ad0 (sw i)) → ∀ i, i ≤ n0 → ad1 (sw i) = ad0 i := fun n0 ad1 hn h i hi => by rw [h _ (sw_le hn hi), sw_sw]
  obtain ⟨n, o, g1, g2, g3, g4⟩ := h (fun a => ad0 (sw a)) hok' p e h1 h2 h3 s m args' below h4 h5 h6' h7
  refine ⟨n, o, g1, g2, g3, ?_⟩
  rcases g4 with ⟨⟨⟨r, X1, ad1, e1, e2, e3, e4, e5, e6⟩, hF⟩, hL⟩ | ⟨q, e0, E, ce, L, ⟨⟨X1, ad1, e1, e2, e3, e4⟩, hF⟩, hx⟩
  · have hn1 : 244 ≤ hz X1 := Nat.le_trans hn e4
    refine Or.inl ⟨⟨⟨r.map swV, swX X1, (fun a => ad1 (sw a)), ?_, hk _ _ e2, e3.swp hn1, e4, back _ _ hn e5, fun v hv => ?_⟩, hF⟩, hL⟩
    · rw [e1]
      cases r with
      | none => rfl
      | some v => exact congrArg (fun w => Outcome.returned (some w)) (vm_sw ad1 v).symm
    · cases r with
      | none => exact nomatch hv
      | some w =>
        have e : swV w = v := Option.some.inj hv
        rw [← e]
        exact vok_sw hn1 (e6 w rfl)
  · have hn1 : 244 ≤ hz X1 := Nat.le_trans hn e3
    exact Or.inr ⟨q, e0, E, ce, L, ⟨⟨swX X1, (fun a => ad1 (sw a)), hk _ _ e1, e2.swp hn1, e3, back _ _ hn e4⟩, hF⟩, hx⟩
end XSW
