/-! THE ABSTRACT MACHINE'S INSTRUCTIONS: fields, arrays, making -/
section XJ
theorem tk1 {i : Nat} {w : Cond} (h : tables_1_1[i]? = some w) (g : goodWord w = true) : w ∈ lwG := lwG_of (List.mem_append_right _ (have h := List.mem_of_getElem? h; (List.mem_append_left _ h))) g
theorem tk2 {i : Nat} {w : Cond} (h : tables_1_2[i]? = some w) (g : goodWord w = true) : w ∈ lwG := lwG_of (List.mem_append_right _ (have h := List.mem_of_getElem? h; (List.mem_append_right _ (List.mem_append_left _ h)))) g
theorem tk3 {i : Nat} {w : Cond} (h : tables_1_3[i]? = some w) (g : goodWord w = true) : w ∈ lwG := lwG_of (List.mem_append_right _ (have h := List.mem_of_getElem? h; (List.mem_append_right _ (List.mem_append_right _ (List.mem_append_left _ h))))) g
theorem tk4 {i : Nat} {w : Cond} (h : tables_1_4[i]? = some w) (g : goodWord w = true) : w ∈ lwG := lwG_of (List.mem_append_right _ (have h := List.mem_of_getElem? h; (List.mem_append_right _ (List.mem_append_right _ (List.mem_append_right _ (List.mem_append_left _ h)))))) g
theorem tk5 {i : Nat} {w : Cond} (h : tables_1_5[i]? = some w) (g : goodWord w = true) : w ∈ lwG := lwG_of (List.mem_append_right _ (have h := List.mem_of_getElem? h; (List.mem_append_right _ (List.mem_append_right _ (List.mem_append_right _ (List.mem_append_right _ (h))))))) g
theorem xIn0 : ∀ k, k < 8 → u_lay RX0 TX0 k ∈ lwG
  | 0, _ => tk1 (i := 125) (by decide +kernel) rfl
  | 1, _ => tk1 (i := 127) (by decide +kernel) rfl
  | 2, _ => tk1 (i := 129) (by decide +kernel) rfl
  | 3, _ => tk1 (i := 131) (by decide +kernel) rfl
  | 4, _ => tk1 (i := 133) (by decide +kernel) rfl
  | 5, _ => tk1 (i := 135) (by decide +kernel) rfl
  | 6, _ => tk1 (i := 137) (by decide +kernel) rfl
  | 7, _ => tk1 (i := 139) (by decide +kernel) rfl
  | n + 8, h => absurd h (by omega)
theorem xIn1 : ∀ k, k < 2 → u_lay RX1 TX1 k ∈ lwG
  | 0, _ => tk1 (i := 99) (by decide +kernel) rfl
  | 1, _ => tk1 (i := 101) (by decide +kernel) rfl
  | n + 2, h => absurd h (by omega)
theorem xIn2 : ∀ k, k < 5 → u_lay RX2 TX2 k ∈ lwG
  | 0, _ => tk1 (i := 154) (by decide +kernel) rfl
  | 1, _ => tk1 (i := 156) (by decide +kernel) rfl
  | 2, _ => tk1 (i := 158) (by decide +kernel) rfl
  | 3, _ => tk1 (i := 160) (by decide +kernel) rfl
  | 4, _ => tk1 (i := 162) (by decide +kernel) rfl
  | n + 5, h => absurd h (by omega)
theorem xIn3 : ∀ k, k < 16 → u_lay RX3 TX3 k ∈ lwG
  | 0, _ => tk1 (i := 53) (by decide +kernel) rfl
  | 1, _ => tk1 (i := 55) (by decide +kernel) rfl
  | 2, _ => tk1 (i := 57) (by decide +kernel) rfl
  | 3, _ => tk1 (i := 59) (by decide +kernel) rfl
  | 4, _ => tk1 (i := 61) (by decide +kernel) rfl
  | 5, _ => tk1 (i := 63) (by decide +kernel) rfl
  | 6, _ => tk1 (i := 65) (by decide +kernel) rfl
  | 7, _ => tk1 (i := 67) (by decide +kernel) rfl
  | 8, _ => tk1 (i := 69) (by decide +kernel) rfl
  | 9, _ => tk1 (i := 71) (by decide +kernel) rfl
  | 10, _ => tk1 (i := 73) (by decide +kernel) rfl
  | 11, _ => tk1 (i := 75) (by decide +kernel) rfl
  | 12, _ => tk1 (i := 77) (by decide +kernel) rfl
  | 13, _ => tk1 (i := 79) (by decide +kernel) rfl
  | 14, _ => tk1 (i := 81) (by decide +kernel) rfl
  | 15, _ => tk1 (i := 83) (by decide +kernel) rfl
  | n + 16, h => absurd h (by omega)
theorem xIn4 : ∀ k, k < 6 → u_lay RX4 TX4 k ∈ lwG
  | 0, _ => tk1 (i := 171) (by decide +kernel) rfl
  | 1, _ => tk1 (i := 173) (by decide +kernel) rfl
  | 2, _ => tk1 (i := 175) (by decide +kernel) rfl
  | 3, _ => tk1 (i := 177) (by decide +kernel) rfl
  | 4, _ => tk1 (i := 179) (by decide +kernel) rfl
  | 5, _ => tk1 (i := 181) (by decide +kernel) rfl
  | n + 6, h => absurd h (by omega)
theorem xIn : ∀ c, c < 5 → ∀ w ∈ u_ws (xT c).1 (xT c).2.1 (xT c).2.2, w ∈ lwG := by
  intro c hc w hw
  obtain ⟨k, hk, rfl⟩ := List.mem_map.mp hw
  have hk := List.mem_range.mp hk
  match c, hc with
  | 0, _ => exact xIn0 k hk
  | 1, _ => exact xIn1 k hk
  | 2, _ => exact xIn2 k hk
  | 3, _ => exact xIn3 k hk
  | 4, _ => exact xIn4 k hk
  | n + 5, h => exact absurd h (by omega)
theorem xTy : ∀ c, c < 5 → ∀ k, k < (xT c).2.2 → parseFieldDescriptor ((xT c).2.1 k).2.2.1 = some (xF c k) := by
  intro c hc k hk
  match c, hc with
  | 0, _ => exact tyX0_ok k hk
  | 1, _ => exact tyX1_ok k hk
  | 2, _ => exact tyX2_ok k hk
  | 3, _ => exact tyX3_ok k hk
  | 4, _ => exact tyX4_ok k hk
  | n + 5, h => exact absurd h (by omega)
theorem xNm : ∀ c, c < 5 → ∀ a, a < (xT c).2.2 → ∀ b, b < (xT c).2.2 → a ≠ b → ((xT c).2.1 a).2.1 ≠ ((xT c).2.1 b).2.1 := by
  intro c hc
  match c, hc with
  | 0, _ => exact nmX0
  | 1, _ => exact nmX1
  | 2, _ => exact nmX2
  | 3, _ => exact nmX3
  | 4, _ => exact nmX4
  | n + 5, h => exact absurd h (by omega)
/-- the word that links pool entry idx of class own to field k of class c -/
def flW (own : String) (idx c k : Nat) : Cond := .fieldLink own idx (xT c).1 ((xT c).2.1 k).2.1 ((xT c).2.1 k).2.2.1
def flOk (own : String) (idx c k : Nat) : Prop := flW own idx c k ∈ lwG ∧ c < 5 ∧ k < xN c ∧ ((xT c).2.1 k).1 = (xT c).1
theorem AF.ne {G : GG} {M : MM} {X : XH} {lv : List (Nat × Value)} {st : List Value} {ad ad0 : Nat → Nat} {n0 : Nat} {s : State} {H : Heap} {locs : List Loc} {ls : Array Slot} (h : AF G M X lv st ad ad0 n0 s H locs ls) {a : Nat} (ht : hty X a ≠ 99) : a ≠ 0 := by
  obtain ⟨⟨D, ca, tys, h1, h2, h3, h4, h5, h6, h7⟩, -⟩ := h
  intro e
  subst e
  exact ht h6

theorem aw_getf {G : GG} {M : MM} {pc : Nat} {lv : List (Nat × Value)} {st : List Value} {X : XH} {cc ss : Nat} {K : RK} (pc' : Nat) {idx c k a : Nat} {v : Value} (hd : decode (mC M) pc = .ok (.getfield idx, 3)) (hf : flOk (mY M).cls idx c k) (ht : hty X a = c) (hv : ∀ ad, fv X ad a (xF c k) k = vm ad v) (hok : (∀ a k, hR X a k ≤ hz X) → vok (hz X) v) (hp : pc + 3 = pc') (kk : AW G M pc' lv (v :: st) X cc ss K) : AW G M pc lv (.ref a :: st) X cc ss K := by
  subst hp
  intro p e s m args below meth c0 H locs ls ad ad0 n0 C F
  obtain ⟨h1, h2, h3, h4⟩ := hf
  have ha0 : a ≠ 0 := F.ne (by omega)
  have hal : a ≤ hz X := F.2.2.2.2.1 _ List.mem_cons_self
  obtain ⟨D, ca, tys, hK, hP, hD, hA, hRz, hz0, hb⟩ := id F.1
  have he := wsO_get (ad := ad) (ca := ca) ha0 hal
  rw [ob_cls h2 ht] at he
  refine va_get C.1 C.2.1 (Ts := lwG) C.2.2.2.2.2.1 (xIn c h2) C.2.2.2.2.1 hK hP (a - 1) he (xT_cl c h2) k h3 (ref := (xT c).1) (C.2.2.2.2.2.1 _ h1) (fun x hx => by rw [h4] at hx; exact hx) (v := vm ad v) ?_ hd (kk p e s m args below meth c0 H locs ls ad ad0 n0 C (F.st (vok_c (hok hRz) (vok_t F.2.2.2.2.1))))
  rw [fvs_get h3, hv]
def isI (ty : FieldType) : Bool := match ty with
  | .int => true
  | .boolean => true
  | _ => false
def isRf (ty : FieldType) : Bool := match ty with
  | .object _ => true
  | .array _ => true
  | _ => false
theorem fv_I {X : XH} {ad : Nat → Nat} {a k : Nat} {ty : FieldType} (h : isI ty = true) : fv X ad a ty k = .int (hI X a k) := by
  cases ty <;> first | rfl | cases h
theorem fv_R {X : XH} {ad : Nat → Nat} {a k : Nat} {ty : FieldType} (h : isRf ty = true) : fv X ad a ty k = va_rf (rf ad (hR X a k)) := by
  cases ty <;> first | rfl | cases h
theorem aw_getI {G : GG} {M : MM} {pc : Nat} {lv : List (Nat × Value)} {st : List Value} {X : XH} {cc ss : Nat} {K : RK} (pc' : Nat) {idx c k a : Nat} (hd : decode (mC M) pc = .ok (.getfield idx, 3)) (hf : flOk (mY M).cls idx c k) (hty' : isI (xF c k) = true) (ht : hty X a = c) (hp : pc + 3 = pc') (kk : AW G M pc' lv (.int (hI X a k) :: st) X cc ss K) : AW G M pc lv (.ref a :: st) X cc ss K :=
  aw_getf (v := .int (hI X a k)) pc' hd hf ht (fun ad => fv_I hty') (fun _ => trivial) hp kk
theorem aw_getR {G : GG} {M : MM} {pc : Nat} {lv : List (Nat × Value)} {st : List Value} {X : XH} {cc ss : Nat} {K : RK} (pc' : Nat) {idx c k a : Nat} (hd : decode (mC M) pc = .ok (.getfield idx, 3)) (hf : flOk (mY M).cls idx c k) (hty' : isRf (xF c k) = true) (ht : hty X a = c) (hn : hR X a k ≠ 0) (hp : pc + 3 = pc') (kk : AW G M pc' lv (.ref (hR X a k) :: st) X cc ss K) : AW G M pc lv (.ref a :: st) X cc ss K :=
  aw_getf (v := .ref (hR X a k)) pc' hd hf ht (fun ad => (fv_R hty').trans (rf_some hn)) (fun h => h _ _) hp kk
theorem aw_getL {G : GG} {M : MM} {pc : Nat} {lv : List (Nat × Value)} {st : List Value} {X : XH} {cc ss : Nat} {K : RK} (pc' : Nat) {idx c k a : Nat} (hd : decode (mC M) pc = .ok (.getfield idx, 3)) (hf : flOk (mY M).cls idx c k) (hty' : xF c k = .long) (ht : hty X a = c) (hp : pc + 3 = pc') (kk : AW G M pc' lv (.long (hL X a k) :: st) X cc ss K) : AW G M pc lv (.ref a :: st) X cc ss K :=
  aw_getf (v := .long (hL X a k)) pc' hd hf ht (fun ad => by rw [hty']; rfl) (fun _ => trivial) hp kk
/-- what changes in the abstract heap, at one thing alone -/
theorem RepO.put {G : GG} {X X' : XH} {ad : Nat → Nat} {ca : Nat → ClassId} {tys : List (ClassId × FieldType)} {D : va_G} {s : State} {H1 : Heap} {a : Nat} {e : va_E} (ha0 : a ≠ 0) (hK : va_K D vwCl tys s) (hA : ∀ a, a ≠ 0 → a ≤ hz X → 5 ≤ hty X a → ∃ t0 : Nat, tys[t0]? = some (ca a, aT (hty X a))) (hz0 : hty X 0 = 99) (hb : ad 0 = G.2.1)
    (hP : va_P D vwCl ((wsO X ad ca).set (a - 1) (ad a, e)) H1) (hD : va_D (gA G) ((wsO X ad ca).set (a - 1) (ad a, e))) (he : e = ob X' ad ca a) (hsz : hz X' = hz X) (hty' : hty X' = hty X) (ho : ∀ i, i ≠ a → ob X' ad ca i = ob X ad ca i) (hRz : ∀ a k, hR X' a k ≤ hz X) : RepO G X' ad s H1 := by
  subst he
  rw [wsO_set ha0 hsz ho] at hP hD
  exact ⟨D, ca, tys, hK, hP, hD, by rw [hsz, hty']; exact hA, by rw [hsz]; exact hRz, by rw [hty']; exact hz0, hb⟩
theorem AF.put {G : GG} {M : MM} {X X' : XH} {lv : List (Nat × Value)} {st st' : List Value} {ad ad0 : Nat → Nat} {n0 : Nat} {s : State} {H H1 : Heap} {locs locs1 : List Loc} {ls : Array Slot} (h : AF G M X lv st ad ad0 n0 s H locs ls) (hsz : hz X' = hz X) (hR' : RepO G X' ad s H1) (hS : va_S (gA G) s.heap H1 locs1) (hst : ∀ v ∈ st', v ∈ st) : AF G M X' lv st' ad ad0 n0 s H1 locs1 ls :=
  ⟨hR', hS, h.2.2.1, by rw [hsz]; exact h.2.2.2.1, by rw [hsz]; exact fun v hv => h.2.2.2.2.1 v (hst v hv), by rw [hsz]; exact h.2.2.2.2.2⟩
theorem ob_sI {X : XH} {ad : Nat → Nat} {ca : Nat → ClassId} {a k i : Nat} {v : Int32} (h : i ≠ a) : ob (sI X a k v) ad ca i = ob X ad ca i := ob_same rfl rfl (fun _ => up2_ne h) (fun _ => rfl) (fun _ => rfl) (fun _ => rfl)
theorem ob_sR {X : XH} {ad : Nat → Nat} {ca : Nat → ClassId} {a k i r : Nat} (h : i ≠ a) : ob (sR X a k r) ad ca i = ob X ad ca i := ob_same rfl rfl (fun _ => rfl) (fun _ => up2_ne h) (fun _ => rfl) (fun _ => rfl)
theorem ob_sL {X : XH} {ad : Nat → Nat} {ca : Nat → ClassId} {a k i : Nat} {v : Int64} (h : i ≠ a) : ob (sL X a k v) ad ca i = ob X ad ca i := ob_same rfl rfl (fun _ => rfl) (fun _ => rfl) (fun _ => up2_ne h) (fun _ => rfl)
theorem ob_sD {X : XH} {ad : Nat → Nat} {ca : Nat → ClassId} {a k i : Nat} {v : UInt64} (h : i ≠ a) : ob (sD X a k v) ad ca i = ob X ad ca i := ob_same rfl rfl (fun _ => rfl) (fun _ => rfl) (fun _ => rfl) (fun _ => up2_ne h)
theorem ob_sIr {X : XH} {ad : Nat → Nat} {ca : Nat → ClassId} {a i : Nat} {f : Nat → Int32} (h : i ≠ a) : ob (sIr X a f) ad ca i = ob X ad ca i := ob_same rfl rfl (fun _ => congrFun (up1_ne h) _) (fun _ => rfl) (fun _ => rfl) (fun _ => rfl)
theorem up2_R {X : XH} {a k r : Nat} (h : ∀ a k, hR X a k ≤ hz X) (hr : r ≤ hz X) : ∀ a' k', hR (sR X a k r) a' k' ≤ hz X := by
  intro a' k'
  show up2 (hR X) a k r a' k' ≤ hz X
  unfold up2
  by_cases h1 : a' = a
  · rw [if_pos h1]
    by_cases h2 : k' = k
    · rw [if_pos h2]; exact hr
    · rw [if_neg h2]; exact h a' k'
  · rw [if_neg h1]; exact h a' k'
theorem aw_putI {G : GG} {M : MM} {pc : Nat} {lv : List (Nat × Value)} {st : List Value} {X : XH} {cc ss : Nat} {K : RK} (pc' : Nat) {idx c k a : Nat} {v : Int32} (hd : decode (mC M) pc = .ok (.putfield idx, 3)) (hf : flOk (mY M).cls idx c k) (hty' : isI (xF c k) = true) (hnw : narrow (xF c k) (.int v) = .int v) (hft : fits (xF c k) (.int v) = true) (hfin : ((xT c).2.1 k).2.2.2 = false) (ht : hty X a = c) (hp : pc + 3 = pc') (kk : AW G M pc' lv st (sI X a k v) cc ss K) : AW G M pc lv (.int v :: .ref a :: st) X cc ss K := by
  subst hp
  intro p e s m args below meth c0 H locs ls ad ad0 n0 C F
  obtain ⟨h1, h2, h3, h4⟩ := hf
  have ha0 : a ≠ 0 := F.ne (by omega)
  have hal : a ≤ hz X := F.2.2.2.2.1 (.ref a) (List.mem_cons_of_mem _ List.mem_cons_self)
  obtain ⟨D, ca, tys, hK, hP, hD, hA, hRz, hz0, hb⟩ := id F.1
  have he := wsO_get (ad := ad) (ca := ca) ha0 hal
  rw [ob_cls h2 ht] at he
  refine va_put C.1 C.2.1 (Ts := lwG) C.2.2.2.2.2.1 (xIn c h2) (xF c) (xTy c h2) (xNm c h2) C.2.2.2.2.1 hK hP hD F.2.1 (a - 1) he (xT_cl c h2) k h3 (ref := (xT c).1) (C.2.2.2.2.2.1 _ h1) (fun x hx => by rw [h4] at hx; exact hx) hfin (xTy c h2 k h3) (v := .int v) hnw hft (by rw [fvs_len]; exact h3) hd (fun H1 locs1 hP1 hD1 hS1 => kk p e s m args below meth c0 H1 locs1 ls ad ad0 n0 C (F.put rfl (RepO.put ha0 hK hA hz0 hb hP1 hD1 ?_ rfl rfl (fun i hi => ob_sI hi) hRz) hS1 (fun v hv => List.mem_cons_of_mem _ (List.mem_cons_of_mem _ hv))))
  rw [ob_cls h2 (show hty (sI X a k v) a = c from ht)]
  refine congrArg (fun z => Sum.inr (c, z)) (fvs_set ?_ (fun j hj => ?_))
  · rw [fv_I hty']
    show Value.int (up2 (hI X) a k v a k) = _
    rw [up2_row]
    simp
  · unfold fv
    split
    · rfl
    · rfl
    · rfl
    · rfl
    · show Value.int (up2 (hI X) a k v a j) = Value.int (hI X a j)
      rw [up2_row]
      simp [hj]
theorem aw_putL {G : GG} {M : MM} {pc : Nat} {lv : List (Nat × Value)} {st : List Value} {X : XH} {cc ss : Nat} {K : RK} (pc' : Nat) {idx c k a : Nat} {v : Int64} (hd : decode (mC M) pc = .ok (.putfield idx, 3)) (hf : flOk (mY M).cls idx c k) (hty' : xF c k = .long) (hfin : ((xT c).2.1 k).2.2.2 = false) (ht : hty X a = c) (hp : pc + 3 = pc') (kk : AW G M pc' lv st (sL X a k v) cc ss K) : AW G M pc lv (.long v :: .ref a :: st) X cc ss K := by
  subst hp
  intro p e s m args below meth c0 H locs ls ad ad0 n0 C F
  obtain ⟨h1, h2, h3, h4⟩ := hf
  have ha0 : a ≠ 0 := F.ne (by omega)
  have hal : a ≤ hz X := F.2.2.2.2.1 (.ref a) (List.mem_cons_of_mem _ List.mem_cons_self)
  obtain ⟨D, ca, tys, hK, hP, hD, hA, hRz, hz0, hb⟩ := id F.1
  have he := wsO_get (ad := ad) (ca := ca) ha0 hal
  rw [ob_cls h2 ht] at he
  refine va_put C.1 C.2.1 (Ts := lwG) C.2.2.2.2.2.1 (xIn c h2) (xF c) (xTy c h2) (xNm c h2) C.2.2.2.2.1 hK hP hD F.2.1 (a - 1) he (xT_cl c h2) k h3 (ref := (xT c).1) (C.2.2.2.2.2.1 _ h1) (fun x hx => by rw [h4] at hx; exact hx) hfin (xTy c h2 k h3) (v := .long v) (by rw [hty']; rfl) (by rw [hty']; rfl) (by rw [fvs_len]; exact h3) hd (fun H1 locs1 hP1 hD1 hS1 => kk p e s m args below meth c0 H1 locs1 ls ad ad0 n0 C (F.put rfl (RepO.put ha0 hK hA hz0 hb hP1 hD1 ?_ rfl rfl (fun i hi => ob_sL hi) hRz) hS1 (fun v hv => List.mem_cons_of_mem _ (List.mem_cons_of_mem _ hv))))
  rw [ob_cls h2 (show hty (sL X a k v) a = c from ht)]
  refine congrArg (fun z => Sum.inr (c, z)) (fvs_set ?_ (fun j hj => ?_))
  · rw [hty']
    show Value.long (up2 (hL X) a k v a k) = _
    rw [up2_row]
    simp
  · unfold fv
    split
    · rfl
    · rfl
    · show Value.long (up2 (hL X) a k v a j) = Value.long (hL X a j)
      rw [up2_row]
      simp [hj]
    · rfl
    · rfl
/-- a reference into a final field, in a constructor -/
theorem aw_putRF {G : GG} {M : MM} {pc : Nat} {lv : List (Nat × Value)} {st : List Value} {X : XH} {cc ss : Nat} {K : RK} (pc' : Nat) {idx c k a r : Nat} (hd : decode (mC M) pc = .ok (.putfield idx, 3)) (hf : flOk (mY M).cls idx c k) (hty' : isRf (xF c k) = true) (hfin : ((xT c).2.1 k).2.2.2 = true) (hin : (mY M).name = "<init>") (hcl : (mY M).cls = (xT c).1) (ht : hty X a = c) (hr0 : r ≠ 0) (hp : pc + 3 = pc') (kk : AW G M pc' lv st (sR X a k r) cc ss K) : AW G M pc lv (.ref r :: .ref a :: st) X cc ss K := by
  subst hp
  intro p e s m args below meth c0 H locs ls ad ad0 n0 C F
  obtain ⟨h1, h2, h3, h4⟩ := hf
  have ha0 : a ≠ 0 := F.ne (by omega)
  have hal : a ≤ hz X := F.2.2.2.2.1 (.ref a) (List.mem_cons_of_mem _ List.mem_cons_self)
  have hrl : r ≤ hz X := F.2.2.2.2.1 (.ref r) List.mem_cons_self
  obtain ⟨D, ca, tys, hK, hP, hD, hA, hRz, hz0, hb⟩ := id F.1
  have he := wsO_get (ad := ad) (ca := ca) ha0 hal
  rw [ob_cls h2 ht] at he
  refine va_putF C.1 C.2.1 (Ts := lwG) C.2.2.2.2.2.1 (xIn c h2) (xF c) (xTy c h2) (xNm c h2) C.2.2.2.2.1 hK hP hD F.2.1 (a - 1) he (xT_cl c h2) k h3 (ref := (xT c).1) (C.2.2.2.2.2.1 _ h1) (fun x hx => by rw [h4] at hx; exact hx) hfin (C.2.2.2.2.2.2.2.2.2.2.trans hin) (h4.trans hcl.symm) (xTy c h2 k h3) (v := .ref (ad r)) ?_ ?_ (by rw [fvs_len]; exact h3) hd (fun H1 locs1 hP1 hD1 hS1 => kk p e s m args below meth c0 H1 locs1 ls ad ad0 n0 C (F.put rfl (RepO.put ha0 hK hA hz0 hb hP1 hD1 ?_ rfl rfl (fun i hi => ob_sR hi) (up2_R hRz hrl)) hS1 (fun v hv => List.mem_cons_of_mem _ (List.mem_cons_of_mem _ hv))))
  · revert hty'
    generalize xF c k = ty
    intro h
    cases ty <;> first | rfl | cases h
  · revert hty'
    generalize xF c k = ty
    intro h
    cases ty <;> first | rfl | cases h
  rw [ob_cls h2 (show hty (sR X a k r) a = c from ht)]
  refine congrArg (fun z => Sum.inr (c, z)) (fvs_set ?_ (fun j hj => ?_))
  · rw [fv_R hty']
    show va_rf (rf ad (up2 (hR X) a k r a k)) = _
    rw [up2_row]
    simp only [if_true]
    exact rf_some hr0
  · have e : up2 (hR X) a k r a j = hR X a j := by rw [up2_row]; simp [hj]
    unfold fv
    split
    · show va_rf (rf ad (up2 (hR X) a k r a j)) = _
      rw [e]
    · show va_rf (rf ad (up2 (hR X) a k r a j)) = _
      rw [e]
    · rfl
    · rfl
    · rfl
theorem aw_iaload {G : GG} {M : MM} {pc : Nat} {lv : List (Nat × Value)} {st : List Value} {X : XH} {cc ss : Nat} {K : RK} (pc' : Nat) {a : Nat} {i : Int32} (hd : decode (mC M) pc = .ok (.iaload, 1)) (ht : hty X a = 100) (hin : vp_in i (hln X a)) (hp : pc + 1 = pc') (kk : AW G M pc' lv (.int (hI X a i.toNatClampNeg) :: st) X cc ss K) : AW G M pc lv (.int i :: .ref a :: st) X cc ss K := by
  subst hp
  intro p e s m args below meth c0 H locs ls ad ad0 n0 C F
  have ha0 : a ≠ 0 := F.ne (by omega)
  have hal : a ≤ hz X := F.2.2.2.2.1 (.ref a) (List.mem_cons_of_mem _ List.mem_cons_self)
  obtain ⟨D, ca, tys, hK, hP, hD, hA, hRz, hz0, hb⟩ := id F.1
  have he := wsO_get (ad := ad) (ca := ca) ha0 hal
  rw [ob_arr (by omega) ht] at he
  obtain ⟨t0, ht0⟩ := hA a ha0 hal (by omega)
  rw [ht] at ht0
  exact va_iald C.1 C.2.1 hK hP (a - 1) t0 he ht0 hin hd (kk p e s m args below meth c0 H locs ls ad ad0 n0 C (F.st (vok_c trivial (vok_t (vok_t F.2.2.2.2.1)))))
theorem aw_baload {G : GG} {M : MM} {pc : Nat} {lv : List (Nat × Value)} {st : List Value} {X : XH} {cc ss : Nat} {K : RK} (pc' : Nat) {a : Nat} {i : Int32} (hd : decode (mC M) pc = .ok (.baload, 1)) (ht : hty X a = 101) (hin : vp_in i (hln X a)) (hp : pc + 1 = pc') (kk : AW G M pc' lv (.int (hI X a i.toNatClampNeg) :: st) X cc ss K) : AW G M pc lv (.int i :: .ref a :: st) X cc ss K := by
  subst hp
  intro p e s m args below meth c0 H locs ls ad ad0 n0 C F
  have ha0 : a ≠ 0 := F.ne (by omega)
  have hal : a ≤ hz X := F.2.2.2.2.1 (.ref a) (List.mem_cons_of_mem _ List.mem_cons_self)
  obtain ⟨D, ca, tys, hK, hP, hD, hA, hRz, hz0, hb⟩ := id F.1
  have he := wsO_get (ad := ad) (ca := ca) ha0 hal
  rw [ob_arr (by omega) ht] at he
  obtain ⟨t0, ht0⟩ := hA a ha0 hal (by omega)
  rw [ht] at ht0
  exact va_zald C.1 C.2.1 hK hP (a - 1) t0 he ht0 hin hd (kk p e s m args below meth c0 H locs ls ad ad0 n0 C (F.st (vok_c trivial (vok_t (vok_t F.2.2.2.2.1)))))
theorem aw_laload {G : GG} {M : MM} {pc : Nat} {lv : List (Nat × Value)} {st : List Value} {X : XH} {cc ss : Nat} {K : RK} (pc' : Nat) {a : Nat} {i : Int32} (hd : decode (mC M) pc = .ok (.laload, 1)) (ht : hty X a = 102) (hin : vp_in i (hln X a)) (hp : pc + 1 = pc') (kk : AW G M pc' lv (.long (hL X a i.toNatClampNeg) :: st) X cc ss K) : AW G M pc lv (.int i :: .ref a :: st) X cc ss K := by
  subst hp
  intro p e s m args below meth c0 H locs ls ad ad0 n0 C F
  have ha0 : a ≠ 0 := F.ne (by omega)
  have hal : a ≤ hz X := F.2.2.2.2.1 (.ref a) (List.mem_cons_of_mem _ List.mem_cons_self)
  obtain ⟨D, ca, tys, hK, hP, hD, hA, hRz, hz0, hb⟩ := id F.1
  have he := wsO_get (ad := ad) (ca := ca) ha0 hal
  rw [ob_arr (by omega) ht] at he
  obtain ⟨t0, ht0⟩ := hA a ha0 hal (by omega)
  rw [ht] at ht0
  exact va_lald C.1 C.2.1 hK hP (a - 1) t0 he ht0 hin hd (kk p e s m args below meth c0 H locs ls ad ad0 n0 C (F.st (vok_c trivial (vok_t (vok_t F.2.2.2.2.1)))))
theorem aw_daload {G : GG} {M : MM} {pc : Nat} {lv : List (Nat × Value)} {st : List Value} {X : XH} {cc ss : Nat} {K : RK} (pc' : Nat) {a : Nat} {i : Int32} (hd : decode (mC M) pc = .ok (.daload, 1)) (ht : hty X a = 103) (hin : vp_in i (hln X a)) (hp : pc + 1 = pc') (kk : AW G M pc' lv (.double (hDd X a i.toNatClampNeg) :: st) X cc ss K) : AW G M pc lv (.int i :: .ref a :: st) X cc ss K := by
  subst hp
  intro p e s m args below meth c0 H locs ls ad ad0 n0 C F
  have ha0 : a ≠ 0 := F.ne (by omega)
  have hal : a ≤ hz X := F.2.2.2.2.1 (.ref a) (List.mem_cons_of_mem _ List.mem_cons_self)
  obtain ⟨D, ca, tys, hK, hP, hD, hA, hRz, hz0, hb⟩ := id F.1
  have he := wsO_get (ad := ad) (ca := ca) ha0 hal
  rw [ob_arr (by omega) ht] at he
  obtain ⟨t0, ht0⟩ := hA a ha0 hal (by omega)
  rw [ht] at ht0
  exact va_dald C.1 C.2.1 hK hP (a - 1) t0 he ht0 hin hd (kk p e s m args below meth c0 H locs ls ad ad0 n0 C (F.st (vok_c trivial (vok_t (vok_t F.2.2.2.2.1)))))
theorem aw_aaload {G : GG} {M : MM} {pc : Nat} {lv : List (Nat × Value)} {st : List Value} {X : XH} {cc ss : Nat} {K : RK} (pc' : Nat) (c : Nat) {a : Nat} {i : Int32} (hd : decode (mC M) pc = .ok (.aaload, 1)) (ht : hty X a = 104 + c) (hin : vp_in i (hln X a)) (hn : hR X a i.toNatClampNeg ≠ 0) (hp : pc + 1 = pc') (kk : AW G M pc' lv (.ref (hR X a i.toNatClampNeg) :: st) X cc ss K) : AW G M pc lv (.int i :: .ref a :: st) X cc ss K := by
  subst hp
  intro p e s m args below meth c0 H locs ls ad ad0 n0 C F
  have ha0 : a ≠ 0 := F.ne (by omega)
  have hal : a ≤ hz X := F.2.2.2.2.1 (.ref a) (List.mem_cons_of_mem _ List.mem_cons_self)
  obtain ⟨D, ca, tys, hK, hP, hD, hA, hRz, hz0, hb⟩ := id F.1
  have he := wsO_get (ad := ad) (ca := ca) ha0 hal
  rw [ob_arr (by omega) ht] at he
  unfold av at he
  rw [if_neg (by omega), if_neg (by omega), if_neg (by omega)] at he
  obtain ⟨t0, ht0⟩ := hA a ha0 hal (by omega)
  rw [ht] at ht0
  unfold aT at ht0
  rw [if_neg (by omega), if_neg (by omega), if_neg (by omega), if_neg (by omega)] at ht0
  refine va_aldq C.1 C.2.1 hK hP (a - 1) t0 he ht0 hin hd ?_
  rw [rf_some hn]
  exact kk p e s m args below meth c0 H locs ls ad ad0 n0 C (F.st (vok_c (hRz _ _) (vok_t (vok_t F.2.2.2.2.1))))
theorem aw_iastore {G : GG} {M : MM} {pc : Nat} {lv : List (Nat × Value)} {st : List Value} {X : XH} {cc ss : Nat} {K : RK} (pc' : Nat) {a : Nat} {i : Int32} {v : Int32} (hd : decode (mC M) pc = .ok (.iastore, 1)) (ht : hty X a = 100) (hin : vp_in i (hln X a)) (hp : pc + 1 = pc') (kk : AW G M pc' lv st (sI X a i.toNatClampNeg v) cc ss K) : AW G M pc lv (.int v :: .int i :: .ref a :: st) X cc ss K := by
  subst hp
  intro p e s m args below meth c0 H locs ls ad ad0 n0 C F
  have ha0 : a ≠ 0 := F.ne (by omega)
  have hal : a ≤ hz X := F.2.2.2.2.1 (.ref a) (List.mem_cons_of_mem _ (List.mem_cons_of_mem _ List.mem_cons_self))
  obtain ⟨D, ca, tys, hK, hP, hD, hA, hRz, hz0, hb⟩ := id F.1
  have he := wsO_get (ad := ad) (ca := ca) ha0 hal
  rw [ob_arr (by omega) ht] at he
  obtain ⟨t0, ht0⟩ := hA a ha0 hal (by omega)
  rw [ht] at ht0
  refine va_iast C.1 C.2.1 hK hP hD F.2.1 (a - 1) t0 he ht0 hin hd (fun H1 locs1 hP1 hD1 hS1 => kk p e s m args below meth c0 H1 locs1 ls ad ad0 n0 C (F.put rfl (RepO.put ha0 hK hA hz0 hb hP1 hD1 ?_ rfl rfl (fun i hi => ob_sI hi) hRz) hS1 (fun v hv => List.mem_cons_of_mem _ (List.mem_cons_of_mem _ (List.mem_cons_of_mem _ hv)))))
  rw [ob_arr (X := sI X a i.toNatClampNeg v) (t := 100) (by omega) ht]
  show _ = Sum.inl (ca a, hln X a, Sum.inl (up2 (hI X) a i.toNatClampNeg v a))
  rw [up2_row]
  rfl
theorem aw_bastore {G : GG} {M : MM} {pc : Nat} {lv : List (Nat × Value)} {st : List Value} {X : XH} {cc ss : Nat} {K : RK} (pc' : Nat) {a : Nat} {i : Int32} {v : Int32} (hd : decode (mC M) pc = .ok (.bastore, 1)) (ht : hty X a = 101) (hin : vp_in i (hln X a)) (hv : v = 0 ∨ v = 1) (hp : pc + 1 = pc') (kk : AW G M pc' lv st (sI X a i.toNatClampNeg v) cc ss K) : AW G M pc lv (.int v :: .int i :: .ref a :: st) X cc ss K := by
  subst hp
  intro p e s m args below meth c0 H locs ls ad ad0 n0 C F
  have ha0 : a ≠ 0 := F.ne (by omega)
  have hal : a ≤ hz X := F.2.2.2.2.1 (.ref a) (List.mem_cons_of_mem _ (List.mem_cons_of_mem _ List.mem_cons_self))
  obtain ⟨D, ca, tys, hK, hP, hD, hA, hRz, hz0, hb⟩ := id F.1
  have he := wsO_get (ad := ad) (ca := ca) ha0 hal
  rw [ob_arr (by omega) ht] at he
  obtain ⟨t0, ht0⟩ := hA a ha0 hal (by omega)
  rw [ht] at ht0
  refine va_zast C.1 C.2.1 hK hP hD F.2.1 (a - 1) t0 he ht0 hin hd (fun H1 locs1 hP1 hD1 hS1 => kk p e s m args below meth c0 H1 locs1 ls ad ad0 n0 C (F.put rfl (RepO.put ha0 hK hA hz0 hb hP1 hD1 ?_ rfl rfl (fun i hi => ob_sI hi) hRz) hS1 (fun v hv => List.mem_cons_of_mem _ (List.mem_cons_of_mem _ (List.mem_cons_of_mem _ hv)))))
  rw [ob_arr (X := sI X a i.toNatClampNeg v) (t := 101) (by omega) ht]
  show _ = Sum.inl (ca a, hln X a, Sum.inl (up2 (hI X) a i.toNatClampNeg v a))
  rw [up2_row, show vp_nar .boolean v = v from by rcases hv with rfl | rfl <;> rfl]
  rfl
theorem aw_lastore {G : GG} {M : MM} {pc : Nat} {lv : List (Nat × Value)} {st : List Value} {X : XH} {cc ss : Nat} {K : RK} (pc' : Nat) {a : Nat} {i : Int32} {v : Int64} (hd : decode (mC M) pc = .ok (.lastore, 1)) (ht : hty X a = 102) (hin : vp_in i (hln X a)) (hp : pc + 1 = pc') (kk : AW G M pc' lv st (sL X a i.toNatClampNeg v) cc ss K) : AW G M pc lv (.long v :: .int i :: .ref a :: st) X cc ss K := by
  subst hp
  intro p e s m args below meth c0 H locs ls ad ad0 n0 C F
  have ha0 : a ≠ 0 := F.ne (by omega)
  have hal : a ≤ hz X := F.2.2.2.2.1 (.ref a) (List.mem_cons_of_mem _ (List.mem_cons_of_mem _ List.mem_cons_self))
  obtain ⟨D, ca, tys, hK, hP, hD, hA, hRz, hz0, hb⟩ := id F.1
  have he := wsO_get (ad := ad) (ca := ca) ha0 hal
  rw [ob_arr (by omega) ht] at he
  obtain ⟨t0, ht0⟩ := hA a ha0 hal (by omega)
  rw [ht] at ht0
  refine va_last C.1 C.2.1 hK hP hD F.2.1 (a - 1) t0 he ht0 hin hd (fun H1 locs1 hP1 hD1 hS1 => kk p e s m args below meth c0 H1 locs1 ls ad ad0 n0 C (F.put rfl (RepO.put ha0 hK hA hz0 hb hP1 hD1 ?_ rfl rfl (fun i hi => ob_sL hi) hRz) hS1 (fun v hv => List.mem_cons_of_mem _ (List.mem_cons_of_mem _ (List.mem_cons_of_mem _ hv)))))
  rw [ob_arr (X := sL X a i.toNatClampNeg v) (t := 102) (by omega) ht]
  show _ = Sum.inl (ca a, hln X a, Sum.inr (Sum.inl (up2 (hL X) a i.toNatClampNeg v a)))
  rw [up2_row]
  rfl
theorem aw_dastore {G : GG} {M : MM} {pc : Nat} {lv : List (Nat × Value)} {st : List Value} {X : XH} {cc ss : Nat} {K : RK} (pc' : Nat) {a : Nat} {i : Int32} {v : UInt64} (hd : decode (mC M) pc = .ok (.dastore, 1)) (ht : hty X a = 103) (hin : vp_in i (hln X a)) (hp : pc + 1 = pc') (kk : AW G M pc' lv st (sD X a i.toNatClampNeg v) cc ss K) : AW G M pc lv (.double v :: .int i :: .ref a :: st) X cc ss K := by
  subst hp
  intro p e s m args below meth c0 H locs ls ad ad0 n0 C F
  have ha0 : a ≠ 0 := F.ne (by omega)
  have hal : a ≤ hz X := F.2.2.2.2.1 (.ref a) (List.mem_cons_of_mem _ (List.mem_cons_of_mem _ List.mem_cons_self))
  obtain ⟨D, ca, tys, hK, hP, hD, hA, hRz, hz0, hb⟩ := id F.1
  have he := wsO_get (ad := ad) (ca := ca) ha0 hal
  rw [ob_arr (by omega) ht] at he
  obtain ⟨t0, ht0⟩ := hA a ha0 hal (by omega)
  rw [ht] at ht0
  refine va_dast C.1 C.2.1 hK hP hD F.2.1 (a - 1) t0 he ht0 hin hd (fun H1 locs1 hP1 hD1 hS1 => kk p e s m args below meth c0 H1 locs1 ls ad ad0 n0 C (F.put rfl (RepO.put ha0 hK hA hz0 hb hP1 hD1 ?_ rfl rfl (fun i hi => ob_sD hi) hRz) hS1 (fun v hv => List.mem_cons_of_mem _ (List.mem_cons_of_mem _ (List.mem_cons_of_mem _ hv)))))
  rw [ob_arr (X := sD X a i.toNatClampNeg v) (t := 103) (by omega) ht]
  show _ = Sum.inl (ca a, hln X a, Sum.inr (Sum.inr (Sum.inr (Sum.inl (up2 (hDd X) a i.toNatClampNeg v a)))))
  rw [up2_row]
  rfl
theorem aw_aastore {G : GG} {M : MM} {pc : Nat} {lv : List (Nat × Value)} {st : List Value} {X : XH} {cc ss : Nat} {K : RK} (pc' : Nat) (c : Nat) {a r : Nat} {i : Int32} (hd : decode (mC M) pc = .ok (.aastore, 1)) (hc : c < 5) (ht : hty X a = 104 + c) (hr : hty X r = c) (hin : vp_in i (hln X a)) (hp : pc + 1 = pc') (kk : AW G M pc' lv st (sR X a i.toNatClampNeg r) cc ss K) : AW G M pc lv (.ref r :: .int i :: .ref a :: st) X cc ss K := by
  subst hp
  intro p e s m args below meth c0 H locs ls ad ad0 n0 C F
  have ha0 : a ≠ 0 := F.ne (by omega)
  have hr0 : r ≠ 0 := F.ne (by omega)
  have hal : a ≤ hz X := F.2.2.2.2.1 (.ref a) (List.mem_cons_of_mem _ (List.mem_cons_of_mem _ List.mem_cons_self))
  have hrl : r ≤ hz X := F.2.2.2.2.1 (.ref r) List.mem_cons_self
  obtain ⟨D, ca, tys, hK, hP, hD, hA, hRz, hz0, hb⟩ := id F.1
  have he := wsO_get (ad := ad) (ca := ca) ha0 hal
  have hre := wsO_get (ad := ad) (ca := ca) hr0 hrl
  rw [ob_cls hc hr] at hre
  rw [ob_arr (by omega) ht] at he
  unfold av at he
  rw [if_neg (by omega), if_neg (by omega), if_neg (by omega)] at he
  obtain ⟨t0, ht0⟩ := hA a ha0 hal (by omega)
  rw [ht] at ht0
  unfold aT at ht0
  rw [if_neg (by omega), if_neg (by omega), if_neg (by omega), if_neg (by omega), Nat.add_sub_cancel_left] at ht0
  refine va_astq C.1 C.2.1 hK hP hD F.2.1 (a - 1) t0 (r - 1) c he ht0 hre (xT_cl c hc) hin hd (fun H1 locs1 hP1 hD1 hS1 => kk p e s m args below meth c0 H1 locs1 ls ad ad0 n0 C (F.put rfl (RepO.put ha0 hK hA hz0 hb hP1 hD1 ?_ rfl rfl (fun i hi => ob_sR hi) (up2_R hRz hrl)) hS1 (fun v hv => List.mem_cons_of_mem _ (List.mem_cons_of_mem _ (List.mem_cons_of_mem _ hv)))))
  rw [ob_arr (X := sR X a i.toNatClampNeg r) (t := 104 + c) (by omega) ht]
  unfold av
  rw [if_neg (by omega), if_neg (by omega), if_neg (by omega)]
  refine congrArg (fun z => Sum.inl (ca a, hln X a, Sum.inr (Sum.inr (Sum.inr (Sum.inr z))))) (funext fun k => ?_)
  show va_up (fun k => rf ad (hR X a k)) i.toNatClampNeg (some (ad r)) k = rf ad (up2 (hR X) a i.toNatClampNeg r a k)
  rw [up2_row]
  unfold va_up
  by_cases hk : k = i.toNatClampNeg
  · rw [if_pos hk]
    simp only [hk, if_true]
    unfold rf
    rw [if_neg hr0]
  · rw [if_neg hk]
    simp only [hk, if_false]
theorem aw_alen {G : GG} {M : MM} {pc : Nat} {lv : List (Nat × Value)} {st : List Value} {X : XH} {cc ss : Nat} {K : RK} (pc' : Nat) {a : Nat} (hd : decode (mC M) pc = .ok (.arraylength, 1)) (ht : 100 ≤ hty X a) (hp : pc + 1 = pc') (kk : AW G M pc' lv (.int (Int32.ofNat (hln X a)) :: st) X cc ss K) : AW G M pc lv (.ref a :: st) X cc ss K := by
  subst hp
  intro p e s m args below meth c0 H locs ls ad ad0 n0 C F
  have ha0 : a ≠ 0 := F.ne (by omega)
  have hal : a ≤ hz X := F.2.2.2.2.1 (.ref a) List.mem_cons_self
  obtain ⟨D, ca, tys, hK, hP, hD, hA, hRz, hz0, hb⟩ := id F.1
  have he := wsO_get (ad := ad) (ca := ca) ha0 hal
  rw [ob_arr (t := hty X a) (by omega) rfl] at he
  obtain ⟨t0, ht0⟩ := hA a ha0 hal (by omega)
  exact va_alen C.1 C.2.1 hK hP (a - 1) t0 he ht0 rfl hd (kk p e s m args below meth c0 H locs ls ad ad0 n0 C (F.st (vok_c trivial (vok_t F.2.2.2.2.1))))
/-- the script -/
theorem aw_sld {G : GG} {M : MM} {pc : Nat} {lv : List (Nat × Value)} {st : List Value} {X : XH} {cc ss : Nat} {K : RK} (pc' : Nat) {i : Int32} (hd : decode (mC M) pc = .ok (.iaload, 1)) (hin : vp_in i G.2.2.1) (hp : pc + 1 = pc') (kk : AW G M pc' lv (.int (G.2.2.2.1 i.toNatClampNeg) :: st) X cc ss K) : AW G M pc lv (.int i :: .ref 0 :: st) X cc ss K := by
  subst hp
  intro p e s m args below meth c0 H locs ls ad ad0 n0 C F
  obtain ⟨D, ca, tys, hK, hP, hD, hA, hRz, hz0, hb⟩ := id F.1
  obtain ⟨-, -, hX, hbl, hbA, -⟩ := C.2.2.2.2.2.2.2.2.2.1
  show W _ _ _ _ _ _ _ _ _ _ _ _ _ _ _ (F0 m pc ls (.int i :: .ref (ad 0) :: _))
  rw [hb]
  exact va_sld C.1 C.2.1 hX hbl hbA F.2.1 hin hd (kk p e s m args below meth c0 H locs ls ad ad0 n0 C (F.st (vok_c trivial (vok_t (vok_t F.2.2.2.2.1)))))
theorem aw_slen {G : GG} {M : MM} {pc : Nat} {lv : List (Nat × Value)} {st : List Value} {X : XH} {cc ss : Nat} {K : RK} (pc' : Nat) (hd : decode (mC M) pc = .ok (.arraylength, 1)) (hp : pc + 1 = pc') (kk : AW G M pc' lv (.int (Int32.ofNat G.2.2.1) :: st) X cc ss K) : AW G M pc lv (.ref 0 :: st) X cc ss K := by
  subst hp
  intro p e s m args below meth c0 H locs ls ad ad0 n0 C F
  obtain ⟨D, ca, tys, hK, hP, hD, hA, hRz, hz0, hb⟩ := id F.1
  obtain ⟨-, -, hX, hbl, hbA, -⟩ := C.2.2.2.2.2.2.2.2.2.1
  show W _ _ _ _ _ _ _ _ _ _ _ _ _ _ _ (F0 m pc ls (.ref (ad 0) :: _))
  rw [hb]
  exact va_slen C.1 C.2.1 hX hbl hbA F.2.1 hd (kk p e s m args below meth c0 H locs ls ad ad0 n0 C (F.st (vok_c trivial (vok_t F.2.2.2.2.1))))
/-- a new thing: the frame over the greater heap -/
theorem AF.new {G : GG} {M : MM} {X : XH} {lv : List (Nat × Value)} {st st' : List Value} {ad ad0 : Nat → Nat} {n0 : Nat} {s : State} {H H1 : Heap} {locs locs1 : List Loc} {ls : Array Slot} (h : AF G M X lv st ad ad0 n0 s H locs ls) {t n q : Nat} (hR' : RepO G (sN X t n) (up1 ad (hz X + 1) q) s H1) (hS : va_S (gA G) s.heap H1 locs1) (hst : ∀ v ∈ st', v ∈ st) : AF G M (sN X t n) lv (.ref (hz X + 1) :: st') (up1 ad (hz X + 1) q) ad0 n0 s H1 locs1 ls ∧ st'.map (vm (up1 ad (hz X + 1) q)) = st'.map (vm ad) := by
  have hag : ∀ i, i ≤ hz X → up1 ad (hz X + 1) q i = ad i := fun i hi => up1_ne (by omega)
  refine ⟨⟨hR', hS, ?_, fun q hq => vok_mono (h.2.2.2.1 q hq) (Nat.le_succ _), vok_c (Nat.le_refl _) (fun v hv => vok_mono (h.2.2.2.2.1 v (hst v hv)) (Nat.le_succ _)), Nat.le_trans h.2.2.2.2.2.1 (Nat.le_succ _), fun i hi => (hag i (Nat.le_trans hi h.2.2.2.2.2.1)).trans (h.2.2.2.2.2.2 i hi)⟩, ?_⟩
  · have e : lvm (up1 ad (hz X + 1) q) lv = lvm ad lv := List.map_congr_left fun q' hq => by rw [vm_eq (h.2.2.2.1 q' hq) hag]
    rw [e]
    exact h.2.2.1
  · exact List.map_congr_left fun v hv => vm_eq (h.2.2.2.2.1 v (hst v hv)) hag
theorem ob_new {X : XH} {ad ad' : Nat → Nat} {ca ca' : Nat → ClassId} {t n i : Nat} (hi : i ≤ hz X) (ha : ∀ i, i ≤ hz X → ad' i = ad i) (hc : ca' i = ca i) (hRz : ∀ a k, hR X a k ≤ hz X) : ob (sN X t n) ad' ca' i = ob X ad ca i := by
  have hne : i ≠ X.1 + 1 := by
    have : hz X = X.1 := rfl
    omega
  have e1 : hty (sN X t n) i = hty X i := up1_ne hne
  have e2 : hln (sN X t n) i = hln X i := up1_ne hne
  have e3 : hI (sN X t n) i = hI X i := up1_ne hne
  have e4 : hR (sN X t n) i = hR X i := up1_ne hne
  have e5 : hL (sN X t n) i = hL X i := up1_ne hne
  have e6 : hDd (sN X t n) i = hDd X i := up1_ne hne
  have er : ∀ k, rf ad' (hR X i k) = rf ad (hR X i k) := by
    intro k
    unfold rf
    by_cases h0 : hR X i k = 0
    · rw [if_pos h0, if_pos h0]
    · rw [if_neg h0, if_neg h0, ha _ (hRz i k)]
  unfold ob fvs fv av
  simp only [e1, e2, e3, e4, e5, e6, er, hc]
/-- the tie after a making: the new thing at q -/
theorem RepO.new {G : GG} {X : XH} {ad : Nat → Nat} {ca ca' : Nat → ClassId} {tys tys' : List (ClassId × FieldType)} {D : va_G} {s : State} {H1 : Heap} {t n q : Nat} {e : va_E} (hK : va_K D vwCl tys' s) (hA : ∀ a, a ≠ 0 → a ≤ hz X → 5 ≤ hty X a → ∃ t0 : Nat, tys[t0]? = some (ca a, aT (hty X a))) (hsub : ∀ (k : Nat) (x : ClassId × FieldType), tys[k]? = some x → ∃ k' : Nat, tys'[k']? = some x) (hnew : 5 ≤ t → ∃ t0 : Nat, tys'[t0]? = some (ca' (hz X + 1), aT t)) (hRz : ∀ a k, hR X a k ≤ hz X) (hz0 : hty X 0 = 99) (hb : ad 0 = G.2.1) (hca : ∀ i, i ≤ hz X → ca' i = ca i)
    (hP : va_P D vwCl (wsO X ad ca ++ [(q, e)]) H1) (hD : va_D (gA G) (wsO X ad ca ++ [(q, e)])) (he : e = ob (sN X t n) (up1 ad (hz X + 1) q) ca' (hz X + 1)) : RepO G (sN X t n) (up1 ad (hz X + 1) q) s H1 := by
  have hag : ∀ i, i ≤ hz X → up1 ad (hz X + 1) q i = ad i := fun i hi => up1_ne (by omega)
  have hpush := wsO_push (X := X) (X' := sN X t n) (ad := ad) (ad' := up1 ad (hz X + 1) q) (ca := ca) (ca' := ca') rfl (fun i h0 hi => ⟨hag i hi, ob_new hi hag (hca i hi) hRz⟩)
  rw [up1_eq, ← he] at hpush
  rw [hpush] at hP hD
  refine ⟨D, ca', tys', hK, hP, hD, fun a h0 hl h6 => ?_, fun a k => ?_, ?_, ?_⟩
  · by_cases ha : a = hz X + 1
    · have e : hty (sN X t n) a = t := by rw [ha]; exact up1_eq _ _ _
      rw [e] at h6 ⊢
      rw [ha]
      exact hnew h6
    · have hl' : a ≤ hz X := by
        have : hz (sN X t n) = hz X + 1 := rfl
        omega
      have e : hty (sN X t n) a = hty X a := up1_ne ha
      rw [e] at h6 ⊢
      rw [hca a hl']
      obtain ⟨t0, h1⟩ := hA a h0 hl' h6
      exact hsub t0 _ h1
  · show up1 (hR X) (hz X + 1) (fun _ => 0) a k ≤ hz X + 1
    by_cases ha : a = hz X + 1
    · rw [ha, up1_eq]
      exact Nat.zero_le _
    · rw [up1_ne ha]
      exact Nat.le_succ_of_le (hRz a k)
  · show up1 (hty X) (hz X + 1) t 0 = 99
    rw [up1_ne (by omega)]
    exact hz0
  · rw [up1_ne (by omega)]
    exact hb
theorem fvs_new {X : XH} {ad : Nat → Nat} {c n : Nat} (j : Nat) (hj : j < xN c) : defaultValue (xF c j) = vp_V (fvs (sN X c n) ad (hz X + 1) c) j := by
  have e3 : hI (sN X c n) (hz X + 1) = fun _ => 0 := up1_eq _ _ _
  have e4 : hR (sN X c n) (hz X + 1) = fun _ => 0 := up1_eq _ _ _
  have e5 : hL (sN X c n) (hz X + 1) = fun _ => 0 := up1_eq _ _ _
  have e6 : hDd (sN X c n) (hz X + 1) = fun _ => 0 := up1_eq _ _ _
  unfold vp_V
  rw [List.getD_eq_getElem?_getD, fvs_get hj]
  show defaultValue (xF c j) = fv (sN X c n) ad (hz X + 1) (xF c j) j
  unfold fv
  rw [e3, e4, e5, e6]
  have hnf : ∀ c j, xF c j ≠ .float := by
    intro c j
    unfold xF tyX0 tyX1 tyX2 tyX3 tyX4
    split <;> split <;> exact fun h => nomatch h
  have := hnf c j
  generalize xF c j = ty at this ⊢
  cases ty <;> first | rfl | exact absurd rfl this
theorem AX.base {G : GG} {M : MM} {p : Program} {s : State} {m : MethodId} {args : Array Value} {meth : Method} {c : Code} (C : AX G M p s m args meth c) : ∀ q, s.heap.size ≤ q → gA G q := fun q hq => Nat.le_trans C.2.2.2.2.2.2.2.2.2.1.2.2.2.2.2.1 hq
theorem aw_new {G : GG} {M : MM} {pc : Nat} {lv : List (Nat × Value)} {st : List Value} {X : XH} {cc ss : Nat} {K : RK} (pc' : Nat) (idx c : Nat) (hd : decode (mC M) pc = .ok (.new idx, 3)) (hc : c < 5) (h1 : Cond.classLink (mY M).cls idx (xT c).1 ∈ lwG) (h2 : Cond.instantiable (xT c).1 (xN c) ∈ lwG) (h3 : Cond.initialized (xT c).1 ∈ lwG) (hcc : cc + 1 ≤ mCc M) (hss : ss + xN c ≤ mSs M) (hp : pc + 3 = pc') (kk : AW G M pc' lv (.ref (hz X + 1) :: st) (sN X c 0) (cc + 1) (ss + xN c) K) : AW G M pc lv st X cc ss K := by
  subst hp
  intro p e s m args below meth c0 H locs ls ad ad0 n0 C F
  obtain ⟨D, ca, tys, hK, hP, hD, hA, hRz, hz0, hb⟩ := id F.1
  refine va_new C.1 C.2.1 (Ts := lwG) C.2.2.2.2.2.1 (xIn c hc) (xF c) (xTy c hc) C.2.2.2.2.1 (C.2.2.2.2.2.1 _ h1) (C.2.2.2.2.2.1 _ h2) (C.2.2.2.2.2.1 _ h3) hK hP hD F.2.1 C.base (xT_cl c hc) (fs := fvs (sN X c 0) (fun _ => 0) (hz X + 1) c) (fun j hj => fvs_new j hj) hcc hss hd (fun q H1 hP1 hD1 hS1 => ?_)
  have hty' : hty (sN X c 0) (hz X + 1) = c := up1_eq _ _ _
  have hR' := RepO.new (G := G) (X := X) (ad := ad) (ca := ca) (ca' := ca) (t := c) (n := 0) hK hA (fun k x h => ⟨k, h⟩) (fun h => absurd h (by omega)) hRz hz0 hb (fun _ _ => rfl) hP1 hD1 (by
    rw [ob_cls hc hty']
    refine congrArg (fun z => Sum.inr (c, z)) ?_
    unfold fvs
    refine List.map_congr_left fun k hk => ?_
    have e4 : hR (sN X c 0) (hz X + 1) = fun _ => 0 := up1_eq _ _ _
    unfold fv
    rw [e4]
    rfl)
  obtain ⟨hF, hm⟩ := AF.new F hR' hS1 (st' := st) (fun v hv => hv)
  have := kk p e s m args below meth c0 H1 locs ls _ ad0 n0 C hF
  rw [List.map_cons, hm, vm_ref, up1_eq] at this
  exact this
theorem aw_newa {G : GG} {M : MM} {pc : Nat} {lv : List (Nat × Value)} {st : List Value} {X : XH} {cc ss : Nat} {K : RK} (pc' : Nat) {atype : ArrayType} {ty : FieldType} (t : Nat) {n : Int32} (N : Nat) (hd : decode (mC M) pc = .ok (.newarray atype, 2)) (h1 : Cond.arrayClass (newarray.typeOf atype) ∈ lwG) (hty' : newarray.typeOf atype = ty) (ht : 100 ≤ t) (ht2 : t ≤ 103) (hat : aT t = ty) (hn : ¬ n < 0) (hN : n.toNatClampNeg = N) (hby : N * componentBytes ty ≤ 536870912) (hcc : cc + 1 ≤ mCc M) (hss : ss + N ≤ mSs M) (hp : pc + 2 = pc') (kk : AW G M pc' lv (.ref (hz X + 1) :: st) (sN X t N) (cc + 1) (ss + N) K) : AW G M pc lv (.int n :: st) X cc ss K := by
  subst hp
  intro p e s m args below meth c0 H locs ls ad ad0 n0 C F
  obtain ⟨D, ca, tys, hK, hP, hD, hA, hRz, hz0, hb⟩ := id F.1
  have e3 : hI (sN X t N) (hz X + 1) = fun _ => 0 := up1_eq _ _ _
  have e5 : hL (sN X t N) (hz X + 1) = fun _ => 0 := up1_eq _ _ _
  have e6 : hDd (sN X t N) (hz X + 1) = fun _ => 0 := up1_eq _ _ _
  have e2 : hln (sN X t N) (hz X + 1) = N := up1_eq _ _ _
  have hty2 : hty (sN X t N) (hz X + 1) = t := up1_eq _ _ _
  refine va_newa C.1 C.2.1 (atype := atype) (C.2.2.2.2.2.1 _ h1) hty' hK hP hD F.2.1 C.base (a0 := (N, av (sN X t N) (fun _ => 0) (hz X + 1) t)) (fun cA => ?_) hn hN hby hcc hss hd (fun q cA H1 hK1 hP1 hD1 hS1 => ?_)
  · subst hat
    unfold av aT vp_cell
    rw [e3, e5, e6]
    by_cases g0 : t = 100
    · subst g0; rfl
    · by_cases g1 : t = 101
      · subst g1; rfl
      · by_cases g2 : t = 102
        · subst g2; rfl
        · have g3 : t = 103 := by omega
          subst g3; rfl
  · have hR' := RepO.new (G := G) (X := X) (ad := ad) (ca := ca) (ca' := up1 ca (hz X + 1) cA) (t := t) (n := N) hK1 hA (fun k x h => ⟨k, (List.getElem?_append_left (List.getElem?_eq_some_iff.mp h).1).trans h⟩) (fun h => ⟨tys.length, by rw [List.getElem?_append_right (Nat.le_refl _), Nat.sub_self, up1_eq, hat]; rfl⟩) hRz hz0 hb (fun i hi => up1_ne (by omega)) hP1 hD1 (by
      rw [ob_arr (by omega) hty2, up1_eq, e2]
      refine congrArg (fun z => Sum.inl (cA, N, z)) ?_
      have e4 : hR (sN X t N) (hz X + 1) = fun _ => 0 := up1_eq _ _ _
      unfold av
      rw [e4]
      rfl)
    obtain ⟨hF, hm⟩ := AF.new F hR' hS1 (st' := st) (fun v hv => List.mem_cons_of_mem _ hv)
    have := kk p e s m args below meth c0 H1 locs ls _ ad0 n0 C hF
    rw [List.map_cons, hm, vm_ref, up1_eq] at this
    exact this
theorem aw_newq {G : GG} {M : MM} {pc : Nat} {lv : List (Nat × Value)} {st : List Value} {X : XH} {cc ss : Nat} {K : RK} (pc' : Nat) (idx c : Nat) {n : Int32} (N : Nat) (hd : decode (mC M) pc = .ok (.anewarray idx, 3)) (h1 : Cond.classLink (mY M).cls idx (xT c).1 ∈ lwG) (hc : c = 3) (hn : ¬ n < 0) (hN : n.toNatClampNeg = N) (hby : N * 4 ≤ 536870912) (hcc : cc + 1 ≤ mCc M) (hss : ss + N ≤ mSs M) (hp : pc + 3 = pc') (kk : AW G M pc' lv (.ref (hz X + 1) :: st) (sN X (104 + c) N) (cc + 1) (ss + N) K) : AW G M pc lv (.int n :: st) X cc ss K := by
  subst hp
  subst hc
  intro p e s m args below meth c0 H locs ls ad ad0 n0 C F
  obtain ⟨D, ca, tys, hK, hP, hD, hA, hRz, hz0, hb⟩ := id F.1
  have e2 : hln (sN X (104 + 3) N) (hz X + 1) = N := up1_eq _ _ _
  have hty2 : hty (sN X (104 + 3) N) (hz X + 1) = 104 + 3 := up1_eq _ _ _
  refine va_newq C.1 C.2.1 C.2.2.2.2.1 (C.2.2.2.2.2.1 _ h1) C.2.2.2.2.2.2.2.2.2.1.2.2.2.2.2.2.2.1 hK hP hD F.2.1 C.base hn hN hby hcc hss hd (fun q cA H1 hK1 hP1 hD1 hS1 => ?_)
  have hR' := RepO.new (G := G) (X := X) (ad := ad) (ca := ca) (ca' := up1 ca (hz X + 1) cA) (t := 104 + 3) (n := N) hK1 hA (fun k x h => ⟨k, (List.getElem?_append_left (List.getElem?_eq_some_iff.mp h).1).trans h⟩) (fun h => ⟨tys.length, by rw [List.getElem?_append_right (Nat.le_refl _), Nat.sub_self, up1_eq]; rfl⟩) hRz hz0 hb (fun i hi => up1_ne (by omega)) hP1 hD1 (by
    rw [ob_arr (by omega) hty2, up1_eq, e2]
    refine congrArg (fun z => Sum.inl (cA, N, z)) ?_
    have e4 : hR (sN X (104 + 3) N) (hz X + 1) = fun _ => 0 := up1_eq _ _ _
    unfold av
    rw [e4]
    rfl)
  obtain ⟨hF, hm⟩ := AF.new F hR' hS1 (st' := st) (fun v hv => List.mem_cons_of_mem _ hv)
  have := kk p e s m args below meth c0 H1 locs ls _ ad0 n0 C hF
  rw [List.map_cons, hm, vm_ref, up1_eq] at this
  exact this
end XJ
