/-! THE ABSTRACT MACHINE: AW: at this place of a method, with these locals, this stack, this heap, the run comes to an end for which K holds -/
section XM
/-- a method: name, code, locals, what it returns, table, room: frames, words, cells, slots -/
abbrev MM : Type := MethodName × ByteArray × Nat × Option FieldType × List (Nat × Nat × Nat × Nat) × Nat × Nat × Nat × Nat
def mY (M : MM) : MethodName := M.1
def mC (M : MM) : ByteArray := M.2.1
def mN (M : MM) : Nat := M.2.2.1
def mR (M : MM) : Option FieldType := M.2.2.2.1
def mH (M : MM) : List (Nat × Nat × Nat × Nat) := M.2.2.2.2.1
def mF (M : MM) : Nat := M.2.2.2.2.2.1
def mLo (M : MM) : Nat := M.2.2.2.2.2.2.1
def mCc (M : MM) : Nat := M.2.2.2.2.2.2.2.1
def mSs (M : MM) : Nat := M.2.2.2.2.2.2.2.2
def mRm (M : MM) : Room := { frames := mF M, cells := mCc M, slots := mSs M, locals := mLo M }
def lwG : List Cond := lw_tbl.filter goodWord
theorem lwG_of {w : Cond} (h : w ∈ lw_tbl) (g : goodWord w = true) : w ∈ lwG := List.mem_filter.mpr ⟨h, g⟩
theorem lwG_good : GoodIn lwG lwG := fun _ h => ⟨h, good_of_word (List.mem_filter.mp h).2⟩
def mK (M : MM) : Cond := match mH M with
  | [] => Cond.code (mY M) (mC M) (mN M) (mR M)
  | h :: t => Cond.codeWith (mY M) (mC M) (mN M) (mR M) (h :: t)
def mW (M : MM) : List Cond := mK M :: lwG
abbrev RK : Type := Option Value ⊕ String → XH → Prop
/-- what of the start stays known in every method: the JDK's two statics, the script, the texts, what is no subclass of what -/
def strT : List Nat := [426, 428, 432, 62, 423, 86, 99, 107, 430, 123, 137, 148, 156, 167, 436, 190, 204, 218, 229, 244, 253, 275, 278, 434, 438, 343, 348, 353]
def xcI : String := "java/lang/IndexOutOfBoundsException"
def xcA : String := "java/lang/IllegalArgumentException"
def xcS : String := "java/lang/IllegalStateException"
def ncT : List (String × String) := [(xcA, xcI), (xcS, xcI), (xcI, xcA), (xcS, xcA), (xcI, xcS), (xcA, xcS)]
def nestT : List (String × Nat × MethodName) := [(RX4, 33, yX0_init), (RX4, 40, yX2_init), (RX0, 41, yX4_at), (RX0, 31, yX4_put), (RX3, 81, yX4_at), (RX2, 28, yX4_put), (RX2, 32, yX4_at), (RX1, 25, yX4_treatyAt), (RX3, 49, yX4_copyRow), (RX3, 65, yX4_put)]
def declT : List String := ["java/lang/RuntimeException", "java/lang/Exception", "java/lang/Throwable"]
def Stat (G : GG) (s : State) (H : Heap) : Prop :=
  vx_Zq Bundle.tN "UNASSIGNED_STACK" Bundle.steD (gA G) s H ∧ vx_Zq Bundle.tN "SUPPRESSED_SENTINEL" Bundle.listD (gA G) s H ∧ va_X G.2.1 G.2.2.1 G.2.2.2.1 s H ∧ G.2.1 < H.size ∧ ¬ gA G G.2.1 ∧ G.2.2.2.2 ≤ H.size ∧
    (∀ q ∈ strT, ∃ (tx : String) (sa : Nat), vk_R RX4 q tx sa s) ∧ va_AO RX3 s ∧ (∀ q ∈ ncT, va_Nc q.1 q.2 s) ∧ (∀ q ∈ nestT, va_Nw (.methodLinkNest q.1 q.2.1 q.2.2 RX4) s) ∧ (∀ q ∈ [xcI, xcA, xcS], va_Nw (.castable q q) s) ∧ ∀ q ∈ declT, va_Nw (.declares (Bundle.initS q)) s
theorem Stat.go {G : GG} {s U : State} {H H1 : Heap} {locs : List Loc} (h : Stat G s H) (hW : s.WarmedH U.vm) (hS : va_S (gA G) H H1 locs) : Stat G U H1 := by
  obtain ⟨h1, h2, h3, h4, h5, h6, h7, h8, h9, h10, h11, h12⟩ := h
  refine ⟨(h1.kept hS.2.1).moved hW.alike, (h2.kept hS.2.1).moved hW.alike, (h3.kept (hS.2.1 _ h4 h5)).moved hW.alike, Nat.lt_of_lt_of_le h4 hS.1, h5, Nat.le_trans h6 hS.1, fun q hq => ?_, h8.moved hW.alike, fun q hq => (h9 q hq).moved hW.alike, fun q hq => (h10 q hq).warmM hW, fun q hq => (h11 q hq).warmC hW, fun q hq => (h12 q hq).warmD hW⟩
  obtain ⟨tx, sa, h⟩ := h7 q hq
  exact ⟨tx, sa, h.warm hW⟩
/-- the start of a call of method M over the abstract heap X -/
def PcK (G : GG) (X : XH) (ad : Nat → Nat) (args : List Value) : Array Value → State → Prop := va_Pc (args.map (vm ad)) (fun U => RepO G X ad U U.heap ∧ Stat G U U.heap)
def QcK (G : GG) (K : RK) (ad0 : Nat → Nat) (n0 : Nat) : Array Value → State → Outcome → State → Prop := fun _ st o t =>
  (∃ (r : Option Value) (X : XH) (ad : Nat → Nat), o = .returned (r.map (vm ad)) ∧ K (.inl r) X ∧ RepO G X ad t t.heap ∧ n0 ≤ hz X ∧ (∀ i, i ≤ n0 → ad i = ad0 i) ∧ ∀ v, r = some v → vok (hz X) v) ∧ va_F (gA G) st t
def XcK (G : GG) (K : RK) (ad0 : Nat → Nat) (n0 : Nat) : String → State → State → Prop := fun E st t =>
  (∃ (X : XH) (ad : Nat → Nat), K (.inr E) X ∧ RepO G X ad t t.heap ∧ n0 ≤ hz X ∧ ∀ i, i ≤ n0 → ad i = ad0 i) ∧ va_F (gA G) st t
/-- method M, called with these arguments over this heap, returns or throws, and K holds of it -/
def AM (G : GG) (M : MM) (X : XH) (args : List Value) (K : RK) : Prop :=
  ∀ ad0 : Nat → Nat, (∀ v ∈ args, vok (hz X) v) → vx_Met G.1 (mY M) (mW M) (mRm M) (PcK G X ad0 args) (QcK G K ad0 (hz X)) (XcK G K ad0 (hz X)) (mCc M) (mSs M) (gA G)
def AX (G : GG) (M : MM) (p : Program) (s : State) (m : MethodId) (args : Array Value) (meth : Method) (c : Code) : Prop :=
  p.tables.exec = Jvm.exec ∧ c.code = mC M ∧ meth.sig.returnType = mR M ∧ c.maxLocals = mN M ∧ s.vm.findClass (mY M).cls = some m.cls ∧ (∀ w ∈ lwG, w.before args s = true) ∧ c.exceptionTable.toList = tableOf (mH M) ∧ meth.locks = false ∧ G.1.stackTraces = false ∧ Stat G s s.heap ∧ meth.name = (mY M).name
def lvm (ad : Nat → Nat) (lv : List (Nat × Value)) : List (Nat × Value) := lv.map fun q => (q.1, vm ad q.2)
def AF (G : GG) (M : MM) (X : XH) (lv : List (Nat × Value)) (st : List Value) (ad ad0 : Nat → Nat) (n0 : Nat) (s : State) (H : Heap) (locs : List Loc) (ls : Array Slot) : Prop :=
  RepO G X ad s H ∧ va_S (gA G) s.heap H locs ∧ lv_has ls (mN M) (lvm ad lv) ∧ (∀ q ∈ lv, vok (hz X) q.2) ∧ (∀ v ∈ st, vok (hz X) v) ∧ n0 ≤ hz X ∧ ∀ i, i ≤ n0 → ad i = ad0 i
def AW (G : GG) (M : MM) (pc : Nat) (lv : List (Nat × Value)) (st : List Value) (X : XH) (cc ss : Nat) (K : RK) : Prop :=
  ∀ (p : Program) (e : Env) (s : State) (m : MethodId) (args : Array Value) (below : List Frame) (meth : Method) (c : Code) (H : Heap) (locs : List Loc) (ls : Array Slot) (ad ad0 : Nat → Nat) (n0 : Nat),
    AX G M p s m args meth c → AF G M X lv st ad ad0 n0 s H locs ls →
    W p G.1 e (mRm M) s m args below meth c H locs cc ss (vx_MQ below (QcK G K ad0 n0) (XcK G K ad0 n0) args s (mCc M) (mSs M) (gA G)) (F0 m pc ls (st.map (vm ad)))
/-- the same where E was thrown at pc -/
def AT (G : GG) (M : MM) (pc : Nat) (lv : List (Nat × Value)) (X : XH) (cc ss : Nat) (K : RK) (E : String) : Prop :=
  ∀ (p : Program) (e : Env) (s : State) (m : MethodId) (args : Array Value) (below : List Frame) (meth : Method) (c : Code) (H : Heap) (locs : List Loc) (ls : Array Slot) (ad ad0 : Nat → Nat) (n0 : Nat),
    AX G M p s m args meth c → AF G M X lv [] ad ad0 n0 s H locs ls → ∀ (ce : Cell) (q9 : Addr) (rest : List Value), H[q9]? = some ce → ce.vm = .none → s.vm.findClass E = some ce.cls →
    vx_W p G.1 e (mRm M) s m args below meth c H locs cc ss (vx_MQ below (QcK G K ad0 n0) (XcK G K ad0 n0) args s (mCc M) (mSs M) (gA G)) (F0 m pc ls rest) q9
theorem lv_args_map (ad : Nat → Nat) : ∀ (i : Nat) (vs : List Value), lv_args i (vs.map (vm ad)) = lvm ad (lv_args i vs)
  | _, [] => rfl
  | i, v :: vs => by
    show (i, vm ad v) :: lv_args (if (vm ad v).category = 2 then i + 2 else i + 1) (vs.map (vm ad)) = _
    rw [vm_cat, lv_args_map ad _ vs]
    rfl
theorem lv_args_ok {n : Nat} : ∀ (i : Nat) (vs : List Value), (∀ v ∈ vs, vok n v) → ∀ q ∈ lv_args i vs, vok n q.2
  | _, [], _ => fun _ h => nomatch h
  | i, v :: vs, h => fun q hq => by
    rcases List.mem_cons.mp hq with rfl | hq
    · exact h _ List.mem_cons_self
    · exact lv_args_ok _ vs (fun v hv => h v (List.mem_cons_of_mem _ hv)) q hq
theorem lg_sl_len (ad : Nat → Nat) (vs : List Value) : (lg_sl (vs.map (vm ad))).length = (lg_sl vs).length := by
  induction vs with
  | nil => rfl
  | cons v vs ih =>
    unfold lg_sl at ih ⊢
    simp only [List.map_cons, List.flatMap_cons, List.length_append, vm_cat, ih]
    by_cases h : v.category = 2 <;> simp [h]
/-- from the walk of the body to the contract -/
theorem AM_of {G : GG} {M : MM} {X : XH} {args : List Value} {K : RK} (hy : plainName (mY M).cls = true) (hh : mH M = []) (hn : (lg_sl args).length ≤ mN M) (hst : G.1.stackTraces = false) (k : AW G M 0 (lv_args 0 args) [] X 0 0 K) : AM G M X args K := by
  intro ad0 hok
  refine vx_ofW (cc := mC M) (maxL := mN M) (ret := mR M) (ws' := lwG) hy (by unfold mW mK; rw [hh]) ?_
  intro p e s m args' below meth c s₁ B hml htab hv
  obtain ⟨rfl, hR, hSt⟩ := hv
  have hts := atoms_spec (ws := mW M) B.pre
  have hts : ∀ w ∈ lwG, w.before _ s = true := fun w h => hts w (List.mem_cons_of_mem _ h)
  have hl := lv_entry (args.map (vm ad0)) (n := mN M) (by rw [lg_sl_len]; exact hn)
  rw [lg_entry_eq]
  refine k p e s m _ below meth c s.heap [] _ ad0 ad0 (hz X) ⟨B.exec, B.bytes, B.returns, hml, findClass_of_methodNamed B.named, hts, ?_, B.notSynchronized, hst, hSt, (name_of_methodNamed B.named B.method).1⟩ ⟨hR, va_S.rf, ?_, lv_args_ok 0 args hok, (fun _ h => nomatch h), Nat.le_refl _, fun _ _ => rfl⟩
  · rw [hh]
    exact List.eq_nil_iff_forall_not_mem.mpr htab
  · rw [← lv_args_map]
    exact hl
/-- .. of a body with a table -/
theorem AM_ofH {G : GG} {M : MM} {X : XH} {args : List Value} {K : RK} (hy : plainName (mY M).cls = true) (h0 : Nat × Nat × Nat × Nat) (ht : List (Nat × Nat × Nat × Nat)) (hh : mH M = h0 :: ht) (hn : (lg_sl args).length ≤ mN M) (hst : G.1.stackTraces = false) (k : AW G M 0 (lv_args 0 args) [] X 0 0 K) : AM G M X args K := by
  intro ad0 hok
  refine vx_ofWH (cc := mC M) (maxL := mN M) (ret := mR M) (ws' := lwG) (hh := h0 :: ht) hy (by unfold mW mK; rw [hh]) ?_
  intro p e s m args' below meth c s₁ B hml hv
  obtain ⟨rfl, hR, hSt⟩ := hv
  have hts0 := atoms_spec (ws := mW M) B.pre
  have hts : ∀ w ∈ lwG, w.before _ s = true := fun w h => hts0 w (List.mem_cons_of_mem _ h)
  have hcw : (Cond.codeWith (mY M) (mC M) (mN M) (mR M) (h0 :: ht)).before ((args.map (vm ad0)).toArray) s = true := by
    refine hts0 _ ?_
    unfold mW mK
    rw [hh]
    exact List.mem_cons_self
  have hl := lv_entry (args.map (vm ad0)) (n := mN M) (by rw [lg_sl_len]; exact hn)
  rw [lg_entry_eq]
  refine k p e s m _ below meth c s.heap [] _ ad0 ad0 (hz X) ⟨B.exec, B.bytes, B.returns, hml, findClass_of_methodNamed B.named, hts, ?_, B.notSynchronized, hst, hSt, (name_of_methodNamed B.named B.method).1⟩ ⟨hR, va_S.rf, ?_, lv_args_ok 0 args hok, (fun _ h => nomatch h), Nat.le_refl _, fun _ _ => rfl⟩
  · rw [hh]
    exact vx_table (x := mY M) B hcw
  · rw [← lv_args_map]
    exact hl
/-- what an instruction does to the stack alone -/
theorem aw_pure {G : GG} {M : MM} {pc pc' : Nat} {lv : List (Nat × Value)} {st st' : List Value} {X : XH} {cc ss : Nat} {K : RK}
    (h1 : ∀ {p : Program} {e : Env} {s : State} {m : MethodId} {args : Array Value} {below : List Frame} {meth : Method} {c : Code} {H : Heap} {locs : List Loc} {ls : Array Slot} {Q : State → Prop} (ad : Nat → Nat), AX G M p s m args meth c → lv_has ls (mN M) (lvm ad lv) →
      W p G.1 e (mRm M) s m args below meth c H locs cc ss Q (F0 m pc' ls (st'.map (vm ad))) → W p G.1 e (mRm M) s m args below meth c H locs cc ss Q (F0 m pc ls (st.map (vm ad))))
    (h2 : ∀ n, (∀ q ∈ lv, vok n q.2) → (∀ v ∈ st, vok n v) → ∀ v ∈ st', vok n v) (k : AW G M pc' lv st' X cc ss K) : AW G M pc lv st X cc ss K := by
  intro p e s m args below meth c H locs ls ad ad0 n0 C F
  exact h1 ad C F.2.2.1 (k p e s m args below meth c H locs ls ad ad0 n0 C ⟨F.1, F.2.1, F.2.2.1, F.2.2.2.1, h2 _ F.2.2.2.1 F.2.2.2.2.1, F.2.2.2.2.2⟩)
/-- a store into a local -/
theorem aw_sto {G : GG} {M : MM} {pc pc' i : Nat} {lv lv' : List (Nat × Value)} {v : Value} {st : List Value} {X : XH} {cc ss : Nat} {K : RK}
    (h1 : ∀ {p : Program} {e : Env} {s : State} {m : MethodId} {args : Array Value} {below : List Frame} {meth : Method} {c : Code} {H : Heap} {locs : List Loc} {ls : Array Slot} {Q : State → Prop} (ad : Nat → Nat), AX G M p s m args meth c → lv_has ls (mN M) (lvm ad lv) →
      (∀ ls1 : Array Slot, lv_has ls1 (mN M) (lvm ad lv') → W p G.1 e (mRm M) s m args below meth c H locs cc ss Q (F0 m pc' ls1 (st.map (vm ad)))) → W p G.1 e (mRm M) s m args below meth c H locs cc ss Q (F0 m pc ls ((v :: st).map (vm ad))))
    (h2 : ∀ q ∈ lv', q = (i, v) ∨ q ∈ lv) (k : AW G M pc' lv' st X cc ss K) : AW G M pc lv (v :: st) X cc ss K := by
  intro p e s m args below meth c H locs ls ad ad0 n0 C F
  refine h1 ad C F.2.2.1 (fun ls1 hl1 => k p e s m args below meth c H locs ls1 ad ad0 n0 C ⟨F.1, F.2.1, hl1, fun q hq => ?_, (fun w hw => F.2.2.2.2.1 w (List.mem_cons_of_mem _ hw)), F.2.2.2.2.2⟩)
  rcases h2 q hq with rfl | h
  · exact F.2.2.2.2.1 _ List.mem_cons_self
  · exact F.2.2.2.1 q h
/-- fewer locals -/
theorem aw_sub {G : GG} {M : MM} {pc : Nat} {lv lv' : List (Nat × Value)} {st : List Value} {X : XH} {cc ss : Nat} {K : RK} (h : ∀ q ∈ lv', q ∈ lv) (k : AW G M pc lv' st X cc ss K) : AW G M pc lv st X cc ss K := by
  intro p e s m args below meth c H locs ls ad ad0 n0 C F
  refine k p e s m args below meth c H locs ls ad ad0 n0 C ⟨F.1, F.2.1, ⟨F.2.2.1.1, F.2.2.1.2.1, fun q hq => ?_⟩, fun q hq => F.2.2.2.1 q (h q hq), F.2.2.2.2⟩
  obtain ⟨q', hq', rfl⟩ := List.mem_map.mp hq
  exact F.2.2.1.2.2 _ (List.mem_map.mpr ⟨q', h q' hq', rfl⟩)
/-- the value of a local -/
theorem lvm_get {ls : Array Slot} {n : Nat} {ad : Nat → Nat} {lv : List (Nat × Value)} (h : lv_has ls n (lvm ad lv)) {i : Nat} {v : Value} (hv : (i, v) ∈ lv) : ls[i]? = some (.val (vm ad v)) := h.2.2 (i, vm ad v) (List.mem_map.mpr ⟨(i, v), hv, rfl⟩)
def lvS (i : Nat) (v : Value) (lv : List (Nat × Value)) : List (Nat × Value) := (i, v) :: lv.filter (fun q => !(q.1 == i) && !(q.1 + 1 == i && q.2.category == 2))
def lvS2 (i : Nat) (v : Value) (lv : List (Nat × Value)) : List (Nat × Value) := (i, v) :: lv.filter (fun q => !(q.1 == i) && (!(q.1 == i + 1) && !(q.1 + 1 == i && q.2.category == 2)))
theorem lvm_S (ad : Nat → Nat) (i : Nat) (v : Value) (lv : List (Nat × Value)) : (i, vm ad v) :: (lvm ad lv).filter (fun q => !(q.1 == i) && !(q.1 + 1 == i && q.2.category == 2)) = lvm ad (lvS i v lv) := by
  unfold lvm lvS
  rw [List.map_cons, List.filter_map]
  congr 3
  funext q
  simp [vm_cat]
theorem lvm_S2 (ad : Nat → Nat) (i : Nat) (v : Value) (lv : List (Nat × Value)) : (i, vm ad v) :: (lvm ad lv).filter (fun q => !(q.1 == i) && (!(q.1 == i + 1) && !(q.1 + 1 == i && q.2.category == 2))) = lvm ad (lvS2 i v lv) := by
  unfold lvm lvS2
  rw [List.map_cons, List.filter_map]
  congr 3
  funext q
  simp [vm_cat]
theorem lvS_in {i : Nat} {v : Value} {lv : List (Nat × Value)} : ∀ q ∈ lvS i v lv, q = (i, v) ∨ q ∈ lv := fun q hq => (List.mem_cons.mp hq).imp id (fun h => (List.mem_filter.mp h).1)
theorem lvS2_in {i : Nat} {v : Value} {lv : List (Nat × Value)} : ∀ q ∈ lvS2 i v lv, q = (i, v) ∨ q ∈ lv := fun q hq => (List.mem_cons.mp hq).imp id (fun h => (List.mem_filter.mp h).1)
end XM
