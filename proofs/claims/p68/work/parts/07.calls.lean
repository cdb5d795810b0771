/-! THE ABSTRACT MACHINE'S INSTRUCTIONS: calls, throws, catches, the JDK's few -/
section XC
theorem met_of {l : Launch} {y : MethodName} {ws : List Cond} {rm : Room} {Pc : Array Value → State → Prop} {Qc : Array Value → State → Outcome → State → Prop} {XC : String → State → State → Prop} {mc ms : Nat} {free : Addr → Prop} (h : vx_Met l y ws rm Pc Qc XC mc ms free) (hno : ∀ E st t, ¬ XC E st t) : Met l y ws rm Pc Qc mc ms free := by
  intro p e h1 h2 h3 s m args below h4 h5 h6 h7
  obtain ⟨n, o, g1, g2, g3, g4⟩ := h p e h1 h2 h3 s m args below h4 h5 h6 h7
  refine ⟨n, o, g1, g2, g3, ?_⟩
  rcases g4 with g | ⟨q, -, E, ce, L, hx, -⟩
  · exact g
  · exact absurd hx (hno _ _ _)
theorem run_of {p : Program} {l : Launch} {e : Env} {R : Room} {s : State} {m : MethodId} {args : Array Value} {below : List Frame} {meth : Method} {c : Code} {H : Heap} {locs : List Loc} {cells slots mc ms : Nat} {g : JFrame} {rest : List Value} {Qa : State → Outcome → State → Prop} {XC : String → State → State → Prop} {free : Addr → Prop} (h : va_Run p l e R s m args below meth c H locs cells slots mc ms g rest Qa free) : vx_Run p l e R s m args below meth c H locs cells slots mc ms g rest Qa XC free := by
  intro T hT X
  exact Or.inl (h T hT X)
theorem AM.mono {G : GG} {M : MM} {X : XH} {args : List Value} {K K' : RK} (h : AM G M X args K) (hk : ∀ r X', K r X' → K' r X') : AM G M X args K' := by
  intro ad0 hok p e h1 h2 h3 s m args' below h4 h5 h6 h7
  obtain ⟨n, o, g1, g2, g3, g4⟩ := h ad0 hok p e h1 h2 h3 s m args' below h4 h5 h6 h7
  refine ⟨n, o, g1, g2, g3, ?_⟩
  rcases g4 with ⟨⟨⟨r, X, ad, e1, e2, e3⟩, hF⟩, hL⟩ | ⟨q, e0, E, ce, L, ⟨⟨X, ad, e1, e2⟩, hF⟩, hx⟩
  · exact Or.inl ⟨⟨⟨r, X, ad, e1, hk _ _ e2, e3⟩, hF⟩, hL⟩
  · exact Or.inr ⟨q, e0, E, ce, L, ⟨⟨X, ad, hk _ _ e1, e2⟩, hF⟩, hx⟩
theorem PcK_blind {G : GG} {X : XH} {ad : Nat → Nat} {args : List Value} : FrameBlind (PcK G X ad args) := fun a U g mk h => ⟨h.1, RepO.moved (u := U) (U := U.calling g mk a) (Vm.Alike.refl U.vm) h.2.1, Stat.go (U := U.calling g mk a) (H1 := U.heap) h.2.2 (State.WarmedH.refl U) (va_S.rf)⟩
/-- behind a call -/
theorem aw_of_run {G : GG} {M M' : MM} {pc : Nat} {lv : List (Nat × Value)} {st rest : List Value} {X : XH} {cc ss : Nat} {K Kc : RK} (a : Array Value)
    (hr : ∀ (p : Program) (e : Env) (s : State) (m : MethodId) (args : Array Value) (below : List Frame) (meth : Method) (c : Code) (H : Heap) (locs : List Loc) (ls : Array Slot) (ad ad0 : Nat → Nat) (n0 : Nat), AX G M p s m args meth c → AF G M X lv st ad ad0 n0 s H locs ls →
      vx_Run p G.1 e (mRm M) s m args below meth c H locs cc ss (mCc M') (mSs M') (F0 m pc ls (st.map (vm ad))) (rest.map (vm ad)) (QcK G Kc ad (hz X) a) (XcK G Kc ad (hz X)) (gA G))
    (hrest : ∀ v ∈ rest, v ∈ st) (kk : ∀ r X', Kc (.inl r) X' → AW G M (pc + 3) lv (r.toList ++ rest) X' (cc + mCc M') (ss + mSs M') K) (kx : ∀ E X', Kc (.inr E) X' → AT G M pc lv X' (cc + mCc M') (ss + mSs M') K E) : AW G M pc lv st X cc ss K := by
  intro p e s m args below meth c H locs ls ad ad0 n0 C F T hT X0
  have lvEq : ∀ adn : Nat → Nat, (∀ i, i ≤ hz X → adn i = ad i) → lvm adn lv = lvm ad lv := fun adn hag => List.map_congr_left fun q hq => by rw [vm_eq (F.2.2.2.1 q hq) hag]
  rcases hr p e s m args below meth c H locs ls ad ad0 n0 C F T hT X0 with ⟨v, st₀, t, T', L, h0, X', hL, e1, e2, ⟨⟨r, Xn, adn, hv, hK, hRep, hn, hag, hok⟩, hF⟩, st1⟩ | ⟨q, st₀, t, T', L, E, ce, h0, X', hL, e1, e2, ⟨⟨Xn, adn, hK, hRep, hn, hag⟩, hF⟩, hce, hcv, hcl, st1⟩
  · cases hv
    obtain ⟨k1, k2, k3⟩ := vx_keep h0 e1 F.2.1 (fun q _ h => h) (fun q h => h) hL hF
    have hRep' : RepO G Xn adn s T'.heap := by
      rw [e1]
      exact hRep.moved (by rw [← e2]; exact X'.warmed.alike.symm)
    have hstE : (r.map (vm adn)).toList ++ rest.map (vm ad) = (r.toList ++ rest).map (vm adn) := by
      rw [List.map_append, show rest.map (vm adn) = rest.map (vm ad) from List.map_congr_left fun v hv => vm_eq (F.2.2.2.2.1 v (hrest v hv)) hag]
      cases r <;> rfl
    obtain ⟨t2, a1, b1⟩ := kk r Xn hK p e s m args below meth c T'.heap (locs ++ L) ls adn ad0 n0 C ⟨hRep', k3, by rw [lvEq adn hag]; exact F.2.2.1, fun q hq => vok_mono (F.2.2.2.1 q hq) hn, fun v hv => by
      rcases List.mem_append.mp hv with h | h
      · exact hok v (by cases r with | none => cases h | some w => rw [List.mem_singleton.mp h])
      · exact vok_mono (F.2.2.2.2.1 v (hrest v h)) hn, Nat.le_trans F.2.2.2.2.2.1 hn, fun i hi => (hag i (Nat.le_trans hi F.2.2.2.2.2.1)).trans (F.2.2.2.2.2.2 i hi)⟩ T' rfl X'
    refine ⟨t2, st1 t2 ?_, b1⟩
    show Steps p.tables e below (T'.setTop { (F0 m pc ls (st.map (vm ad))) with pc := pc + 3, stack := (r.map (vm adn)).toList ++ rest.map (vm ad) }) t2
    rw [hstE]
    exact a1
  · obtain ⟨k1, k2, k3⟩ := vx_keep h0 e1 F.2.1 (fun q _ h => h) (fun q h => h) hL hF
    have hRep' : RepO G Xn adn s T'.heap := by
      rw [e1]
      exact hRep.moved (by rw [← e2]; exact X'.warmed.alike.symm)
    obtain ⟨t2, a1, b1⟩ := kx E Xn hK p e s m args below meth c T'.heap (locs ++ L) ls adn ad0 n0 C ⟨hRep', k3, by rw [lvEq adn hag]; exact F.2.2.1, fun q hq => vok_mono (F.2.2.2.1 q hq) hn, (fun v hv => nomatch hv), Nat.le_trans F.2.2.2.2.2.1 hn, fun i hi => (hag i (Nat.le_trans hi F.2.2.2.2.2.1)).trans (F.2.2.2.2.2.2 i hi)⟩ ce q (rest.map (vm ad)) (by rw [e1]; exact hce) hcv hcl T' rfl X'
    exact ⟨t2, st1.trans a1, b1⟩
/-- what the tables say of a method: code, name, how it is called; n: how many arguments -/
def mpOk (M' : MM) (n : Nat) : Prop := (mY M').cls ≠ "java/lang/invoke/MethodHandle" ∧ (mY M').cls ≠ "java/lang/invoke/VarHandle" ∧ (parseMethodDescriptor (mY M').desc).map (fun d => d.parameters.length) = some n
def mvOk (M' : MM) : Prop := Cond.instanceMethod (mY M') ∈ lwG ∧ Cond.selects (mY M').cls (mY M') (mY M') ∈ lwG ∧ Cond.initialized (mY M').cls ∈ lwG ∧ mK M' ∈ lwG
def msOk (M' : MM) : Prop := Cond.static (mY M') ∈ lwG ∧ Cond.initialized (mY M').cls ∈ lwG ∧ mK M' ∈ lwG
def miOk (M' : MM) : Prop := (mY M').name = "<init>" ∧ Cond.instanceMethod (mY M') ∈ lwG ∧ Cond.initialized (mY M').cls ∈ lwG ∧ mK M' ∈ lwG
def rmOk (M M' : MM) : Prop := mF M' + 1 ≤ mF M ∧ 8 + (mN M' + 11) + mLo M' ≤ mLo M
theorem good_c {w : Cond} {ws : List Cond} (h : w ∈ lwG) (hs : GoodIn lwG ws) : GoodIn lwG (w :: ws) := fun x hx => (List.mem_cons.mp hx).elim (fun e => by rw [e]; exact lwG_good _ h) (hs x)
theorem good_W {M' : MM} (h : mK M' ∈ lwG) : GoodIn lwG (mW M') := good_c h lwG_good
theorem mW_nil {M' : MM} (h : mH M' = []) : mW M' = Cond.code (mY M') (mC M') (mN M') (mR M') :: lwG := by
  unfold mW mK
  rw [h]
theorem sum_vm {ad : Nat → Nat} (rest : List Value) : ((rest.map (vm ad)).map fun v => v.category).sum = (rest.map fun v => v.category).sum := by
  rw [List.map_map]
  congr 2
  funext v
  exact vm_cat ad v
theorem aw_callV {G : GG} {M M' : MM} {pc : Nat} {lv : List (Nat × Value)} {st : List Value} {X : XH} {cc ss : Nat} {K Kc : RK} (pc' idx c b0 : Nat) (As rest : List Value)
    (hd : decode (mC M) pc = .ok (.invokevirtual idx, 3)) (hl : Cond.methodLink (mY M).cls idx (mY M') ∈ lwG) (hm : mvOk M') (hn : mpOk M' As.length) (hh : mH M' = []) (hR : rmOk M M')
    (hst : st = As.reverse ++ .ref b0 :: rest) (hc6 : c < 5) (hty' : hty X b0 = c) (hcl : (xT c).1 = (mY M').cls) (hW8 : (rest.map fun v => v.category).sum ≤ 8) (hcc : cc + mCc M' ≤ mCc M) (hss : ss + mSs M' ≤ mSs M) (hp : pc + 3 = pc')
    (hA : AM G M' X (.ref b0 :: As) Kc) (kk : ∀ r X', Kc (.inl r) X' → AW G M pc' lv (r.toList ++ rest) X' (cc + mCc M') (ss + mSs M') K) (kx : ∀ E X', Kc (.inr E) X' → AT G M pc lv X' (cc + mCc M') (ss + mSs M') K E) : AW G M pc lv st X cc ss K := by
  subst hp
  subst hst
  refine aw_of_run (M' := M') (Kc := Kc) (rest := rest) #[] (fun p e s m args below meth c0 H locs ls ad ad0 n0 C F => ?_) (fun v hv => List.mem_append_right _ (List.mem_cons_of_mem _ hv)) kk kx
  have ha0 : b0 ≠ 0 := F.ne (by omega)
  have hal : b0 ≤ hz X := F.2.2.2.2.1 (.ref b0) (List.mem_append_right _ List.mem_cons_self)
  obtain ⟨D, ca, tys, hK, hP, hD, hA', hRz, hz0, hb⟩ := id F.1
  have he := wsO_get (ad := ad) (ca := ca) ha0 hal
  rw [ob_cls hc6 hty'] at he
  have hM := hA ad (vok_c hal fun v hv => F.2.2.2.2.1 v (List.mem_append_left _ (List.mem_reverse.mpr hv)))
  have hstk : (As.reverse ++ Value.ref b0 :: rest).map (vm ad) = (As.map (vm ad)).reverse ++ .ref (ad b0) :: rest.map (vm ad) := by
    rw [List.map_append, List.map_reverse]
    rfl
  rw [hstk]
  exact vx_runV (R := mRm M) (C := (mY M').cls) (b := ad b0) (As := As.map (vm ad)) (rest := rest.map (vm ad)) ⟨C.1, C.2.1, C.2.2.2.1, C.2.2.2.2.1, C.2.2.2.2.2.1⟩ hM (cwV As.length C.2.2.2.2.2.1 (good_c hl (good_c hm.1 (good_c hm.2.1 (good_c hm.2.2.1 (good_W hm.2.2.2))))) (mW_nil hh) rfl rfl ⟨rfl, hn⟩ hR)
    ⟨PcK_blind, by rw [← hcl]; exact va_recv hK hP (xT_cl c hc6) he, fun U hU hW => ⟨rfl, by rw [hU]; exact F.1.moved hW.alike, by rw [hU]; exact C.2.2.2.2.2.2.2.2.2.1.go hW F.2.1⟩⟩ rfl (by rw [List.length_map]) F.2.2.1.1 rfl (lv_room (by rw [sum_vm]; exact hW8)) hd ⟨hcc, hss⟩
theorem aw_callS {G : GG} {M M' : MM} {pc : Nat} {lv : List (Nat × Value)} {st : List Value} {X : XH} {cc ss : Nat} {K Kc : RK} (pc' idx : Nat) (As rest : List Value)
    (hd : decode (mC M) pc = .ok (.invokestatic idx, 3)) (hl : Cond.methodLink (mY M).cls idx (mY M') ∈ lwG) (hm : msOk M') (hn : mpOk M' As.length) (hh : mH M' = []) (hR : rmOk M M')
    (hst : st = As.reverse ++ rest) (hW8 : (rest.map fun v => v.category).sum ≤ 8) (hcc : cc + mCc M' ≤ mCc M) (hss : ss + mSs M' ≤ mSs M) (hp : pc + 3 = pc')
    (hA : AM G M' X As Kc) (kk : ∀ r X', Kc (.inl r) X' → AW G M pc' lv (r.toList ++ rest) X' (cc + mCc M') (ss + mSs M') K) (kx : ∀ E X', Kc (.inr E) X' → AT G M pc lv X' (cc + mCc M') (ss + mSs M') K E) : AW G M pc lv st X cc ss K := by
  subst hp
  subst hst
  refine aw_of_run (M' := M') (Kc := Kc) (rest := rest) #[] (fun p e s m args below meth c0 H locs ls ad ad0 n0 C F => ?_) (fun v hv => List.mem_append_right _ hv) kk kx
  have hM := hA ad (fun v hv => F.2.2.2.2.1 v (List.mem_append_left _ (List.mem_reverse.mpr hv)))
  have hstk : (As.reverse ++ rest).map (vm ad) = (As.map (vm ad)).reverse ++ rest.map (vm ad) := by
    rw [List.map_append, List.map_reverse]
  rw [hstk]
  exact vx_runS (R := mRm M) (As := As.map (vm ad)) (rest := rest.map (vm ad)) ⟨C.1, C.2.1, C.2.2.2.1, C.2.2.2.2.1, C.2.2.2.2.2.1⟩ hM (va_cwS As.length C.2.2.2.2.2.1 (good_c hl (good_c hm.1 (good_c hm.2.1 (good_W hm.2.2)))) (mW_nil hh) rfl rfl hn hR)
    ⟨PcK_blind, fun U hU hW => ⟨rfl, by rw [hU]; exact F.1.moved hW.alike, by rw [hU]; exact C.2.2.2.2.2.2.2.2.2.1.go hW F.2.1⟩⟩ rfl (by rw [List.length_map]) F.2.2.1.1 rfl (lv_room (by rw [sum_vm]; exact hW8)) hd ⟨hcc, hss⟩
theorem aw_callSN {G : GG} {M M' : MM} {pc : Nat} {lv : List (Nat × Value)} {st : List Value} {X : XH} {cc ss : Nat} {K Kc : RK} (pc' idx : Nat) (As rest : List Value)
    (hd : decode (mC M) pc = .ok (.invokestatic idx, 3)) (hl : ((mY M).cls, idx, mY M') ∈ nestT) (hm : msOk M') (hn : mpOk M' As.length) (hh : mH M' = []) (hR : rmOk M M')
    (hst : st = As.reverse ++ rest) (hW8 : (rest.map fun v => v.category).sum ≤ 8) (hcc : cc + mCc M' ≤ mCc M) (hss : ss + mSs M' ≤ mSs M) (hp : pc + 3 = pc')
    (hA : AM G M' X As Kc) (kk : ∀ r X', Kc (.inl r) X' → AW G M pc' lv (r.toList ++ rest) X' (cc + mCc M') (ss + mSs M') K) (hno : ∀ E X', ¬ Kc (.inr E) X') : AW G M pc lv st X cc ss K := by
  subst hp
  subst hst
  refine aw_of_run (M' := M') (Kc := Kc) (rest := rest) #[] (fun p e s m args below meth c0 H locs ls ad ad0 n0 C F => ?_) (fun v hv => List.mem_append_right _ hv) kk (fun E X' h => absurd h (hno E X'))
  have hM := hA ad (fun v hv => F.2.2.2.2.1 v (List.mem_append_left _ (List.mem_reverse.mpr hv)))
  have hstk : (As.reverse ++ rest).map (vm ad) = (As.map (vm ad)).reverse ++ rest.map (vm ad) := by
    rw [List.map_append, List.map_reverse]
  rw [hstk]
  refine run_of (va_runSN (R := mRm M) (As := As.map (vm ad)) (rest := rest.map (vm ad)) (host := RX4) ⟨C.1, C.2.1, C.2.2.2.1, C.2.2.2.2.1, C.2.2.2.2.2.1⟩ (met_of hM (fun E st t h => ?_)) ⟨va_cnB As.length C.2.2.2.2.2.1 (good_W hm.2.2) (mW_nil hh) rfl rfl (C.2.2.2.2.2.2.2.2.2.1.2.2.2.2.2.2.2.2.2.1 _ hl) (C.2.2.2.2.2.1 _ hm.2.1) hn hR, C.2.2.2.2.2.1 _ hm.1, trivial⟩
    ⟨PcK_blind, fun U hU hW => ⟨rfl, by rw [hU]; exact F.1.moved hW.alike, by rw [hU]; exact C.2.2.2.2.2.2.2.2.2.1.go hW F.2.1⟩⟩ rfl (by rw [List.length_map]) F.2.2.1.1 rfl (lv_room (by rw [sum_vm]; exact hW8)) hd ⟨hcc, hss⟩)
  obtain ⟨⟨X1, ad1, h1, -⟩, -⟩ := h
  exact hno _ _ h1
theorem aw_callSX {G : GG} {M M' : MM} {pc : Nat} {lv : List (Nat × Value)} {st : List Value} {X : XH} {cc ss : Nat} {K Kc : RK} (pc' idx : Nat) (As rest : List Value)
    (hd : decode (mC M) pc = .ok (.invokestatic idx, 3)) (hl : Cond.methodLink (mY M).cls idx (mY M') ∈ lwG) (hm : msOk M') (hn : mpOk M' As.length) (h0 : Nat × Nat × Nat × Nat) (ht : List (Nat × Nat × Nat × Nat)) (hh : mH M' = h0 :: ht) (hR : rmOk M M')
    (hst : st = As.reverse ++ rest) (hW8 : (rest.map fun v => v.category).sum ≤ 8) (hcc : cc + mCc M' ≤ mCc M) (hss : ss + mSs M' ≤ mSs M) (hp : pc + 3 = pc')
    (hA : AM G M' X As Kc) (kk : ∀ r X', Kc (.inl r) X' → AW G M pc' lv (r.toList ++ rest) X' (cc + mCc M') (ss + mSs M') K) (kx : ∀ E X', Kc (.inr E) X' → AT G M pc lv X' (cc + mCc M') (ss + mSs M') K E) : AW G M pc lv st X cc ss K := by
  subst hp
  subst hst
  refine aw_of_run (M' := M') (Kc := Kc) (rest := rest) #[] (fun p e s m args below meth c0 H locs ls ad ad0 n0 C F => ?_) (fun v hv => List.mem_append_right _ hv) kk kx
  have hM := hA ad (fun v hv => F.2.2.2.2.1 v (List.mem_append_left _ (List.mem_reverse.mpr hv)))
  have hstk : (As.reverse ++ rest).map (vm ad) = (As.map (vm ad)).reverse ++ rest.map (vm ad) := by
    rw [List.map_append, List.map_reverse]
  rw [hstk]
  have hw : mW M' = Cond.codeWith (mY M') (mC M') (mN M') (mR M') (h0 :: ht) :: lwG := by
    unfold mW mK
    rw [hh]
  exact vx_runSX (R := mRm M) (As := As.map (vm ad)) (rest := rest.map (vm ad)) ⟨C.1, C.2.1, C.2.2.2.1, C.2.2.2.2.1, C.2.2.2.2.2.1⟩ hM (vx_cwSW As.length C.2.2.2.2.2.1 (good_c hl (good_c hm.1 (good_c hm.2.1 (good_W hm.2.2)))) hw rfl rfl hn hR)
    ⟨PcK_blind, fun U hU hW => ⟨rfl, by rw [hU]; exact F.1.moved hW.alike, by rw [hU]; exact C.2.2.2.2.2.2.2.2.2.1.go hW F.2.1⟩⟩ rfl (by rw [List.length_map]) F.2.2.1.1 rfl (lv_room (by rw [sum_vm]; exact hW8)) hd ⟨hcc, hss⟩
theorem aw_callI {G : GG} {M M' : MM} {pc : Nat} {lv : List (Nat × Value)} {st : List Value} {X : XH} {cc ss : Nat} {K Kc : RK} (pc' idx b0 : Nat) (As rest : List Value)
    (hd : decode (mC M) pc = .ok (.invokespecial idx, 3)) (hl : Cond.methodLink (mY M).cls idx (mY M') ∈ lwG) (hm : miOk M') (hn : mpOk M' As.length) (hh : mH M' = []) (hr : mR M' = none) (hR : rmOk M M')
    (hst : st = As.reverse ++ .ref b0 :: rest) (hW8 : (rest.map fun v => v.category).sum ≤ 8) (hcc : cc + mCc M' ≤ mCc M) (hss : ss + mSs M' ≤ mSs M) (hp : pc + 3 = pc')
    (hA : AM G M' X (.ref b0 :: As) Kc) (kk : ∀ r X', Kc (.inl r) X' → AW G M pc' lv (r.toList ++ rest) X' (cc + mCc M') (ss + mSs M') K) (hno : ∀ E X', ¬ Kc (.inr E) X') : AW G M pc lv st X cc ss K := by
  subst hp
  subst hst
  refine aw_of_run (M' := M') (Kc := Kc) (rest := rest) #[] (fun p e s m args below meth c0 H locs ls ad ad0 n0 C F => ?_) (fun v hv => List.mem_append_right _ (List.mem_cons_of_mem _ hv)) kk (fun E X' h => absurd h (hno E X'))
  have hal : b0 ≤ hz X := F.2.2.2.2.1 (.ref b0) (List.mem_append_right _ List.mem_cons_self)
  have hM := hA ad (vok_c hal fun v hv => F.2.2.2.2.1 v (List.mem_append_left _ (List.mem_reverse.mpr hv)))
  have hstk : (As.reverse ++ Value.ref b0 :: rest).map (vm ad) = (As.map (vm ad)).reverse ++ .ref (ad b0) :: rest.map (vm ad) := by
    rw [List.map_append, List.map_reverse]
    rfl
  have hnx : ∀ (E : String) (st t : State), ¬ XcK G Kc ad (hz X) E st t := by
    intro E st t h
    obtain ⟨⟨X1, ad1, h1, -⟩, -⟩ := h
    exact hno _ _ h1
  have hw : mW M' = Cond.code (mY M') (mC M') (mN M') none :: lwG := by rw [mW_nil hh, hr]
  rw [hstk]
  exact run_of (va_runI (R := mRm M) (b := ad b0) (As := As.map (vm ad)) (rest := rest.map (vm ad)) ⟨C.1, C.2.1, C.2.2.2.1, C.2.2.2.2.1, C.2.2.2.2.2.1⟩ (met_of hM hnx) (cwI As.length C.2.2.2.2.2.1 (good_W hm.2.2.2) hw rfl rfl (C.2.2.2.2.2.1 _ hm.2.2.1) (C.2.2.2.2.2.1 _ hl) (C.2.2.2.2.2.1 _ hm.2.1) hm.1 hn hR)
    ⟨PcK_blind, fun U hU hW => ⟨rfl, by rw [hU]; exact F.1.moved hW.alike, by rw [hU]; exact C.2.2.2.2.2.2.2.2.2.1.go hW F.2.1⟩⟩ rfl (by rw [List.length_map]) F.2.2.1.1 rfl (lv_room (by rw [sum_vm]; exact hW8)) hd ⟨hcc, hss⟩)
theorem aw_callIN {G : GG} {M M' : MM} {pc : Nat} {lv : List (Nat × Value)} {st : List Value} {X : XH} {cc ss : Nat} {K Kc : RK} (pc' idx b0 : Nat) (As rest : List Value)
    (hd : decode (mC M) pc = .ok (.invokespecial idx, 3)) (hl : ((mY M).cls, idx, mY M') ∈ nestT) (hm : miOk M') (hn : mpOk M' As.length) (hh : mH M' = []) (hr : mR M' = none) (hR : rmOk M M')
    (hst : st = As.reverse ++ .ref b0 :: rest) (hW8 : (rest.map fun v => v.category).sum ≤ 8) (hcc : cc + mCc M' ≤ mCc M) (hss : ss + mSs M' ≤ mSs M) (hp : pc + 3 = pc')
    (hA : AM G M' X (.ref b0 :: As) Kc) (kk : ∀ r X', Kc (.inl r) X' → AW G M pc' lv (r.toList ++ rest) X' (cc + mCc M') (ss + mSs M') K) (hno : ∀ E X', ¬ Kc (.inr E) X') : AW G M pc lv st X cc ss K := by
  subst hp
  subst hst
  refine aw_of_run (M' := M') (Kc := Kc) (rest := rest) #[] (fun p e s m args below meth c0 H locs ls ad ad0 n0 C F => ?_) (fun v hv => List.mem_append_right _ (List.mem_cons_of_mem _ hv)) kk (fun E X' h => absurd h (hno E X'))
  have hal : b0 ≤ hz X := F.2.2.2.2.1 (.ref b0) (List.mem_append_right _ List.mem_cons_self)
  have hM := hA ad (vok_c hal fun v hv => F.2.2.2.2.1 v (List.mem_append_left _ (List.mem_reverse.mpr hv)))
  have hstk : (As.reverse ++ Value.ref b0 :: rest).map (vm ad) = (As.map (vm ad)).reverse ++ .ref (ad b0) :: rest.map (vm ad) := by
    rw [List.map_append, List.map_reverse]
    rfl
  have hnx : ∀ (E : String) (st t : State), ¬ XcK G Kc ad (hz X) E st t := by
    intro E st t h
    obtain ⟨⟨X1, ad1, h1, -⟩, -⟩ := h
    exact hno _ _ h1
  have hw : mW M' = Cond.code (mY M') (mC M') (mN M') none :: lwG := by rw [mW_nil hh, hr]
  rw [hstk]
  exact run_of (va_runIN (R := mRm M) (b := ad b0) (As := As.map (vm ad)) (rest := rest.map (vm ad)) (host := RX4) ⟨C.1, C.2.1, C.2.2.2.1, C.2.2.2.2.1, C.2.2.2.2.2.1⟩ (met_of hM hnx) ⟨va_cnB As.length C.2.2.2.2.2.1 (good_W hm.2.2.2) hw rfl rfl (C.2.2.2.2.2.2.2.2.2.1.2.2.2.2.2.2.2.2.2.1 _ hl) (C.2.2.2.2.2.1 _ hm.2.2.1) hn hR, hm.1, C.2.2.2.2.2.1 _ hm.2.1⟩
    ⟨PcK_blind, fun U hU hW => ⟨rfl, by rw [hU]; exact F.1.moved hW.alike, by rw [hU]; exact C.2.2.2.2.2.2.2.2.2.1.go hW F.2.1⟩⟩ rfl (by rw [List.length_map]) F.2.2.1.1 rfl (lv_room (by rw [sum_vm]; exact hW8)) hd ⟨hcc, hss⟩)
/-- not caught: it goes on -/
theorem at_out {G : GG} {M : MM} {pc : Nat} {lv : List (Nat × Value)} {X : XH} {cc ss : Nat} {K : RK} {E : String} (hh : mH M = []) (hcc : cc ≤ mCc M) (hss : ss ≤ mSs M) (k : K (.inr E) X) : AT G M pc lv X cc ss K E := by
  intro p e s m args below meth c H locs ls ad ad0 n0 C F ce q9 rest h1 h2 h3
  refine vx_out (E := E) (ce := ce) (fun x hx => ?_) C.2.2.2.2.2.2.2.1 h1 h2 h3 (fun t ht hvm => ⟨⟨X, ad, k, ?_, F.2.2.2.2.2.1, F.2.2.2.2.2.2⟩, F.2.1.F ht⟩) F.2.1.2.2 hcc hss
  · rw [C.2.2.2.2.2.2.1, hh] at hx
    cases hx
  · rw [ht]
    exact F.1.moved hvm
/-- caught, and laid into a local that is read no more -/
theorem at_catch {G : GG} {M : MM} {pc : Nat} {lv lv' : List (Nat × Value)} {X : XH} {cc ss : Nat} {K : RK} {E : String} (pre : List (Nat × Nat × Nat × Nat)) (x : Nat × Nat × Nat × Nat) (suf : List (Nat × Nat × Nat × Nat)) (hh : mH M = pre ++ x :: suf)
    (hpass : ∀ z ∈ pre, z.2.2.2 ≠ 0 ∧ ∃ nm : String, Cond.classLink (mY M).cls z.2.2.2 nm ∈ lwG ∧ (E, nm) ∈ ncT) (hx : covers ⟨x.1, x.2.1, x.2.2.1, x.2.2.2⟩ pc = true) (h0 : x.2.2.2 ≠ 0) (hl : Cond.classLink (mY M).cls x.2.2.2 E ∈ lwG) (hE : E ∈ [xcI, xcA, xcS])
    (i ln pc' : Nat) (hd : (∃ j : Fin 4, (j : Nat) = i ∧ decode (mC M) x.2.2.1 = .ok (.astore_n j, 1) ∧ x.2.2.1 + 1 = pc') ∨ (decode (mC M) x.2.2.1 = .ok (.astore i, 2) ∧ x.2.2.1 + 2 = pc')) (hn : i < mN M) (hlv : ∀ q ∈ lv', q ∈ lv ∧ (!(q.1 == i) && !(q.1 + 1 == i && q.2.category == 2)) = true)
    (k : AW G M pc' lv' [] X cc ss K) : AT G M pc lv X cc ss K E := by
  intro p e s m args below meth c H locs ls ad ad0 n0 C F ce q9 rest h1 h2 h3
  have hst := C.2.2.2.2.2.2.2.2.2.1
  refine vx_catch (own := (mY M).cls) (name := E) C.2.2.2.2.1 (tableOf pre) ⟨x.1, x.2.1, x.2.2.1, x.2.2.2⟩ (tableOf suf) ?_ (fun z hz => Or.inr ?_) hx h0 (C.2.2.2.2.2.1 _ hl) ((hst.2.2.2.2.2.2.2.2.2.2.1 E hE).use rfl) h1 h2 h3 ?_
  · rw [C.2.2.2.2.2.2.1, hh]
    unfold tableOf
    rw [List.map_append]
    rfl
  · obtain ⟨z', hz', rfl⟩ := List.mem_map.mp hz
    obtain ⟨g1, nm, g2, g3⟩ := hpass z' hz'
    exact ⟨g1, nm, C.2.2.2.2.2.1 _ g2, hst.2.2.2.2.2.2.2.2.1 _ g3⟩
  · have fin : ∀ ls1 : Array Slot, lv_has ls1 (mN M) ((i, Value.ref q9) :: (lvm ad lv).filter (fun q => !(q.1 == i) && !(q.1 + 1 == i && q.2.category == 2))) → W p G.1 e (mRm M) s m args below meth c H locs cc ss (vx_MQ below (QcK G K ad0 n0) (XcK G K ad0 n0) args s (mCc M) (mSs M) (gA G)) (F0 m pc' ls1 []) := by
      intro ls1 hl1
      refine k p e s m args below meth c H locs ls1 ad ad0 n0 C ⟨F.1, F.2.1, ⟨hl1.1, hl1.2.1, fun q hq => ?_⟩, fun q hq => F.2.2.2.1 q (hlv q hq).1, F.2.2.2.2⟩
      obtain ⟨q', hq', rfl⟩ := List.mem_map.mp hq
      refine hl1.2.2 _ (List.mem_cons_of_mem _ (List.mem_filter.mpr ⟨List.mem_map.mpr ⟨q', (hlv q' hq').1, rfl⟩, ?_⟩))
      have := (hlv q' hq').2
      simpa [vm_cat] using this
    rcases hd with ⟨j, hj, hd, rfl⟩ | ⟨hd, rfl⟩
    · exact lv_astore_n C.1 C.2.1 hd hj F.2.2.1 hn rfl fin
    · exact lv_astore C.1 C.2.1 hd F.2.2.1 hn rfl fin
/-- 'throw new E("text")' -/
def tnm : List String := ["java/lang/RuntimeException", "java/lang/Exception"]
def thOk (E : String) (ik ic : Nat) : Prop := Bundle.fit E = true ∧ Cond.classLink RX4 ik E ∈ lwG ∧ Cond.initialized E ∈ lwG ∧ (∀ w ∈ (vx_atS RX4 ic E tnm).filter goodWord, w ∈ lwG) ∧ (∀ w ∈ (vx_atS RX4 ic E tnm).filter (fun w => !goodWord w), w ∈ [Cond.castable E E, Cond.declares (Bundle.initS "java/lang/RuntimeException"), Cond.declares (Bundle.initS "java/lang/Exception"), Cond.declares (Bundle.initS "java/lang/Throwable")]) ∧ (∀ w ∈ Cond.classLink RX4 ik E :: Cond.initialized E :: vx_atS RX4 ic E tnm, vx_ot w = true) ∧ E ∈ [xcI, xcA, xcS]
theorem aw_throw {G : GG} {M : MM} {pc : Nat} {lv : List (Nat × Value)} {st : List Value} {X : XH} {cc ss : Nat} {K : RK} (E : String) (ik is ic : Nat) (hown : (mY M).cls = RX4) (ht : thOk E ik ic) (his : is ∈ strT)
    (hd : (decode (mC M) pc = .ok (.new ik, 3) ∧ decode (mC M) (pc + 3) = .ok (.dup, 1) ∧ decode (mC M) (pc + 4) = .ok (.ldc is, 2) ∧ decode (mC M) (pc + 6) = .ok (.invokespecial ic, 3) ∧ decode (mC M) (pc + 9) = .ok (.athrow, 1)) ∨
      (decode (mC M) pc = .ok (.new ik, 3) ∧ decode (mC M) (pc + 3) = .ok (.dup, 1) ∧ decode (mC M) (pc + 4) = .ok (.ldc_w is, 3) ∧ decode (mC M) (pc + 7) = .ok (.invokespecial ic, 3) ∧ decode (mC M) (pc + 10) = .ok (.athrow, 1)))
    (hh : mH M = []) (hF : 5 < mF M) (hL : (st.map fun v => v.category).sum + 82 ≤ mLo M) (hcc : cc + 1 ≤ mCc M) (hss : ss + 6 ≤ mSs M) (k : K (.inr E) X) : AW G M pc lv st X cc ss K := by
  intro p e s m args below meth c H locs ls ad ad0 n0 C F
  have hst := C.2.2.2.2.2.2.2.2.2.1
  obtain ⟨tx, sa, hstr⟩ := hst.2.2.2.2.2.2.1 is his
  obtain ⟨t1, t2, t3, t4, t5, t6, t7⟩ := ht
  have hown' : s.vm.findClass RX4 = some m.cls := by rw [← hown]; exact C.2.2.2.2.1
  have hat : ∀ w ∈ vx_atS RX4 ic E tnm, w.before args s = true := vx_hat (fun w hw => C.2.2.2.2.2.1 _ (t4 w hw)) t5 (vx_c ((hst.2.2.2.2.2.2.2.2.2.2.1 E t7).use rfl) (vx_c ((hst.2.2.2.2.2.2.2.2.2.2.2 _ (by decide)).use rfl) (vx_c ((hst.2.2.2.2.2.2.2.2.2.2.2 _ (by decide)).use rfl) (vx_c ((hst.2.2.2.2.2.2.2.2.2.2.2 _ (by decide)).use rfl) vx_n))))
  have hout : ∀ q : Nat, ∀ x ∈ c.exceptionTable.toList, covers x q = false := by
    intro q x hx
    rw [C.2.2.2.2.2.2.1, hh] at hx
    cases hx
  have hL' : (((st.map (vm ad)).map fun v => v.category).sum) + (13 * (tnm.length + 1) + 43) ≤ (mRm M).locals := by
    rw [sum_vm]
    exact hL
  obtain ⟨D, ca, tys, hK, hP, hD, hA', hRz, hz0, hb⟩ := id F.1
  have hxc : ∀ t : State, s.vm.Alike t.vm → H.size ≤ t.heap.size → (∀ q : Nat, q < H.size → t.heap[q]? = H[q]?) → XcK G K ad0 n0 E s t := by
    intro t hvm g1 g2
    refine ⟨⟨X, ad, k, ⟨D, ca, tys, hK.moved hvm, hP.kept (fun j q hj => g2 _ (hP j q hj).lt), hD, hA', hRz, hz0, hb⟩, F.2.2.2.2.2.1, F.2.2.2.2.2.2⟩, Nat.le_trans F.2.1.1 g1, fun q h1 h2 => ?_⟩
    rw [g2 q (Nat.lt_of_lt_of_le h1 F.2.1.1)]
    exact F.2.1.2.1 q h1 h2
  rcases hd with ⟨d0, d3, d4, d6, d9⟩ | ⟨d0, d3, d4, d6, d9⟩
  · exact vx_throwS C.1 C.2.1 C.2.2.2.2.2.2.2.2.1 (names := tnm) hown' t1 (by decide +kernel) (C.2.2.2.2.2.1 _ t2) (C.2.2.2.2.2.1 _ t3) hstr hat t6 hst.1 hst.2.1 F.2.1 (F.2.2.1.1.trans C.2.2.2.1.symm) d0 d3 d4 d6 d9 (hout _) hF hL' hcc hss C.2.2.2.2.2.2.2.1 hxc F.2.1.2.2 hcc hss
  · exact vx_throwSW C.1 C.2.1 C.2.2.2.2.2.2.2.2.1 (names := tnm) hown' t1 (by decide +kernel) (C.2.2.2.2.2.1 _ t2) (C.2.2.2.2.2.1 _ t3) hstr hat t6 hst.1 hst.2.1 F.2.1 (F.2.2.1.1.trans C.2.2.2.1.symm) d0 d3 d4 d6 d9 (hout _) hF hL' hcc hss C.2.2.2.2.2.2.2.1 hxc F.2.1.2.2 hcc hss
/-- Object's constructor -/
theorem aw_objinit {G : GG} {M : MM} {pc : Nat} {lv : List (Nat × Value)} {st : List Value} {X : XH} {cc ss : Nat} {K : RK} (pc' : Nat) {idx a : Nat} (hd : decode (mC M) pc = .ok (.invokespecial idx, 3)) (h1 : Cond.methodLink (mY M).cls idx Lib.objectInit ∈ lwG) (h2 : Cond.instanceMethod Lib.objectInit ∈ lwG) (h3 : Cond.code Lib.objectInit ⟨#[0xb1]⟩ 1 none ∈ lwG) (hF : 1 ≤ mF M) (hL : (st.map fun v => v.category).sum + 12 ≤ mLo M) (hp : pc + 3 = pc') (k : AW G M pc' lv st X cc ss K) : AW G M pc lv (.ref a :: st) X cc ss K := by
  subst hp
  refine aw_pure (fun ad C hl k => ?_) (fun n h1 h2 => vok_t h2) k
  refine W.objInit C.1 C.2.1 C.2.2.2.2.1 (C.2.2.2.2.2.1 _ h1) (C.2.2.2.2.2.1 _ h2) (C.2.2.2.2.2.1 _ h3) rfl (hl.1.trans C.2.2.2.1.symm) rfl hd hF ?_ k
  show 2 * 0 + _ + 12 ≤ mLo M
  rw [sum_vm]
  omega
def mxOk (own : String) (idx : Nat) (y : MethodName) (code : ByteArray) : Prop := Cond.methodLink own idx y ∈ lwG ∧ Cond.static y ∈ lwG ∧ Cond.initialized "java/lang/Math" ∈ lwG ∧ Cond.code y code 2 (some .int) ∈ lwG
theorem aw_mmin {G : GG} {M : MM} {pc : Nat} {lv : List (Nat × Value)} {st : List Value} {X : XH} {cc ss : Nat} {K : RK} (pc' : Nat) {idx : Nat} {x y : Int32} (hd : decode (mC M) pc = .ok (.invokestatic idx, 3)) (h : mxOk (mY M).cls idx Lib.Math.min.name Lib.Math.min.code) (hF : 1 ≤ mF M) (hL : (st.map fun v => v.category).sum + 13 ≤ mLo M) (hcc : cc ≤ mCc M) (hss : ss ≤ mSs M) (hp : pc + 3 = pc') (k : AW G M pc' lv (.int (if y < x then y else x) :: st) X cc ss K) : AW G M pc lv (.int y :: .int x :: st) X cc ss K := by
  subst hp
  refine aw_pure (fun ad C hl k => ?_) (fun n h1 h2 => vok_c vok_int (vok_t (vok_t h2))) k
  refine va_mmin C.1 C.2.1 (C.2.2.2.1.trans hl.1.symm) C.2.2.2.2.1 (C.2.2.2.2.2.1 _ h.1) (C.2.2.2.2.2.1 _ h.2.1) (C.2.2.2.2.2.1 _ h.2.2.1) (C.2.2.2.2.2.1 _ h.2.2.2) hF ?_ hcc hss hd k
  rw [sum_vm]
  exact hL
theorem aw_mmax {G : GG} {M : MM} {pc : Nat} {lv : List (Nat × Value)} {st : List Value} {X : XH} {cc ss : Nat} {K : RK} (pc' : Nat) {idx : Nat} {x y : Int32} (hd : decode (mC M) pc = .ok (.invokestatic idx, 3)) (h : mxOk (mY M).cls idx Lib.Math.max.name Lib.Math.max.code) (hF : 1 ≤ mF M) (hL : (st.map fun v => v.category).sum + 13 ≤ mLo M) (hcc : cc ≤ mCc M) (hss : ss ≤ mSs M) (hp : pc + 3 = pc') (k : AW G M pc' lv (.int (if x < y then y else x) :: st) X cc ss K) : AW G M pc lv (.int y :: .int x :: st) X cc ss K := by
  subst hp
  refine aw_pure (fun ad C hl k => ?_) (fun n h1 h2 => vok_c vok_int (vok_t (vok_t h2))) k
  refine va_mmax C.1 C.2.1 (C.2.2.2.1.trans hl.1.symm) C.2.2.2.2.1 (C.2.2.2.2.2.1 _ h.1) (C.2.2.2.2.2.1 _ h.2.1) (C.2.2.2.2.2.1 _ h.2.2.1) (C.2.2.2.2.2.1 _ h.2.2.2) hF ?_ hcc hss hd k
  rw [sum_vm]
  exact hL
theorem aw_d2raw {G : GG} {M : MM} {pc : Nat} {lv : List (Nat × Value)} {st : List Value} {X : XH} {cc ss : Nat} {K : RK} (pc' : Nat) {idx : Nat} {x : UInt64} (hd : decode (mC M) pc = .ok (.invokestatic idx, 3)) (h1 : Cond.methodLink (mY M).cls idx ⟨"java/lang/Double", "doubleToRawLongBits", "(D)J"⟩ ∈ lwG) (h2 : Cond.native ⟨"java/lang/Double", "doubleToRawLongBits", "(D)J"⟩ ∈ lwG) (h3 : Cond.static ⟨"java/lang/Double", "doubleToRawLongBits", "(D)J"⟩ ∈ lwG) (h4 : Cond.initialized "java/lang/Double" ∈ lwG) (hF : 1 ≤ mF M) (hL : (st.map fun v => v.category).sum + 15 ≤ mLo M) (hp : pc + 3 = pc') (k : AW G M pc' lv (.long x.toInt64 :: st) X cc ss K) : AW G M pc lv (.double x :: st) X cc ss K := by
  subst hp
  refine aw_pure (fun ad C hl k => ?_) (fun n h1 h2 => vok_c vok_long (vok_t h2)) k
  refine vn_d2l C.1 C.2.1 (C.2.2.2.1.trans hl.1.symm) C.2.2.2.2.1 (C.2.2.2.2.2.1 _ h1) (C.2.2.2.2.2.1 _ h2) (C.2.2.2.2.2.1 _ h3) (C.2.2.2.2.2.1 _ h4) hF ?_ hd k
  rw [sum_vm]
  exact hL
theorem aw_copy {G : GG} {M : MM} {pc : Nat} {lv : List (Nat × Value)} {st : List Value} {X : XH} {cc ss : Nat} {K : RK} (pc' : Nat) {idx a0 a1 : Nat} {sp dp n : Int32} (hd : decode (mC M) pc = .ok (.invokestatic idx, 3)) (h1 : Cond.methodLink (mY M).cls idx arraycopyName ∈ lwG) (h2 : Cond.native arraycopyName ∈ lwG) (h3 : Cond.static arraycopyName ∈ lwG) (h4 : Cond.initialized "java/lang/System" ∈ lwG)
    (ht0 : hty X a0 = 100) (ht1 : hty X a1 = 100) (g1 : ¬ sp < 0) (g2 : ¬ dp < 0) (g3 : ¬ n < 0) (g4 : sp.toNatClampNeg + n.toNatClampNeg ≤ hln X a0) (g5 : dp.toNatClampNeg + n.toNatClampNeg ≤ hln X a1) (hF : 1 ≤ mF M) (hL : (st.map fun v => v.category).sum + (nativeFrameWords "java/lang/System" "arraycopy" 5 + 11) ≤ mLo M) (hp : pc + 3 = pc') (k : AW G M pc' lv st (sIr X a1 (va_cpy (hI X a0) (hI X a1) sp.toNatClampNeg dp.toNatClampNeg n.toNatClampNeg)) cc ss K) : AW G M pc lv (.int n :: .int dp :: .ref a1 :: .int sp :: .ref a0 :: st) X cc ss K := by
  subst hp
  intro p e s m args below meth c0 H locs ls ad ad0 n0 C F
  have ha0 : a0 ≠ 0 := F.ne (by omega)
  have ha1 : a1 ≠ 0 := F.ne (by omega)
  have hal0 : a0 ≤ hz X := F.2.2.2.2.1 (.ref a0) (by simp)
  have hal1 : a1 ≤ hz X := F.2.2.2.2.1 (.ref a1) (by simp)
  obtain ⟨D, ca, tys, hK, hP, hD, hA, hRz, hz0, hb⟩ := id F.1
  have he0 := wsO_get (ad := ad) (ca := ca) ha0 hal0
  have he1 := wsO_get (ad := ad) (ca := ca) ha1 hal1
  rw [ob_arr (by omega) ht0] at he0
  rw [ob_arr (by omega) ht1] at he1
  obtain ⟨t0, hy0⟩ := hA a0 ha0 hal0 (by omega)
  obtain ⟨t1, hy1⟩ := hA a1 ha1 hal1 (by omega)
  rw [ht0] at hy0
  rw [ht1] at hy1
  refine va_copyi C.1 C.2.1 (C.2.2.2.1.trans F.2.2.1.1.symm) C.2.2.2.2.1 (C.2.2.2.2.2.1 _ h1) (C.2.2.2.2.2.1 _ h2) (C.2.2.2.2.2.1 _ h3) (C.2.2.2.2.2.1 _ h4) hK hP hD F.2.1 (a0 - 1) (a1 - 1) t0 t1 he0 he1 hy0 hy1 rfl g1 g2 g3 g4 g5 (fun i hi => rfl) hF (by rw [sum_vm]; exact hL) hd (fun H1 locs1 hP1 hD1 hS1 => k p e s m args below meth c0 H1 locs1 ls ad ad0 n0 C (F.put rfl (RepO.put ha1 hK hA hz0 hb hP1 hD1 ?_ rfl rfl (fun i hi => ob_sIr hi) hRz) hS1 (fun v hv => by simp [hv])))
  rw [ob_arr (X := sIr X a1 (va_cpy (hI X a0) (hI X a1) sp.toNatClampNeg dp.toNatClampNeg n.toNatClampNeg)) (t := 100) (by omega) ht1]
  show _ = Sum.inl (ca a1, hln X a1, Sum.inl (up1 (hI X) a1 _ a1))
  rw [up1_eq]
end XC
