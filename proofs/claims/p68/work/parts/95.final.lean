/-! from the walk of the law to the claim -/
section FN
def strX : List (Nat × String) := [(426, "there is no such reel"), (428, "there is no such state"), (432, "a number is out of range"), (62, "there are 24 clauses"), (423, "there is no such clause"), (86, "the clause is recorded, or its sigh is longer"), (99, "the clause is recorded, or its lips are shorter"), (107, "the clause is recorded, or in this reel already"), (430, "there is no such tongue"), (123, "the clause is recorded in this tongue"), (137, "these frames can't be annexed"), (148, "nothing is annexed, or the clause is recorded in this tongue"), (156, "the voice was used for more frames in this session"), (167, "there is a reason against recording the clause"), (436, "the clause is not recorded in this tongue"), (190, "the session would be above 999"), (204, "the reel is mixed already, or is not complete"), (218, "the state can't sign the reel"), (229, "the buffer has 60 characters"), (244, "the buffer does not tell clauses as a text"), (253, "there would be too many clauses, or too long a sigh"), (275, "there is no snapshot in the slot"), (278, "there is no saved state"), (434, "the clause is not translated"), (438, "something that is ready is longer than the stamina"), (343, "less than 1 frame would be left"), (348, "some translation does not fit without a sigh, either"), (353, "there is no clause that can be recorded now")]
theorem strX_q : ∀ q, q ∈ strT → ∃ tx, (q, tx) ∈ strX := by
  intro q hq
  have h : ∀ q, q ∈ strT → (strX.find? (fun p => p.1 == q)).isSome = true := by decide +kernel
  have h1 := h q hq
  cases e : strX.find? (fun p => p.1 == q) with
  | none =>
    rw [e] at h1
    exact nomatch h1
  | some p =>
    have e1 : p.1 = q := by simpa using List.find?_some e
    refine ⟨p.2, ?_⟩
    rw [← e1]
    exact List.mem_of_find?_eq_some e
theorem tT {w : Cond} (h : w ∈ tables_1) : w ∈ lw_tbl := List.mem_append_right _ h
theorem f_str : ∀ p, p ∈ strX → Cond.stringRef RX4 p.1 p.2 ∈ tables_1 := by decide +kernel
theorem f_ex : ∀ p, p ∈ strX → Cond.exactly (.string RX4 p.1) "java/lang/String" ∈ flatC (Jvm.Cond.and given_1 narrow_1) := by decide +kernel
theorem f_nest : ∀ q, q ∈ nestT → Cond.methodLinkNest q.1 q.2.1 q.2.2 RX4 ∈ tables_1 := by decide +kernel
theorem f_cast : ∀ q, q ∈ [xcI, xcA, xcS] → Cond.castable q q ∈ tables_1 := by decide +kernel
theorem f_decl : ∀ q, q ∈ declT → Cond.declares (Bundle.initS q) ∈ tables_1 := by decide +kernel
theorem f_nc : ∀ q, q ∈ ncT → Cond.not (.castable q.1 q.2) ∈ flatC (Jvm.Cond.and given_1 narrow_1) := by decide +kernel
theorem f_ao : Cond.arrayOver (.object RX3) ∈ tables_1 := by decide +kernel
theorem f_l1 : Cond.laysStatic Bundle.tN "UNASSIGNED_STACK" Bundle.steD ∈ tables_1 := by decide +kernel
theorem f_l2 : Cond.laysStatic Bundle.tN "SUPPRESSED_SENTINEL" Bundle.listD ∈ tables_1 := by decide +kernel
theorem f_in : Cond.initialized Bundle.tN ∈ tables_1 := by decide +kernel
theorem f_r1 : Cond.isRef (.static Bundle.tN "UNASSIGNED_STACK" Bundle.steD) ∈ flatC (Jvm.Cond.and given_1 narrow_1) := by decide +kernel
theorem f_r2 : Cond.isRef (.static Bundle.tN "SUPPRESSED_SENTINEL" Bundle.listD) ∈ flatC (Jvm.Cond.and given_1 narrow_1) := by decide +kernel
def X00 : XH := (0, fun _ => 99, fun _ => 0, fun _ _ => 0, fun _ _ => 0, fun _ _ => 0, fun _ _ => 0)
theorem B00 : BI X00 0 (fun _ _ => 0) [] := ⟨rfl, fun a ha => by
  have e : a = 0 := by omega
  subst e
  exact ⟨by decide, by decide, fun _ => rfl⟩, fun _ _ _ => rfl, fun p hp => nomatch hp⟩
theorem st_Stat {l : Launch} {s : State} {b L : Nat} {xs : Nat → Int32} (hts : ∀ w ∈ lw_tbl, w.before #[Value.ref b] s = true) (hX : va_X b L xs s s.heap) (hb : b < s.heap.size) (hg : (Jvm.Cond.and given_1 narrow_1).before #[Value.ref b] s = true) : Stat (l, b, L, xs, s.heap.size) s s.heap := by
  have hf := flat_of_before _ hg
  have hA : ∀ a : Nat, a < s.heap.size → ¬ gA (l, b, L, xs, s.heap.size) a := fun a ha h => absurd (show s.heap.size ≤ a from h) (by omega)
  refine ⟨vx_Zqof (hts _ (tT f_l1)) (hts _ (tT f_in)) (hf _ f_r1) hA, vx_Zqof (hts _ (tT f_l2)) (hts _ (tT f_in)) (hf _ f_r2) hA, hX, hb, hA b hb, Nat.le_refl _, fun q hq => ?_, va_AO.of (hts _ (tT f_ao)), fun q hq => va_Nc.of (hf _ (f_nc q hq)), fun q hq => va_Nw.of rfl (hts _ (tT (f_nest q hq))), fun q hq => va_Nw.of rfl (hts _ (tT (f_cast q hq))), fun q hq => va_Nw.of rfl (hts _ (tT (f_decl q hq)))⟩
  obtain ⟨tx, htx⟩ := strX_q q hq
  obtain ⟨a, -, -, -, ha, -⟩ := Cond.exactly_spec (hf _ (f_ex _ htx))
  exact ⟨tx, a, vk_R.of (hts _ (tT (f_str _ htx))) ha⟩
theorem f_inst : ∀ c, c < 5 → ∃ n, Cond.instantiable (xT c).1 n ∈ tables_1 := by
  intro c hc
  have h : ∀ c, c < 5 → ((List.range 40).any fun n => decide (Cond.instantiable (xT c).1 n ∈ tables_1)) = true := by decide +kernel
  have h1 := h c hc
  simp only [List.any_eq_true, decide_eq_true_eq] at h1
  obtain ⟨n, -, h2⟩ := h1
  exact ⟨n, h2⟩
theorem st_K {s : State} {args : Array Value} (hts : ∀ w ∈ lw_tbl, w.before args s = true) : ∃ D : va_G, va_K D vwCl [] s := by
  have h : ∀ c, ∃ q : ClassId × (Nat → Nat), c < 5 → u_Kn s (xT c).1 (xT c).2.1 (xT c).2.2 q.1 q.2 := by
    intro c
    by_cases hc : c < 5
    · obtain ⟨n, hn⟩ := f_inst c hc
      obtain ⟨cC, iS, hK⟩ := u_known (ws := lwG) (fun w hw => hts w (List.mem_filter.mp hw).1) (xIn c hc) (hts _ (tT hn))
      exact ⟨(cC, iS), fun _ => hK⟩
    · exact ⟨(0, fun _ => 0), fun h => absurd h hc⟩
  refine ⟨(fun c => (Classical.choose (h c)).1, fun c => (Classical.choose (h c)).2), fun c q hq => ?_, fun k q hk => nomatch hk⟩
  have hc : c < 5 := (List.getElem?_eq_some_iff.mp hq).1
  have e : xT c = q := Option.some.inj ((xT_cl c hc).symm.trans hq)
  rw [← e]
  exact Classical.choose_spec (h c) hc
theorem st_Rep {l : Launch} {s : State} {b L : Nat} {xs : Nat → Int32} (hts : ∀ w ∈ lw_tbl, w.before #[Value.ref b] s = true) : RepO (l, b, L, xs, s.heap.size) X00 (fun _ => b) s s.heap := by
  obtain ⟨D, hK⟩ := st_K hts
  have e0 : wsO X00 (fun _ => b) (fun _ => 0) = [] := rfl
  refine ⟨D, fun _ => 0, [], hK, ?_, ?_, fun a h1 h2 => absurd (show a ≤ 0 from h2) (by omega), fun _ _ => Nat.le_refl 0, rfl, rfl⟩
  · rw [e0]
    intro k q hq
    exact nomatch hq
  · rw [e0]
    exact ⟨fun i j p q hp => (nomatch hp), fun k q hq => (nomatch hq)⟩
theorem whole_start2 {p : Program} {e : Env} {s : State} {m : MethodId} {below : List Frame} {meth : Method} {c : Code} (l : Launch) (hflags : l.flags = flags0) {b L : Nat} {xs : Nat → Int32} (hL : L ≤ 260) (htab : ∀ x ∈ c.exceptionTable.toList, False) (hnm : meth.name = x.name) (C0 : lw_At p s m meth c b L xs) : W p l e room_1 s m #[Value.ref b] below meth c s.heap [] 0 0 (lw_Z below #[Value.ref b] s) (entryFrame m ([Value.ref b] : List Value).toArray 9) := by
  obtain ⟨c1, c2, c3, c4, c5, c6, c7, c8, c9, c10⟩ := C0
  have hst : l.stackTraces = false := by
    unfold Launch.stackTraces
    rw [hflags]
    decide
  have k := am_L_law (G := (l, b, L, xs, s.heap.size)) (X := X00) (K := fun v _ => v = 1) hst (i_law hst (Nat.le_trans hL (by decide)) (fun _ => rfl) B00)
  have hl := lv_entry ([Value.ref 0].map (vm (fun _ => b))) (n := mN M_L_law) (by rw [lg_sl_len]; decide)
  have kW : W p l e (mRm M_L_law) s m #[Value.ref b] below meth c s.heap [] 0 0 (vx_MQ below (QcK (l, b, L, xs, s.heap.size) (KrI fun v _ => v = 1) (fun _ => b) 0) (XcK (l, b, L, xs, s.heap.size) (KrI fun v _ => v = 1) (fun _ => b) 0) #[Value.ref b] s (mCc M_L_law) (mSs M_L_law) (gA (l, b, L, xs, s.heap.size))) (entryFrame m (([Value.ref 0].map (vm (fun _ => b))).toArray) (mN M_L_law)) := by
    rw [lg_entry_eq]
    refine k p e s m _ below meth c s.heap [] _ (fun _ => b) (fun _ => b) 0 ⟨c1, c2, c3, c4, c5, fun w hw => c6 w (List.mem_filter.mp hw).1, ?_, c9, hst, st_Stat c6 c7 c8 c10, hnm⟩ ⟨st_Rep c6, va_S.rf, ?_, ?_, (fun _ h => nomatch h), Nat.le_refl _, fun _ _ => rfl⟩
    · show _ = ([] : List _)
      exact List.eq_nil_iff_forall_not_mem.mpr htab
    · exact hl
    · intro q hq
      have e : q = (0, Value.ref 0) := by simpa using hq
      rw [e]
      exact Nat.zero_le _
  intro T hT X
  obtain ⟨t, a1, o, b1, b2, b3⟩ := kW T hT X
  rcases b3 with ⟨⟨⟨r, X1, ad, e1, ⟨v, e2, e3⟩, -⟩, -⟩, L', ⟨hv, hW, hS⟩, hfree⟩ | ⟨q, -, E, ce, L', ⟨⟨X1, ad, hK, -⟩, -⟩, -⟩
  · have er : r = some (.int v) := Sum.inl.inj e2
    have ev : v = 1 := e3
    rw [er, ev] at e1
    refine ⟨t, a1, o, b1, b2, e1, ?_⟩
    refine lw_closed (d0 := s.drawn) (Drawn.sameBut.refl s.drawn lw_cs) hv hW ?_
    obtain ⟨s1, s2, s3, s4, s5, s6⟩ := hS
    refine ⟨s1, s2, s3, s4, s5, fun a c hc => ?_⟩
    obtain ⟨c', h1, h2, h3, h4⟩ := s6 a c hc
    refine ⟨c', h1, h2, h3, fun i _ => h4 i (fun hm => ?_)⟩
    have hsz : a < s.heap.size := (Array.getElem?_eq_some_iff.mp hc).1
    exact absurd (show s.heap.size ≤ a from hfree _ hm) (Nat.not_le_of_lt hsz)
  · exact absurd hK (KrI.no _ _)
end FN
