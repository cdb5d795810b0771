/-! THE ABSTRACT MACHINE'S INSTRUCTIONS: stack and locals -/
section XI
theorem vok_int {n : Nat} {x : Int32} : vok n (.int x) := trivial
theorem vok_long {n : Nat} {x : Int64} : vok n (.long x) := trivial
theorem vok_double {n : Nat} {x : UInt64} : vok n (.double x) := trivial
theorem vok_c {n : Nat} {v : Value} {st : List Value} (h : vok n v) (hs : ∀ v ∈ st, vok n v) : ∀ w ∈ v :: st, vok n w := fun w hw => (List.mem_cons.mp hw).elim (fun e => by rw [e]; exact h) (hs w)
theorem vok_t {n : Nat} {v : Value} {st : List Value} (hs : ∀ w ∈ v :: st, vok n w) : ∀ w ∈ st, vok n w := fun w hw => hs w (List.mem_cons_of_mem _ hw)
theorem AF.st {G : GG} {M : MM} {X : XH} {lv : List (Nat × Value)} {st st' : List Value} {ad ad0 : Nat → Nat} {n0 : Nat} {s : State} {H : Heap} {locs : List Loc} {ls : Array Slot} (h : AF G M X lv st ad ad0 n0 s H locs ls) (hs : ∀ v ∈ st', vok (hz X) v) : AF G M X lv st' ad ad0 n0 s H locs ls := ⟨h.1, h.2.1, h.2.2.1, h.2.2.2.1, hs, h.2.2.2.2.2⟩
theorem lv_mem {lv : List (Nat × Value)} (k : Nat) {i : Nat} {v : Value} (h : lv[k]? = some (i, v)) : (i, v) ∈ lv := List.mem_of_getElem? h

theorem aw_iconst {G : GG} {M : MM} {pc : Nat} {lv : List (Nat × Value)} {st : List Value} {X : XH} {cc ss : Nat} {K : RK} (pc' : Nat) {n : Int} {v : Int32} (hd : decode (mC M) pc = .ok (.iconst n, 1)) (hv : Int32.ofInt n = v) (hp : pc + 1 = pc') (k : AW G M pc' lv (.int v :: st) X cc ss K) : AW G M pc lv st X cc ss K := by
  subst hp
  exact aw_pure (fun ad C hl k => lv_iconst C.1 C.2.1 hd hv k) (fun n h1 h2 => vok_c vok_int h2) k
theorem aw_bipush {G : GG} {M : MM} {pc : Nat} {lv : List (Nat × Value)} {st : List Value} {X : XH} {cc ss : Nat} {K : RK} (pc' : Nat) {n : Int} {v : Int32} (hd : decode (mC M) pc = .ok (.bipush n, 2)) (hv : (Int8.ofInt n).toInt32 = v) (hp : pc + 2 = pc') (k : AW G M pc' lv (.int v :: st) X cc ss K) : AW G M pc lv st X cc ss K := by
  subst hp
  exact aw_pure (fun ad C hl k => lv_bipush C.1 C.2.1 hd hv k) (fun n h1 h2 => vok_c vok_int h2) k
theorem aw_sipush {G : GG} {M : MM} {pc : Nat} {lv : List (Nat × Value)} {st : List Value} {X : XH} {cc ss : Nat} {K : RK} (pc' : Nat) {n : Int} {v : Int32} (hd : decode (mC M) pc = .ok (.sipush n, 3)) (hv : (Int16.ofInt n).toInt32 = v) (hp : pc + 3 = pc') (k : AW G M pc' lv (.int v :: st) X cc ss K) : AW G M pc lv st X cc ss K := by
  subst hp
  exact aw_pure (fun ad C hl k => lv_sipush C.1 C.2.1 hd hv k) (fun n h1 h2 => vok_c vok_int h2) k
theorem aw_lconst {G : GG} {M : MM} {pc : Nat} {lv : List (Nat × Value)} {st : List Value} {X : XH} {cc ss : Nat} {K : RK} (pc' : Nat) {n : Fin 2} {v : Int64} (hd : decode (mC M) pc = .ok (.lconst n, 1)) (hv : Int64.ofNat (n : Nat) = v) (hp : pc + 1 = pc') (k : AW G M pc' lv (.long v :: st) X cc ss K) : AW G M pc lv st X cc ss K := by
  subst hp
  exact aw_pure (fun ad C hl k => lv_lconst C.1 C.2.1 hd hv k) (fun n h1 h2 => vok_c vok_long h2) k
theorem aw_dconst0 {G : GG} {M : MM} {pc : Nat} {lv : List (Nat × Value)} {st : List Value} {X : XH} {cc ss : Nat} {K : RK} (pc' : Nat)  (hd : decode (mC M) pc = .ok (.dconst 0, 1))  (hp : pc + 1 = pc') (k : AW G M pc' lv (.double FP.dconst0 :: st) X cc ss K) : AW G M pc lv st X cc ss K := by
  subst hp
  exact aw_pure (fun ad C hl k => lv_dconst0 C.1 C.2.1 hd k) (fun n h1 h2 => vok_c vok_double h2) k
theorem aw_dconst1 {G : GG} {M : MM} {pc : Nat} {lv : List (Nat × Value)} {st : List Value} {X : XH} {cc ss : Nat} {K : RK} (pc' : Nat)  (hd : decode (mC M) pc = .ok (.dconst 1, 1))  (hp : pc + 1 = pc') (k : AW G M pc' lv (.double FP.dconst1 :: st) X cc ss K) : AW G M pc lv st X cc ss K := by
  subst hp
  exact aw_pure (fun ad C hl k => lv_dconst1 C.1 C.2.1 hd k) (fun n h1 h2 => vok_c vok_double h2) k
theorem aw_ldc {G : GG} {M : MM} {pc : Nat} {lv : List (Nat × Value)} {st : List Value} {X : XH} {cc ss : Nat} {K : RK} (pc' : Nat) {i : Nat} {v : Int32} (hd : decode (mC M) pc = .ok (.ldc i, 2)) (hw : Jvm.Cond.constant (mY M).cls i v ∈ lwG) (hp : pc + 2 = pc') (k : AW G M pc' lv (.int v :: st) X cc ss K) : AW G M pc lv st X cc ss K := by
  subst hp
  exact aw_pure (fun ad C hl k => lv_ldc C.1 C.2.1 C.2.2.2.2.1 (C.2.2.2.2.2.1 _ hw) hd k) (fun n h1 h2 => vok_c vok_int h2) k
theorem aw_ldc2 {G : GG} {M : MM} {pc : Nat} {lv : List (Nat × Value)} {st : List Value} {X : XH} {cc ss : Nat} {K : RK} (pc' : Nat) {i : Nat} {v : Int64} (hd : decode (mC M) pc = .ok (.ldc2_w i, 3)) (hw : Jvm.Cond.constantLong (mY M).cls i v ∈ lwG) (hp : pc + 3 = pc') (k : AW G M pc' lv (.long v :: st) X cc ss K) : AW G M pc lv st X cc ss K := by
  subst hp
  exact aw_pure (fun ad C hl k => lv_ldc2 C.1 C.2.1 C.2.2.2.2.1 (C.2.2.2.2.2.1 _ hw) hd k) (fun n h1 h2 => vok_c vok_long h2) k
theorem aw_ldc2d {G : GG} {M : MM} {pc : Nat} {lv : List (Nat × Value)} {st : List Value} {X : XH} {cc ss : Nat} {K : RK} (pc' : Nat) {i : Nat} {v : UInt64} (hd : decode (mC M) pc = .ok (.ldc2_w i, 3)) (hw : Jvm.Cond.constantDouble (mY M).cls i v ∈ lwG) (hp : pc + 3 = pc') (k : AW G M pc' lv (.double v :: st) X cc ss K) : AW G M pc lv st X cc ss K := by
  subst hp
  exact aw_pure (fun ad C hl k => lv_ldc2d C.1 C.2.1 C.2.2.2.2.1 (C.2.2.2.2.2.1 _ hw) hd k) (fun n h1 h2 => vok_c vok_double h2) k
theorem aw_iload_n {G : GG} {M : MM} {pc : Nat} {lv : List (Nat × Value)} {st : List Value} {X : XH} {cc ss : Nat} {K : RK} (pc' : Nat) {j : Fin 4} {i : Nat} {x : Int32} (hd : decode (mC M) pc = .ok (.iload_n j, 1)) (hi : (j : Nat) = i) (n : Nat) (hk : lv[n]? = some (i, .int x)) (hp : pc + 1 = pc') (k : AW G M pc' lv (.int x :: st) X cc ss K) : AW G M pc lv st X cc ss K := by
  subst hp
  exact aw_pure (fun ad C hl k => lv_iload_n C.1 C.2.1 hd hi (lvm_get hl (lv_mem n hk)) k) (fun n h1 h2 => vok_c vok_int h2) k
theorem aw_iload {G : GG} {M : MM} {pc : Nat} {lv : List (Nat × Value)} {st : List Value} {X : XH} {cc ss : Nat} {K : RK} (pc' : Nat) {i : Nat} {x : Int32} (hd : decode (mC M) pc = .ok (.iload i, 2)) (n : Nat) (hk : lv[n]? = some (i, .int x)) (hp : pc + 2 = pc') (k : AW G M pc' lv (.int x :: st) X cc ss K) : AW G M pc lv st X cc ss K := by
  subst hp
  exact aw_pure (fun ad C hl k => lv_iload C.1 C.2.1 hd (lvm_get hl (lv_mem n hk)) k) (fun n h1 h2 => vok_c vok_int h2) k
theorem aw_lload_n {G : GG} {M : MM} {pc : Nat} {lv : List (Nat × Value)} {st : List Value} {X : XH} {cc ss : Nat} {K : RK} (pc' : Nat) {j : Fin 4} {i : Nat} {x : Int64} (hd : decode (mC M) pc = .ok (.lload_n j, 1)) (hi : (j : Nat) = i) (n : Nat) (hk : lv[n]? = some (i, .long x)) (hp : pc + 1 = pc') (k : AW G M pc' lv (.long x :: st) X cc ss K) : AW G M pc lv st X cc ss K := by
  subst hp
  exact aw_pure (fun ad C hl k => lv_lload_n C.1 C.2.1 hd hi (lvm_get hl (lv_mem n hk)) k) (fun n h1 h2 => vok_c vok_long h2) k
theorem aw_lload {G : GG} {M : MM} {pc : Nat} {lv : List (Nat × Value)} {st : List Value} {X : XH} {cc ss : Nat} {K : RK} (pc' : Nat) {i : Nat} {x : Int64} (hd : decode (mC M) pc = .ok (.lload i, 2)) (n : Nat) (hk : lv[n]? = some (i, .long x)) (hp : pc + 2 = pc') (k : AW G M pc' lv (.long x :: st) X cc ss K) : AW G M pc lv st X cc ss K := by
  subst hp
  exact aw_pure (fun ad C hl k => lv_lload C.1 C.2.1 hd (lvm_get hl (lv_mem n hk)) k) (fun n h1 h2 => vok_c vok_long h2) k
theorem aw_dload_n {G : GG} {M : MM} {pc : Nat} {lv : List (Nat × Value)} {st : List Value} {X : XH} {cc ss : Nat} {K : RK} (pc' : Nat) {j : Fin 4} {i : Nat} {x : UInt64} (hd : decode (mC M) pc = .ok (.dload_n j, 1)) (hi : (j : Nat) = i) (n : Nat) (hk : lv[n]? = some (i, .double x)) (hp : pc + 1 = pc') (k : AW G M pc' lv (.double x :: st) X cc ss K) : AW G M pc lv st X cc ss K := by
  subst hp
  exact aw_pure (fun ad C hl k => lv_dload_n C.1 C.2.1 hd hi (lvm_get hl (lv_mem n hk)) k) (fun n h1 h2 => vok_c vok_double h2) k
theorem aw_dload {G : GG} {M : MM} {pc : Nat} {lv : List (Nat × Value)} {st : List Value} {X : XH} {cc ss : Nat} {K : RK} (pc' : Nat) {i : Nat} {x : UInt64} (hd : decode (mC M) pc = .ok (.dload i, 2)) (n : Nat) (hk : lv[n]? = some (i, .double x)) (hp : pc + 2 = pc') (k : AW G M pc' lv (.double x :: st) X cc ss K) : AW G M pc lv st X cc ss K := by
  subst hp
  exact aw_pure (fun ad C hl k => lv_dload C.1 C.2.1 hd (lvm_get hl (lv_mem n hk)) k) (fun n h1 h2 => vok_c vok_double h2) k
theorem aw_aload_n {G : GG} {M : MM} {pc : Nat} {lv : List (Nat × Value)} {st : List Value} {X : XH} {cc ss : Nat} {K : RK} (pc' : Nat) {j : Fin 4} {i x : Nat} (hd : decode (mC M) pc = .ok (.aload_n j, 1)) (hi : (j : Nat) = i) (n : Nat) (hk : lv[n]? = some (i, .ref x)) (hp : pc + 1 = pc') (k : AW G M pc' lv (.ref x :: st) X cc ss K) : AW G M pc lv st X cc ss K := by
  subst hp
  exact aw_pure (fun ad C hl k => lv_aload_n C.1 C.2.1 hd hi (lvm_get hl (lv_mem n hk)) k) (fun n' h1 h2 => vok_c (h1 _ (lv_mem n hk)) h2) k
theorem aw_aload {G : GG} {M : MM} {pc : Nat} {lv : List (Nat × Value)} {st : List Value} {X : XH} {cc ss : Nat} {K : RK} (pc' : Nat) {i x : Nat} (hd : decode (mC M) pc = .ok (.aload i, 2)) (n : Nat) (hk : lv[n]? = some (i, .ref x)) (hp : pc + 2 = pc') (k : AW G M pc' lv (.ref x :: st) X cc ss K) : AW G M pc lv st X cc ss K := by
  subst hp
  exact aw_pure (fun ad C hl k => lv_aload C.1 C.2.1 hd (lvm_get hl (lv_mem n hk)) k) (fun n' h1 h2 => vok_c (h1 _ (lv_mem n hk)) h2) k
theorem aw_istore_n {G : GG} {M : MM} {pc : Nat} {lv : List (Nat × Value)} {st : List Value} {X : XH} {cc ss : Nat} {K : RK} (pc' : Nat) {j : Fin 4} {i : Nat} {x : Int32} {lv' : List (Nat × Value)} (hd : decode (mC M) pc = .ok (.istore_n j, 1)) (hi : (j : Nat) = i) (hn : i < mN M) (hl : lvS i (.int x) lv = lv') (hp : pc + 1 = pc') (k : AW G M pc' lv' st X cc ss K) : AW G M pc lv (.int x :: st) X cc ss K := by
  subst hp
  subst hl
  exact aw_sto (i := i) (fun ad C h k => lv_istore_n C.1 C.2.1 hd hi h hn (lvm_S ad i (.int x) lv) k) lvS_in k
theorem aw_istore {G : GG} {M : MM} {pc : Nat} {lv : List (Nat × Value)} {st : List Value} {X : XH} {cc ss : Nat} {K : RK} (pc' : Nat) {i : Nat} {x : Int32} {lv' : List (Nat × Value)} (hd : decode (mC M) pc = .ok (.istore i, 2)) (hn : i < mN M) (hl : lvS i (.int x) lv = lv') (hp : pc + 2 = pc') (k : AW G M pc' lv' st X cc ss K) : AW G M pc lv (.int x :: st) X cc ss K := by
  subst hp
  subst hl
  exact aw_sto (i := i) (fun ad C h k => lv_istore C.1 C.2.1 hd h hn (lvm_S ad i (.int x) lv) k) lvS_in k
theorem aw_lstore_n {G : GG} {M : MM} {pc : Nat} {lv : List (Nat × Value)} {st : List Value} {X : XH} {cc ss : Nat} {K : RK} (pc' : Nat) {j : Fin 4} {i : Nat} {x : Int64} {lv' : List (Nat × Value)} (hd : decode (mC M) pc = .ok (.lstore_n j, 1)) (hi : (j : Nat) = i) (hn : i + 1 < mN M) (hl : lvS2 i (.long x) lv = lv') (hp : pc + 1 = pc') (k : AW G M pc' lv' st X cc ss K) : AW G M pc lv (.long x :: st) X cc ss K := by
  subst hp
  subst hl
  exact aw_sto (i := i) (fun ad C h k => lv_lstore_n C.1 C.2.1 hd hi h hn (lvm_S2 ad i (.long x) lv) k) lvS2_in k
theorem aw_lstore {G : GG} {M : MM} {pc : Nat} {lv : List (Nat × Value)} {st : List Value} {X : XH} {cc ss : Nat} {K : RK} (pc' : Nat) {i : Nat} {x : Int64} {lv' : List (Nat × Value)} (hd : decode (mC M) pc = .ok (.lstore i, 2)) (hn : i + 1 < mN M) (hl : lvS2 i (.long x) lv = lv') (hp : pc + 2 = pc') (k : AW G M pc' lv' st X cc ss K) : AW G M pc lv (.long x :: st) X cc ss K := by
  subst hp
  subst hl
  exact aw_sto (i := i) (fun ad C h k => lv_lstore C.1 C.2.1 hd h hn (lvm_S2 ad i (.long x) lv) k) lvS2_in k
theorem aw_dstore_n {G : GG} {M : MM} {pc : Nat} {lv : List (Nat × Value)} {st : List Value} {X : XH} {cc ss : Nat} {K : RK} (pc' : Nat) {j : Fin 4} {i : Nat} {x : UInt64} {lv' : List (Nat × Value)} (hd : decode (mC M) pc = .ok (.dstore_n j, 1)) (hi : (j : Nat) = i) (hn : i + 1 < mN M) (hl : lvS2 i (.double x) lv = lv') (hp : pc + 1 = pc') (k : AW G M pc' lv' st X cc ss K) : AW G M pc lv (.double x :: st) X cc ss K := by
  subst hp
  subst hl
  exact aw_sto (i := i) (fun ad C h k => lv_dstore_n C.1 C.2.1 hd hi h hn (lvm_S2 ad i (.double x) lv) k) lvS2_in k
theorem aw_dstore {G : GG} {M : MM} {pc : Nat} {lv : List (Nat × Value)} {st : List Value} {X : XH} {cc ss : Nat} {K : RK} (pc' : Nat) {i : Nat} {x : UInt64} {lv' : List (Nat × Value)} (hd : decode (mC M) pc = .ok (.dstore i, 2)) (hn : i + 1 < mN M) (hl : lvS2 i (.double x) lv = lv') (hp : pc + 2 = pc') (k : AW G M pc' lv' st X cc ss K) : AW G M pc lv (.double x :: st) X cc ss K := by
  subst hp
  subst hl
  exact aw_sto (i := i) (fun ad C h k => lv_dstore C.1 C.2.1 hd h hn (lvm_S2 ad i (.double x) lv) k) lvS2_in k
theorem aw_astore_n {G : GG} {M : MM} {pc : Nat} {lv : List (Nat × Value)} {st : List Value} {X : XH} {cc ss : Nat} {K : RK} (pc' : Nat) {j : Fin 4} {i : Nat} {x : Nat} {lv' : List (Nat × Value)} (hd : decode (mC M) pc = .ok (.astore_n j, 1)) (hi : (j : Nat) = i) (hn : i < mN M) (hl : lvS i (.ref x) lv = lv') (hp : pc + 1 = pc') (k : AW G M pc' lv' st X cc ss K) : AW G M pc lv (.ref x :: st) X cc ss K := by
  subst hp
  subst hl
  exact aw_sto (i := i) (fun ad C h k => lv_astore_n C.1 C.2.1 hd hi h hn (lvm_S ad i (.ref x) lv) k) lvS_in k
theorem aw_astore {G : GG} {M : MM} {pc : Nat} {lv : List (Nat × Value)} {st : List Value} {X : XH} {cc ss : Nat} {K : RK} (pc' : Nat) {i : Nat} {x : Nat} {lv' : List (Nat × Value)} (hd : decode (mC M) pc = .ok (.astore i, 2)) (hn : i < mN M) (hl : lvS i (.ref x) lv = lv') (hp : pc + 2 = pc') (k : AW G M pc' lv' st X cc ss K) : AW G M pc lv (.ref x :: st) X cc ss K := by
  subst hp
  subst hl
  exact aw_sto (i := i) (fun ad C h k => lv_astore C.1 C.2.1 hd h hn (lvm_S ad i (.ref x) lv) k) lvS_in k
theorem aw_iinc {G : GG} {M : MM} {pc : Nat} {lv : List (Nat × Value)} {st : List Value} {X : XH} {cc ss : Nat} {K : RK} (pc' : Nat) {i : Nat} {n : Int} {x v : Int32} {lv' : List (Nat × Value)} (hd : decode (mC M) pc = .ok (.iinc i n, 3)) (j : Nat) (hk : lv[j]? = some (i, .int x)) (hv : Int32.ofInt n = v) (hn : i < mN M) (hl : lvS i (.int (x + v)) lv = lv') (hp : pc + 3 = pc') (k : AW G M pc' lv' st X cc ss K) : AW G M pc lv st X cc ss K := by
  subst hp
  subst hl
  subst hv
  intro p e s m args below meth c H locs ls ad ad0 n0 C F
  refine lv_iinc C.1 C.2.1 hd F.2.2.1 (k := j) (x := x) ?_ rfl hn (lvm_S ad i (.int (x + Int32.ofInt n)) lv) (fun ls1 hl1 => k p e s m args below meth c H locs ls1 ad ad0 n0 C ⟨F.1, F.2.1, hl1, fun q hq => ?_, F.2.2.2.2⟩)
  · unfold lvm
    rw [List.getElem?_map, hk]
    rfl
  · rcases lvS_in q hq with rfl | h
    · trivial
    · exact F.2.2.2.1 q h
theorem aw_iadd {G : GG} {M : MM} {pc : Nat} {lv : List (Nat × Value)} {st : List Value} {X : XH} {cc ss : Nat} {K : RK} (pc' : Nat) {x : Int32} {y : Int32} (hd : decode (mC M) pc = .ok (.iadd, 1))  (hp : pc + 1 = pc') (k : AW G M pc' lv (.int (x + y) :: st) X cc ss K) : AW G M pc lv (.int y :: .int x :: st) X cc ss K := by
  subst hp
  exact aw_pure (fun ad C hl k => lv_iadd C.1 C.2.1 hd k) (fun n h1 h2 => vok_c vok_int (vok_t (vok_t h2))) k
theorem aw_isub {G : GG} {M : MM} {pc : Nat} {lv : List (Nat × Value)} {st : List Value} {X : XH} {cc ss : Nat} {K : RK} (pc' : Nat) {x : Int32} {y : Int32} (hd : decode (mC M) pc = .ok (.isub, 1))  (hp : pc + 1 = pc') (k : AW G M pc' lv (.int (x - y) :: st) X cc ss K) : AW G M pc lv (.int y :: .int x :: st) X cc ss K := by
  subst hp
  exact aw_pure (fun ad C hl k => lv_isub C.1 C.2.1 hd k) (fun n h1 h2 => vok_c vok_int (vok_t (vok_t h2))) k
theorem aw_imul {G : GG} {M : MM} {pc : Nat} {lv : List (Nat × Value)} {st : List Value} {X : XH} {cc ss : Nat} {K : RK} (pc' : Nat) {x : Int32} {y : Int32} (hd : decode (mC M) pc = .ok (.imul, 1))  (hp : pc + 1 = pc') (k : AW G M pc' lv (.int (x * y) :: st) X cc ss K) : AW G M pc lv (.int y :: .int x :: st) X cc ss K := by
  subst hp
  exact aw_pure (fun ad C hl k => lv_imul C.1 C.2.1 hd k) (fun n h1 h2 => vok_c vok_int (vok_t (vok_t h2))) k
theorem aw_iand {G : GG} {M : MM} {pc : Nat} {lv : List (Nat × Value)} {st : List Value} {X : XH} {cc ss : Nat} {K : RK} (pc' : Nat) {x : Int32} {y : Int32} (hd : decode (mC M) pc = .ok (.iand, 1))  (hp : pc + 1 = pc') (k : AW G M pc' lv (.int (x &&& y) :: st) X cc ss K) : AW G M pc lv (.int y :: .int x :: st) X cc ss K := by
  subst hp
  exact aw_pure (fun ad C hl k => lv_iand C.1 C.2.1 hd k) (fun n h1 h2 => vok_c vok_int (vok_t (vok_t h2))) k
theorem aw_ior {G : GG} {M : MM} {pc : Nat} {lv : List (Nat × Value)} {st : List Value} {X : XH} {cc ss : Nat} {K : RK} (pc' : Nat) {x : Int32} {y : Int32} (hd : decode (mC M) pc = .ok (.ior, 1))  (hp : pc + 1 = pc') (k : AW G M pc' lv (.int (x ||| y) :: st) X cc ss K) : AW G M pc lv (.int y :: .int x :: st) X cc ss K := by
  subst hp
  exact aw_pure (fun ad C hl k => lv_ior C.1 C.2.1 hd k) (fun n h1 h2 => vok_c vok_int (vok_t (vok_t h2))) k
theorem aw_ishl {G : GG} {M : MM} {pc : Nat} {lv : List (Nat × Value)} {st : List Value} {X : XH} {cc ss : Nat} {K : RK} (pc' : Nat) {x : Int32} {y : Int32} (hd : decode (mC M) pc = .ok (.ishl, 1))  (hp : pc + 1 = pc') (k : AW G M pc' lv (.int (x <<< (y &&& 31)) :: st) X cc ss K) : AW G M pc lv (.int y :: .int x :: st) X cc ss K := by
  subst hp
  exact aw_pure (fun ad C hl k => lv_ishl C.1 C.2.1 hd k) (fun n h1 h2 => vok_c vok_int (vok_t (vok_t h2))) k
theorem aw_ishr {G : GG} {M : MM} {pc : Nat} {lv : List (Nat × Value)} {st : List Value} {X : XH} {cc ss : Nat} {K : RK} (pc' : Nat) {x : Int32} {y : Int32} (hd : decode (mC M) pc = .ok (.ishr, 1))  (hp : pc + 1 = pc') (k : AW G M pc' lv (.int (x >>> (y &&& 31)) :: st) X cc ss K) : AW G M pc lv (.int y :: .int x :: st) X cc ss K := by
  subst hp
  exact aw_pure (fun ad C hl k => lv_ishr C.1 C.2.1 hd k) (fun n h1 h2 => vok_c vok_int (vok_t (vok_t h2))) k
theorem aw_iushr {G : GG} {M : MM} {pc : Nat} {lv : List (Nat × Value)} {st : List Value} {X : XH} {cc ss : Nat} {K : RK} (pc' : Nat) {x : Int32} {y : Int32} (hd : decode (mC M) pc = .ok (.iushr, 1))  (hp : pc + 1 = pc') (k : AW G M pc' lv (.int (x.toUInt32 >>> (y.toUInt32 &&& Int32.toUInt32 31)).toInt32 :: st) X cc ss K) : AW G M pc lv (.int y :: .int x :: st) X cc ss K := by
  subst hp
  exact aw_pure (fun ad C hl k => lv_iushr C.1 C.2.1 hd rfl k) (fun n h1 h2 => vok_c vok_int (vok_t (vok_t h2))) k
theorem aw_idiv {G : GG} {M : MM} {pc : Nat} {lv : List (Nat × Value)} {st : List Value} {X : XH} {cc ss : Nat} {K : RK} (pc' : Nat) {x : Int32} {y : Int32} (hd : decode (mC M) pc = .ok (.idiv, 1)) (hne : ¬ y = 0) (hp : pc + 1 = pc') (k : AW G M pc' lv (.int (x / y) :: st) X cc ss K) : AW G M pc lv (.int y :: .int x :: st) X cc ss K := by
  subst hp
  exact aw_pure (fun ad C hl k => lv_idiv C.1 C.2.1 hd hne k) (fun n h1 h2 => vok_c vok_int (vok_t (vok_t h2))) k
theorem aw_irem {G : GG} {M : MM} {pc : Nat} {lv : List (Nat × Value)} {st : List Value} {X : XH} {cc ss : Nat} {K : RK} (pc' : Nat) {x : Int32} {y : Int32} (hd : decode (mC M) pc = .ok (.irem, 1)) (hne : ¬ y = 0) (hp : pc + 1 = pc') (k : AW G M pc' lv (.int (x - x / y * y) :: st) X cc ss K) : AW G M pc lv (.int y :: .int x :: st) X cc ss K := by
  subst hp
  exact aw_pure (fun ad C hl k => lv_irem C.1 C.2.1 hd hne k) (fun n h1 h2 => vok_c vok_int (vok_t (vok_t h2))) k
theorem aw_ladd {G : GG} {M : MM} {pc : Nat} {lv : List (Nat × Value)} {st : List Value} {X : XH} {cc ss : Nat} {K : RK} (pc' : Nat) {x : Int64} {y : Int64} (hd : decode (mC M) pc = .ok (.ladd, 1))  (hp : pc + 1 = pc') (k : AW G M pc' lv (.long (x + y) :: st) X cc ss K) : AW G M pc lv (.long y :: .long x :: st) X cc ss K := by
  subst hp
  exact aw_pure (fun ad C hl k => lv_ladd C.1 C.2.1 hd k) (fun n h1 h2 => vok_c vok_long (vok_t (vok_t h2))) k
theorem aw_lsub {G : GG} {M : MM} {pc : Nat} {lv : List (Nat × Value)} {st : List Value} {X : XH} {cc ss : Nat} {K : RK} (pc' : Nat) {x : Int64} {y : Int64} (hd : decode (mC M) pc = .ok (.lsub, 1))  (hp : pc + 1 = pc') (k : AW G M pc' lv (.long (x - y) :: st) X cc ss K) : AW G M pc lv (.long y :: .long x :: st) X cc ss K := by
  subst hp
  exact aw_pure (fun ad C hl k => lv_lsub C.1 C.2.1 hd k) (fun n h1 h2 => vok_c vok_long (vok_t (vok_t h2))) k
theorem aw_lmul {G : GG} {M : MM} {pc : Nat} {lv : List (Nat × Value)} {st : List Value} {X : XH} {cc ss : Nat} {K : RK} (pc' : Nat) {x : Int64} {y : Int64} (hd : decode (mC M) pc = .ok (.lmul, 1))  (hp : pc + 1 = pc') (k : AW G M pc' lv (.long (x * y) :: st) X cc ss K) : AW G M pc lv (.long y :: .long x :: st) X cc ss K := by
  subst hp
  exact aw_pure (fun ad C hl k => lv_lmul C.1 C.2.1 hd k) (fun n h1 h2 => vok_c vok_long (vok_t (vok_t h2))) k
theorem aw_lor {G : GG} {M : MM} {pc : Nat} {lv : List (Nat × Value)} {st : List Value} {X : XH} {cc ss : Nat} {K : RK} (pc' : Nat) {x : Int64} {y : Int64} (hd : decode (mC M) pc = .ok (.lor, 1))  (hp : pc + 1 = pc') (k : AW G M pc' lv (.long (x ||| y) :: st) X cc ss K) : AW G M pc lv (.long y :: .long x :: st) X cc ss K := by
  subst hp
  exact aw_pure (fun ad C hl k => lv_lor C.1 C.2.1 hd k) (fun n h1 h2 => vok_c vok_long (vok_t (vok_t h2))) k
theorem aw_land {G : GG} {M : MM} {pc : Nat} {lv : List (Nat × Value)} {st : List Value} {X : XH} {cc ss : Nat} {K : RK} (pc' : Nat) {x : Int64} {y : Int64} (hd : decode (mC M) pc = .ok (.land, 1))  (hp : pc + 1 = pc') (k : AW G M pc' lv (.long (x &&& y) :: st) X cc ss K) : AW G M pc lv (.long y :: .long x :: st) X cc ss K := by
  subst hp
  exact aw_pure (fun ad C hl k => lv_land C.1 C.2.1 hd k) (fun n h1 h2 => vok_c vok_long (vok_t (vok_t h2))) k
theorem aw_lshl {G : GG} {M : MM} {pc : Nat} {lv : List (Nat × Value)} {st : List Value} {X : XH} {cc ss : Nat} {K : RK} (pc' : Nat) {x : Int64} {y : Int32} (hd : decode (mC M) pc = .ok (.lshl, 1))  (hp : pc + 1 = pc') (k : AW G M pc' lv (.long (x <<< (y.toInt64 &&& 63)) :: st) X cc ss K) : AW G M pc lv (.int y :: .long x :: st) X cc ss K := by
  subst hp
  exact aw_pure (fun ad C hl k => lv_lshl C.1 C.2.1 hd rfl k) (fun n h1 h2 => vok_c vok_long (vok_t (vok_t h2))) k
theorem aw_lcmp {G : GG} {M : MM} {pc : Nat} {lv : List (Nat × Value)} {st : List Value} {X : XH} {cc ss : Nat} {K : RK} (pc' : Nat) {x : Int64} {y : Int64} (hd : decode (mC M) pc = .ok (.lcmp, 1))  (hp : pc + 1 = pc') (k : AW G M pc' lv (.int (lg_cmp x y) :: st) X cc ss K) : AW G M pc lv (.long y :: .long x :: st) X cc ss K := by
  subst hp
  exact aw_pure (fun ad C hl k => W.lcmp C.1 C.2.1 hd k) (fun n h1 h2 => vok_c vok_int (vok_t (vok_t h2))) k
theorem aw_ddiv {G : GG} {M : MM} {pc : Nat} {lv : List (Nat × Value)} {st : List Value} {X : XH} {cc ss : Nat} {K : RK} (pc' : Nat) {x : UInt64} {y : UInt64} (hd : decode (mC M) pc = .ok (.ddiv, 1)) (hne : vf_n64 (FP.ddiv x y)) (hp : pc + 1 = pc') (k : AW G M pc' lv (.double (FP.ddiv x y) :: st) X cc ss K) : AW G M pc lv (.double y :: .double x :: st) X cc ss K := by
  subst hp
  exact aw_pure (fun ad C hl k => lv_ddiv C.1 C.2.1 hd hne k) (fun n h1 h2 => vok_c vok_double (vok_t (vok_t h2))) k
theorem aw_dmul {G : GG} {M : MM} {pc : Nat} {lv : List (Nat × Value)} {st : List Value} {X : XH} {cc ss : Nat} {K : RK} (pc' : Nat) {x : UInt64} {y : UInt64} (hd : decode (mC M) pc = .ok (.dmul, 1)) (hne : vf_n64 (FP.dmul x y)) (hp : pc + 1 = pc') (k : AW G M pc' lv (.double (FP.dmul x y) :: st) X cc ss K) : AW G M pc lv (.double y :: .double x :: st) X cc ss K := by
  subst hp
  exact aw_pure (fun ad C hl k => lv_dmul C.1 C.2.1 hd hne k) (fun n h1 h2 => vok_c vok_double (vok_t (vok_t h2))) k
theorem aw_dsub {G : GG} {M : MM} {pc : Nat} {lv : List (Nat × Value)} {st : List Value} {X : XH} {cc ss : Nat} {K : RK} (pc' : Nat) {x : UInt64} {y : UInt64} (hd : decode (mC M) pc = .ok (.dsub, 1)) (hne : vf_n64 (FP.dsub x y)) (hp : pc + 1 = pc') (k : AW G M pc' lv (.double (FP.dsub x y) :: st) X cc ss K) : AW G M pc lv (.double y :: .double x :: st) X cc ss K := by
  subst hp
  exact aw_pure (fun ad C hl k => lv_dsub C.1 C.2.1 hd hne k) (fun n h1 h2 => vok_c vok_double (vok_t (vok_t h2))) k
theorem aw_dcmp {G : GG} {M : MM} {pc : Nat} {lv : List (Nat × Value)} {st : List Value} {X : XH} {cc ss : Nat} {K : RK} (pc' : Nat) {x y : UInt64} {op : CmpOp} (hd : decode (mC M) pc = .ok (.dcmp op, 1))  (hp : pc + 1 = pc') (k : AW G M pc' lv (.int (Op.cmpValue (FP.dcmp x y) op) :: st) X cc ss K) : AW G M pc lv (.double y :: .double x :: st) X cc ss K := by
  subst hp
  exact aw_pure (fun ad C hl k => lv_dcmp C.1 C.2.1 hd k) (fun n h1 h2 => vok_c vok_int (vok_t (vok_t h2))) k
theorem aw_ineg {G : GG} {M : MM} {pc : Nat} {lv : List (Nat × Value)} {st : List Value} {X : XH} {cc ss : Nat} {K : RK} (pc' : Nat) {x : Int32} (hd : decode (mC M) pc = .ok (.ineg, 1))  (hp : pc + 1 = pc') (k : AW G M pc' lv (.int (-x) :: st) X cc ss K) : AW G M pc lv (.int x :: st) X cc ss K := by
  subst hp
  exact aw_pure (fun ad C hl k => lv_ineg C.1 C.2.1 hd k) (fun n h1 h2 => vok_c vok_int (vok_t h2)) k
theorem aw_i2l {G : GG} {M : MM} {pc : Nat} {lv : List (Nat × Value)} {st : List Value} {X : XH} {cc ss : Nat} {K : RK} (pc' : Nat) {x : Int32} (hd : decode (mC M) pc = .ok (.i2l, 1))  (hp : pc + 1 = pc') (k : AW G M pc' lv (.long x.toInt64 :: st) X cc ss K) : AW G M pc lv (.int x :: st) X cc ss K := by
  subst hp
  exact aw_pure (fun ad C hl k => lv_i2l C.1 C.2.1 hd rfl k) (fun n h1 h2 => vok_c vok_long (vok_t h2)) k
theorem aw_l2i {G : GG} {M : MM} {pc : Nat} {lv : List (Nat × Value)} {st : List Value} {X : XH} {cc ss : Nat} {K : RK} (pc' : Nat) {x : Int64} (hd : decode (mC M) pc = .ok (.l2i, 1))  (hp : pc + 1 = pc') (k : AW G M pc' lv (.int x.toInt32 :: st) X cc ss K) : AW G M pc lv (.long x :: st) X cc ss K := by
  subst hp
  exact aw_pure (fun ad C hl k => lv_l2i C.1 C.2.1 hd rfl k) (fun n h1 h2 => vok_c vok_int (vok_t h2)) k
theorem aw_i2d {G : GG} {M : MM} {pc : Nat} {lv : List (Nat × Value)} {st : List Value} {X : XH} {cc ss : Nat} {K : RK} (pc' : Nat) {x : Int32} (hd : decode (mC M) pc = .ok (.i2d, 1))  (hp : pc + 1 = pc') (k : AW G M pc' lv (.double (FP.i2d x) :: st) X cc ss K) : AW G M pc lv (.int x :: st) X cc ss K := by
  subst hp
  exact aw_pure (fun ad C hl k => lv_i2d C.1 C.2.1 hd k) (fun n h1 h2 => vok_c vok_double (vok_t h2)) k
theorem aw_d2l {G : GG} {M : MM} {pc : Nat} {lv : List (Nat × Value)} {st : List Value} {X : XH} {cc ss : Nat} {K : RK} (pc' : Nat) {x : UInt64} (hd : decode (mC M) pc = .ok (.d2l, 1))  (hp : pc + 1 = pc') (k : AW G M pc' lv (.long (FP.d2l x) :: st) X cc ss K) : AW G M pc lv (.double x :: st) X cc ss K := by
  subst hp
  exact aw_pure (fun ad C hl k => lv_d2l C.1 C.2.1 hd k) (fun n h1 h2 => vok_c vok_long (vok_t h2)) k
theorem aw_pop {G : GG} {M : MM} {pc : Nat} {lv : List (Nat × Value)} {st : List Value} {X : XH} {cc ss : Nat} {K : RK} (pc' : Nat) {v : Value} (hd : decode (mC M) pc = .ok (.pop, 1)) (hv : v.category = 1) (hp : pc + 1 = pc') (k : AW G M pc' lv (st) X cc ss K) : AW G M pc lv (v :: st) X cc ss K := by
  subst hp
  exact aw_pure (fun ad C hl k => lv_pop C.1 C.2.1 hd (by rw [vm_cat]; exact hv) k) (fun n h1 h2 => vok_t h2) k
theorem aw_dup {G : GG} {M : MM} {pc : Nat} {lv : List (Nat × Value)} {st : List Value} {X : XH} {cc ss : Nat} {K : RK} (pc' : Nat) {v : Value} (hd : decode (mC M) pc = .ok (.dup, 1)) (hv : v.category = 1) (hp : pc + 1 = pc') (k : AW G M pc' lv (v :: v :: st) X cc ss K) : AW G M pc lv (v :: st) X cc ss K := by
  subst hp
  exact aw_pure (fun ad C hl k => lv_dup C.1 C.2.1 hd (by rw [vm_cat]; exact hv) k) (fun n h1 h2 => vok_c (h2 _ List.mem_cons_self) h2) k
theorem aw_dup2 {G : GG} {M : MM} {pc : Nat} {lv : List (Nat × Value)} {st : List Value} {X : XH} {cc ss : Nat} {K : RK} (pc' : Nat) {v w : Value} (hd : decode (mC M) pc = .ok (.dup2, 1)) (hv : v.category = 1) (hw : w.category = 1) (hp : pc + 1 = pc') (k : AW G M pc' lv (v :: w :: v :: w :: st) X cc ss K) : AW G M pc lv (v :: w :: st) X cc ss K := by
  subst hp
  exact aw_pure (fun ad C hl k => lv_dup2_11 C.1 C.2.1 hd (by rw [vm_cat]; exact hv) (by rw [vm_cat]; exact hw) k) (fun n h1 h2 => vok_c (h2 _ List.mem_cons_self) (vok_c (h2 _ (List.mem_cons_of_mem _ List.mem_cons_self)) h2)) k
theorem aw_if_eq {G : GG} {M : MM} {pc : Nat} {lv : List (Nat × Value)} {st : List Value} {X : XH} {cc ss : Nat} {K : RK} (tgt pc' : Nat) {x : Int32} {off : Int} (hd : decode (mC M) pc = .ok (.ifCond .eq off, 3)) (ht : (pc : Int) + off = (tgt : Int)) (hp : pc + 3 = pc') (kt : x = 0 → AW G M tgt lv st X cc ss K) (kf : ¬ (x = 0) → AW G M pc' lv st X cc ss K) : AW G M pc lv (.int x :: st) X cc ss K := by
  subst hp
  intro p e s m args below meth c H locs ls ad ad0 n0 C F
  exact lv_if_eq C.1 C.2.1 hd ht (fun h => kt h p e s m args below meth c H locs ls ad ad0 n0 C (F.st (vok_t F.2.2.2.2.1))) (fun h => kf h p e s m args below meth c H locs ls ad ad0 n0 C (F.st (vok_t F.2.2.2.2.1)))
theorem aw_icmp_eq {G : GG} {M : MM} {pc : Nat} {lv : List (Nat × Value)} {st : List Value} {X : XH} {cc ss : Nat} {K : RK} (tgt pc' : Nat) {x y : Int32} {off : Int} (hd : decode (mC M) pc = .ok (.if_icmp .eq off, 3)) (ht : (pc : Int) + off = (tgt : Int)) (hp : pc + 3 = pc') (kt : x = y → AW G M tgt lv st X cc ss K) (kf : ¬ (x = y) → AW G M pc' lv st X cc ss K) : AW G M pc lv (.int y :: .int x :: st) X cc ss K := by
  subst hp
  intro p e s m args below meth c H locs ls ad ad0 n0 C F
  exact lv_icmp_eq C.1 C.2.1 hd ht (fun h => kt h p e s m args below meth c H locs ls ad ad0 n0 C (F.st (vok_t (vok_t F.2.2.2.2.1)))) (fun h => kf h p e s m args below meth c H locs ls ad ad0 n0 C (F.st (vok_t (vok_t F.2.2.2.2.1))))
theorem aw_if_ne {G : GG} {M : MM} {pc : Nat} {lv : List (Nat × Value)} {st : List Value} {X : XH} {cc ss : Nat} {K : RK} (tgt pc' : Nat) {x : Int32} {off : Int} (hd : decode (mC M) pc = .ok (.ifCond .ne off, 3)) (ht : (pc : Int) + off = (tgt : Int)) (hp : pc + 3 = pc') (kt : ¬ x = 0 → AW G M tgt lv st X cc ss K) (kf : x = 0 → AW G M pc' lv st X cc ss K) : AW G M pc lv (.int x :: st) X cc ss K := by
  subst hp
  intro p e s m args below meth c H locs ls ad ad0 n0 C F
  exact lv_if_ne C.1 C.2.1 hd ht (fun h => kt h p e s m args below meth c H locs ls ad ad0 n0 C (F.st (vok_t F.2.2.2.2.1))) (fun h => kf h p e s m args below meth c H locs ls ad ad0 n0 C (F.st (vok_t F.2.2.2.2.1)))
theorem aw_icmp_ne {G : GG} {M : MM} {pc : Nat} {lv : List (Nat × Value)} {st : List Value} {X : XH} {cc ss : Nat} {K : RK} (tgt pc' : Nat) {x y : Int32} {off : Int} (hd : decode (mC M) pc = .ok (.if_icmp .ne off, 3)) (ht : (pc : Int) + off = (tgt : Int)) (hp : pc + 3 = pc') (kt : ¬ x = y → AW G M tgt lv st X cc ss K) (kf : x = y → AW G M pc' lv st X cc ss K) : AW G M pc lv (.int y :: .int x :: st) X cc ss K := by
  subst hp
  intro p e s m args below meth c H locs ls ad ad0 n0 C F
  exact lv_icmp_ne C.1 C.2.1 hd ht (fun h => kt h p e s m args below meth c H locs ls ad ad0 n0 C (F.st (vok_t (vok_t F.2.2.2.2.1)))) (fun h => kf h p e s m args below meth c H locs ls ad ad0 n0 C (F.st (vok_t (vok_t F.2.2.2.2.1))))
theorem aw_if_lt {G : GG} {M : MM} {pc : Nat} {lv : List (Nat × Value)} {st : List Value} {X : XH} {cc ss : Nat} {K : RK} (tgt pc' : Nat) {x : Int32} {off : Int} (hd : decode (mC M) pc = .ok (.ifCond .lt off, 3)) (ht : (pc : Int) + off = (tgt : Int)) (hp : pc + 3 = pc') (kt : x < 0 → AW G M tgt lv st X cc ss K) (kf : ¬ (x < 0) → AW G M pc' lv st X cc ss K) : AW G M pc lv (.int x :: st) X cc ss K := by
  subst hp
  intro p e s m args below meth c H locs ls ad ad0 n0 C F
  exact lv_if_lt C.1 C.2.1 hd ht (fun h => kt h p e s m args below meth c H locs ls ad ad0 n0 C (F.st (vok_t F.2.2.2.2.1))) (fun h => kf h p e s m args below meth c H locs ls ad ad0 n0 C (F.st (vok_t F.2.2.2.2.1)))
theorem aw_icmp_lt {G : GG} {M : MM} {pc : Nat} {lv : List (Nat × Value)} {st : List Value} {X : XH} {cc ss : Nat} {K : RK} (tgt pc' : Nat) {x y : Int32} {off : Int} (hd : decode (mC M) pc = .ok (.if_icmp .lt off, 3)) (ht : (pc : Int) + off = (tgt : Int)) (hp : pc + 3 = pc') (kt : x < y → AW G M tgt lv st X cc ss K) (kf : ¬ (x < y) → AW G M pc' lv st X cc ss K) : AW G M pc lv (.int y :: .int x :: st) X cc ss K := by
  subst hp
  intro p e s m args below meth c H locs ls ad ad0 n0 C F
  exact lv_icmp_lt C.1 C.2.1 hd ht (fun h => kt h p e s m args below meth c H locs ls ad ad0 n0 C (F.st (vok_t (vok_t F.2.2.2.2.1)))) (fun h => kf h p e s m args below meth c H locs ls ad ad0 n0 C (F.st (vok_t (vok_t F.2.2.2.2.1))))
theorem aw_if_ge {G : GG} {M : MM} {pc : Nat} {lv : List (Nat × Value)} {st : List Value} {X : XH} {cc ss : Nat} {K : RK} (tgt pc' : Nat) {x : Int32} {off : Int} (hd : decode (mC M) pc = .ok (.ifCond .ge off, 3)) (ht : (pc : Int) + off = (tgt : Int)) (hp : pc + 3 = pc') (kt : 0 ≤ x → AW G M tgt lv st X cc ss K) (kf : ¬ (0 ≤ x) → AW G M pc' lv st X cc ss K) : AW G M pc lv (.int x :: st) X cc ss K := by
  subst hp
  intro p e s m args below meth c H locs ls ad ad0 n0 C F
  exact lv_if_ge C.1 C.2.1 hd ht (fun h => kt h p e s m args below meth c H locs ls ad ad0 n0 C (F.st (vok_t F.2.2.2.2.1))) (fun h => kf h p e s m args below meth c H locs ls ad ad0 n0 C (F.st (vok_t F.2.2.2.2.1)))
theorem aw_icmp_ge {G : GG} {M : MM} {pc : Nat} {lv : List (Nat × Value)} {st : List Value} {X : XH} {cc ss : Nat} {K : RK} (tgt pc' : Nat) {x y : Int32} {off : Int} (hd : decode (mC M) pc = .ok (.if_icmp .ge off, 3)) (ht : (pc : Int) + off = (tgt : Int)) (hp : pc + 3 = pc') (kt : y ≤ x → AW G M tgt lv st X cc ss K) (kf : ¬ (y ≤ x) → AW G M pc' lv st X cc ss K) : AW G M pc lv (.int y :: .int x :: st) X cc ss K := by
  subst hp
  intro p e s m args below meth c H locs ls ad ad0 n0 C F
  exact lv_icmp_ge C.1 C.2.1 hd ht (fun h => kt h p e s m args below meth c H locs ls ad ad0 n0 C (F.st (vok_t (vok_t F.2.2.2.2.1)))) (fun h => kf h p e s m args below meth c H locs ls ad ad0 n0 C (F.st (vok_t (vok_t F.2.2.2.2.1))))
theorem aw_if_gt {G : GG} {M : MM} {pc : Nat} {lv : List (Nat × Value)} {st : List Value} {X : XH} {cc ss : Nat} {K : RK} (tgt pc' : Nat) {x : Int32} {off : Int} (hd : decode (mC M) pc = .ok (.ifCond .gt off, 3)) (ht : (pc : Int) + off = (tgt : Int)) (hp : pc + 3 = pc') (kt : 0 < x → AW G M tgt lv st X cc ss K) (kf : ¬ (0 < x) → AW G M pc' lv st X cc ss K) : AW G M pc lv (.int x :: st) X cc ss K := by
  subst hp
  intro p e s m args below meth c H locs ls ad ad0 n0 C F
  exact lv_if_gt C.1 C.2.1 hd ht (fun h => kt h p e s m args below meth c H locs ls ad ad0 n0 C (F.st (vok_t F.2.2.2.2.1))) (fun h => kf h p e s m args below meth c H locs ls ad ad0 n0 C (F.st (vok_t F.2.2.2.2.1)))
theorem aw_icmp_gt {G : GG} {M : MM} {pc : Nat} {lv : List (Nat × Value)} {st : List Value} {X : XH} {cc ss : Nat} {K : RK} (tgt pc' : Nat) {x y : Int32} {off : Int} (hd : decode (mC M) pc = .ok (.if_icmp .gt off, 3)) (ht : (pc : Int) + off = (tgt : Int)) (hp : pc + 3 = pc') (kt : y < x → AW G M tgt lv st X cc ss K) (kf : ¬ (y < x) → AW G M pc' lv st X cc ss K) : AW G M pc lv (.int y :: .int x :: st) X cc ss K := by
  subst hp
  intro p e s m args below meth c H locs ls ad ad0 n0 C F
  exact lv_icmp_gt C.1 C.2.1 hd ht (fun h => kt h p e s m args below meth c H locs ls ad ad0 n0 C (F.st (vok_t (vok_t F.2.2.2.2.1)))) (fun h => kf h p e s m args below meth c H locs ls ad ad0 n0 C (F.st (vok_t (vok_t F.2.2.2.2.1))))
theorem aw_if_le {G : GG} {M : MM} {pc : Nat} {lv : List (Nat × Value)} {st : List Value} {X : XH} {cc ss : Nat} {K : RK} (tgt pc' : Nat) {x : Int32} {off : Int} (hd : decode (mC M) pc = .ok (.ifCond .le off, 3)) (ht : (pc : Int) + off = (tgt : Int)) (hp : pc + 3 = pc') (kt : x ≤ 0 → AW G M tgt lv st X cc ss K) (kf : ¬ (x ≤ 0) → AW G M pc' lv st X cc ss K) : AW G M pc lv (.int x :: st) X cc ss K := by
  subst hp
  intro p e s m args below meth c H locs ls ad ad0 n0 C F
  exact lv_if_le C.1 C.2.1 hd ht (fun h => kt h p e s m args below meth c H locs ls ad ad0 n0 C (F.st (vok_t F.2.2.2.2.1))) (fun h => kf h p e s m args below meth c H locs ls ad ad0 n0 C (F.st (vok_t F.2.2.2.2.1)))
theorem aw_icmp_le {G : GG} {M : MM} {pc : Nat} {lv : List (Nat × Value)} {st : List Value} {X : XH} {cc ss : Nat} {K : RK} (tgt pc' : Nat) {x y : Int32} {off : Int} (hd : decode (mC M) pc = .ok (.if_icmp .le off, 3)) (ht : (pc : Int) + off = (tgt : Int)) (hp : pc + 3 = pc') (kt : x ≤ y → AW G M tgt lv st X cc ss K) (kf : ¬ (x ≤ y) → AW G M pc' lv st X cc ss K) : AW G M pc lv (.int y :: .int x :: st) X cc ss K := by
  subst hp
  intro p e s m args below meth c H locs ls ad ad0 n0 C F
  exact lv_icmp_le C.1 C.2.1 hd ht (fun h => kt h p e s m args below meth c H locs ls ad ad0 n0 C (F.st (vok_t (vok_t F.2.2.2.2.1)))) (fun h => kf h p e s m args below meth c H locs ls ad ad0 n0 C (F.st (vok_t (vok_t F.2.2.2.2.1))))
theorem aw_goto {G : GG} {M : MM} {pc : Nat} {lv : List (Nat × Value)} {st : List Value} {X : XH} {cc ss : Nat} {K : RK} (tgt : Nat) {off : Int} (hd : decode (mC M) pc = .ok (.goto off, 3)) (ht : (pc : Int) + off = (tgt : Int)) (k : AW G M tgt lv st X cc ss K) : AW G M pc lv st X cc ss K := aw_pure (fun ad C hl k => lv_goto C.1 C.2.1 hd ht k) (fun n h1 h2 => h2) k
theorem aw_ifnull {G : GG} {M : MM} {pc : Nat} {lv : List (Nat × Value)} {st : List Value} {X : XH} {cc ss : Nat} {K : RK} (pc' : Nat) {x : Nat} {off : Int} (hd : decode (mC M) pc = .ok (.ifnull off, 3)) (hp : pc + 3 = pc') (k : AW G M pc' lv st X cc ss K) : AW G M pc lv (.ref x :: st) X cc ss K := by
  subst hp
  exact aw_pure (fun ad C hl k => lv_ifnull C.1 C.2.1 hd k) (fun n h1 h2 => vok_t h2) k
theorem aw_ifnonnull {G : GG} {M : MM} {pc : Nat} {lv : List (Nat × Value)} {st : List Value} {X : XH} {cc ss : Nat} {K : RK} (tgt : Nat) {x : Nat} {off : Int} (hd : decode (mC M) pc = .ok (.ifnonnull off, 3)) (ht : (pc : Int) + off = (tgt : Int)) (k : AW G M tgt lv st X cc ss K) : AW G M pc lv (.ref x :: st) X cc ss K := aw_pure (fun ad C hl k => lv_ifnonnull C.1 C.2.1 hd ht k) (fun n h1 h2 => vok_t h2) k
theorem aw_tableIn {G : GG} {M : MM} {pc : Nat} {lv : List (Nat × Value)} {st : List Value} {X : XH} {cc ss : Nat} {K : RK} (tgt : Nat) {dflt lo hi : Int} {offs : Array Int} {len : Nat} {x : Int32} {off : Int} (hd : decode (mC M) pc = .ok (.tableswitch dflt lo hi offs, len)) (h1 : ¬ x.toInt < lo) (h2 : ¬ hi < x.toInt) (ho : offs[(x.toInt - lo).toNat]? = some off) (ht : (pc : Int) + off = (tgt : Int)) (k : AW G M tgt lv st X cc ss K) : AW G M pc lv (.int x :: st) X cc ss K := aw_pure (fun ad C hl k => lv_tableIn C.1 C.2.1 hd h1 h2 ho ht k) (fun n h1 h2 => vok_t h2) k
theorem aw_tableOut {G : GG} {M : MM} {pc : Nat} {lv : List (Nat × Value)} {st : List Value} {X : XH} {cc ss : Nat} {K : RK} (tgt : Nat) {dflt lo hi : Int} {offs : Array Int} {len : Nat} {x : Int32} (hd : decode (mC M) pc = .ok (.tableswitch dflt lo hi offs, len)) (h : x.toInt < lo ∨ hi < x.toInt) (ht : (pc : Int) + dflt = (tgt : Int)) (k : AW G M tgt lv st X cc ss K) : AW G M pc lv (.int x :: st) X cc ss K := aw_pure (fun ad C hl k => lv_tableOut C.1 C.2.1 hd h ht k) (fun n h1 h2 => vok_t h2) k
theorem aw_ireturn {G : GG} {M : MM} {pc : Nat} {lv : List (Nat × Value)} {X : XH} {cc ss : Nat} {K : RK} {x : Int32} (hd : decode (mC M) pc = .ok (.ireturn, 1)) {ty : FieldType} (hr : mR M = some ty) (hn : narrow ty (.int x) = .int x) (hc : cc ≤ mCc M) (hs : ss ≤ mSs M) (k : K (.inl (some (.int x))) X) : AW G M pc lv [.int x] X cc ss K := by
  intro p e s m args below meth c H locs ls ad ad0 n0 C F
  refine vx_ret (W.widen hc hs ?_)
  have hlocks : meth.locks = false := C.2.2.2.2.2.2.2.1
  refine W.zret C.1 C.2.1 (C.2.2.1.trans hr) hn (fun t ht hW => ⟨⟨(some (.int x)), X, ad, rfl, k, ?_, F.2.2.2.2.2.1, F.2.2.2.2.2.2, fun v hv => ?_⟩, F.2.1.F ht⟩) F.2.1.2.2 hd
  · rw [ht]
    exact F.1.moved hW.alike
  · cases hv
    exact trivial
theorem aw_lreturn {G : GG} {M : MM} {pc : Nat} {lv : List (Nat × Value)} {X : XH} {cc ss : Nat} {K : RK} {x : Int64} (hd : decode (mC M) pc = .ok (.lreturn, 1)) (hr : mR M = some .long) (hc : cc ≤ mCc M) (hs : ss ≤ mSs M) (k : K (.inl (some (.long x))) X) : AW G M pc lv [.long x] X cc ss K := by
  intro p e s m args below meth c H locs ls ad ad0 n0 C F
  refine vx_ret (W.widen hc hs ?_)
  have hlocks : meth.locks = false := C.2.2.2.2.2.2.2.1
  refine W.lret C.1 C.2.1 (C.2.2.1.trans hr) (fun t ht hW => ⟨⟨(some (.long x)), X, ad, rfl, k, ?_, F.2.2.2.2.2.1, F.2.2.2.2.2.2, fun v hv => ?_⟩, F.2.1.F ht⟩) F.2.1.2.2 hd
  · rw [ht]
    exact F.1.moved hW.alike
  · cases hv
    exact trivial
theorem aw_dreturn {G : GG} {M : MM} {pc : Nat} {lv : List (Nat × Value)} {X : XH} {cc ss : Nat} {K : RK} {x : UInt64} (hd : decode (mC M) pc = .ok (.dreturn, 1)) (hr : mR M = some .double) (hc : cc ≤ mCc M) (hs : ss ≤ mSs M) (k : K (.inl (some (.double x))) X) : AW G M pc lv [.double x] X cc ss K := by
  intro p e s m args below meth c H locs ls ad ad0 n0 C F
  refine vx_ret (W.widen hc hs ?_)
  have hlocks : meth.locks = false := C.2.2.2.2.2.2.2.1
  refine W.dret C.1 C.2.1 (C.2.2.1.trans hr) (fun t ht hW => ⟨⟨(some (.double x)), X, ad, rfl, k, ?_, F.2.2.2.2.2.1, F.2.2.2.2.2.2, fun v hv => ?_⟩, F.2.1.F ht⟩) F.2.1.2.2 hd
  · rw [ht]
    exact F.1.moved hW.alike
  · cases hv
    exact trivial
theorem aw_areturn {G : GG} {M : MM} {pc : Nat} {lv : List (Nat × Value)} {X : XH} {cc ss : Nat} {K : RK} {x : Nat} (hd : decode (mC M) pc = .ok (.areturn, 1)) {ty : String} (hr : mR M = some (.object ty)) (hc : cc ≤ mCc M) (hs : ss ≤ mSs M) (k : K (.inl (some (.ref x))) X) : AW G M pc lv [.ref x] X cc ss K := by
  intro p e s m args below meth c H locs ls ad ad0 n0 C F
  refine vx_ret (W.widen hc hs ?_)
  have hlocks : meth.locks = false := C.2.2.2.2.2.2.2.1
  refine W.aret C.1 C.2.1 (C.2.2.1.trans hr) (Or.inl ⟨_, rfl⟩) (Or.inr ⟨_, rfl⟩) (fun t ht hW => ⟨⟨(some (.ref x)), X, ad, rfl, k, ?_, F.2.2.2.2.2.1, F.2.2.2.2.2.2, fun v hv => ?_⟩, F.2.1.F ht⟩) F.2.1.2.2 hd
  · rw [ht]
    exact F.1.moved hW.alike
  · cases hv
    exact F.2.2.2.2.1 _ List.mem_cons_self
theorem aw_return {G : GG} {M : MM} {pc : Nat} {lv : List (Nat × Value)} {X : XH} {cc ss : Nat} {K : RK} (hd : decode (mC M) pc = .ok (.return_, 1)) (hr : mR M = none) (hc : cc ≤ mCc M) (hs : ss ≤ mSs M) (k : K (.inl none) X) : AW G M pc lv [] X cc ss K := by
  intro p e s m args below meth c H locs ls ad ad0 n0 C F
  refine vx_ret (W.widen hc hs ?_)
  have hlocks : meth.locks = false := C.2.2.2.2.2.2.2.1
  refine W.vret C.1 C.2.1 (C.2.2.1.trans hr) (fun t ht hW => ⟨⟨none, X, ad, rfl, k, ?_, F.2.2.2.2.2.1, F.2.2.2.2.2.2, fun v hv => ?_⟩, F.2.1.F ht⟩) F.2.1.2.2 hd
  · rw [ht]
    exact F.1.moved hW.alike
  · cases hv
    
end XI
