/-! loading: the text becomes clauses, for both -/
section PX
/-- the buffer's scratch rows;  spot and its flag -/
def Gc (X X1 : XH) : Prop := ∀ a, 116 ≤ a → a ≤ 119 → hI X1 a = hI X a
theorem Gc.rf {X : XH} : Gc X X := fun _ _ _ => rfl
theorem Gc.tr {X X1 X2 : XH} (g : Gc X X1) (g' : Gc X1 X2) : Gc X X2 := fun a h1 h2 => (g' a h1 h2).trans (g a h1 h2)
theorem Gc.sI {X X1 : XH} {a k : Nat} {v : Int32} (g : Gc X X1) (h : a < 116) : Gc X (sI X1 a k v) := fun b h1 h2 => by
  rw [sI_ne (by omega)]
  exact g b h1 h2
theorem Gc.fr {X X1 : XH} (f : Fr (dRg 14 87) X X1) : Gc X X1 := fun a h1 h2 => (f.2.2.2 a (dRg_o (by omega))).1
section
variable {X : XH} {c : St} {Zz : XH} {n r : Nat}
theorem s_pushF {K : XH → Prop} (w : Wd X c Zz) (k : ∀ X1, Wd X1 (pushS c) Zz → Gc X X1 → K X1) : w_X1_push 14 2 X K := by
  have q := w.1
  have hg : TR X 2 (zG c) := w.2.1.1
  have hh : HS X (zH c) (zP c) := w.2.1.2.1
  have h1 := hh.1
  have h2 : zH c ≤ 6 := hh.2.1
  unfold w_X1_push
  have e6 : (100 ≤ 107) = True := by decide
  have en : (15 ≠ 0) = True := by decide
  rw [q.r14_0, q.t14, q.t15, q.n15, h1, of_lt (by omega) (by decide), e6, en]
  refine ⟨rfl, trivial, trivial, fun h => ?_, fun h => ?_⟩
  · refine s_push16 q hg hh h (fun X1 f t => k X1 ?_ (Gc.fr f))
    have w1 := w.his f t
    unfold pushS
    have h' : c.2.1 < 6 := h
    rw [if_pos h', if_pos h']
    exact w1
  · have h6 : zH c = 6 := by omega
    rw [h6] at hh
    refine s_dropOldest q hh (fun X1 f t => s_push16 f.1 (hg.fr f fun j hj => dRg_o (by omega)) t (by decide) (fun X2 f2 t2 => k X2 ?_ (Gc.fr (f.tr f2))))
    have w1 := w.his (f.tr f2) t2
    unfold pushS
    have h' : ¬ c.2.1 < 6 := h
    rw [if_neg h', if_neg h']
    exact w1
theorem s_unmixF {K : XH → Prop} (w : Wd X c Zz) (hr : r < 4) (k : ∀ X1, Wd X1 (unmA (zG c) r, c.2) Zz → Gc X X1 → K X1) : w_X3_unmixEverywhere 2 (Int32.ofNat r) X K := by
  intro P hP
  have st : ∀ (t : Nat) (c' : St) (X1 : XH), t < 3 → Wd X1 c' Zz → Gc X X1 → (∀ X2, Wd X2 (unm (zG c') r t, c'.2) Zz → Gc X X2 → P 2 (Int32.ofNat r) (Int32.ofNat (t + 1)) X2) → P 2 (Int32.ofNat r) (Int32.ofNat t) X1 := by
    intro t c' X1 ht w1 g1 kk
    refine hP _ _ _ _ ⟨fun he => absurd he (by rw [le3 ht]; exact not_false), fun _ => ⟨w1.1.t2, ?_⟩⟩
    rw [e_unmix w1.1 hr ht, of_s]
    exact kk _ ((w1.pM hr ht).pZ hr ht) ((g1.sI (by decide)).sI (by decide))
  refine st 0 c X (by decide) w Gc.rf (fun X1 w1 g1 => st 1 _ X1 (by decide) w1 g1 (fun X2 w2 g2 => st 2 _ X2 (by decide) w2 g2 (fun X3 w3 g3 => hP _ _ _ _ ⟨fun _ => k X3 w3 g3, fun hne => absurd le3t (by simpa using hne)⟩)))
theorem s_addF {S L Y : Int32} {K : Int32 → XH → Prop} (w : Wd X c Zz) (hn : Cn (zG c) n) (h24 : n < 24) (hr : r < 4) (k : ∀ X1, Wd X1 (addG (zG c) n r S L Y, c.2) Zz → Gc X X1 → K (Int32.ofNat n) X1) : w_X3_add 2 (Int32.ofNat r) S L Y X K := by
  have q := w.1
  have h : TR X 2 (zG c) := w.2.1.1
  have e0 := h.cn hn
  unfold w_X3_add
  have q1 : Shp (sI X 3 n (Int32.ofNat r)) := q
  have q2 : Shp (sI (sI X 3 n (Int32.ofNat r)) 4 n S) := q
  have q3 : Shp (sI (sI (sI X 3 n (Int32.ofNat r)) 4 n S) 5 n L) := q
  have w1 := (((w.pR (v := Int32.ofNat r) h24).pS (v := S) h24).pL (v := L) h24).pH (v := Y) h24
  have e1 : hI (sI (sI (sI (sI X 3 n (Int32.ofNat r)) 4 n S) 5 n L) 6 n Y) 2 0 = Int32.ofNat n := by
    rw [sI_ne (by decide), sI_ne (by decide), sI_ne (by decide), sI_ne (by decide)]
    exact e0
  simp only [q.t2, q.r2_1, q.r2_2, q.r2_3, q.r2_4, e0, put_eq q.t3 q.n3 h24 (by decide), put_eq q1.t4 q1.n4 h24 (by decide), put_eq q2.t5 q2.n5 h24 (by decide), put_eq q3.t6 q3.n6 h24 (by decide), e1, hty_sI, hln_sI, hR_sI, cnd1, cnd2, b2i_0, b2i_1, b2i_z, if_true, if_false, true_and, and_true, true_implies, false_implies, ne_eq, not_false_eq_true, not_true_eq_false, eq_self, exIA, exIS, exAI, exAS, exSI, exSA, true_or, or_true, false_or, or_false, Nat.reduceEqDiff, Bool.true_and, Bool.and_true, Bool.false_and, Bool.and_false, Bool.true_eq_false, Bool.false_eq_true, i10, i20, i30, vp0, nc0]
  exact s_unmixF (w1.p0 (v := Int32.ofNat n + 1)) hr (fun X5 w5 g5 => k X5 w5 (((((Gc.rf.sI (by decide)).sI (by decide)).sI (by decide)).sI (by decide)).sI (by decide) |>.tr g5))
end
section
end
def rowsAt (X : XH) : Nat → List R4 → Prop
  | _, [] => True
  | k, x :: l => rowAt X k x ∧ rowsAt X (k + 1) l
def okL : List R4 → Prop
  | [] => True
  | x :: l => okR x ∧ okL l
def sgOk : List R4 → Bool
  | [] => true
  | x :: l => decide (x.2.2.2 ≤ x.2.2.1) && sgOk l
def addL (g : Row) (n : Nat) : List R4 → Row
  | [] => g
  | x :: l => addL (addG g n x.1 (Int32.ofNat x.2.1) (Int32.ofNat x.2.2.1) (Int32.ofNat x.2.2.2)) (n + 1) l
theorem ext_lo : ∀ (l : List R4) (rows : Nat → R4) (p k : Nat), k < p → ext rows p l k = rows k
  | [], _, _, _, _ => rfl
  | x :: l, rows, p, k, h => by
    show ext (addR rows p x) (p + 1) l k = _
    rw [ext_lo l _ _ _ (by omega)]
    unfold addR
    rw [if_neg (by omega)]
theorem rows_of {X : XH} : ∀ (l : List R4) (rows : Nat → R4) (p : Nat), (∀ k, k < p + l.length → rowAt X k (ext rows p l k)) → rowsAt X p l
  | [], _, _, _ => trivial
  | x :: l, rows, p, h => by
    refine ⟨?_, rows_of l (addR rows p x) (p + 1) (fun k hk => h k (by rw [List.length_cons]; omega))⟩
    have h1 := h p (by rw [List.length_cons]; omega)
    have e : ext rows p (x :: l) p = x := by
      show ext (addR rows p x) (p + 1) l p = _
      rw [ext_lo l _ _ _ (by omega)]
      unfold addR
      rw [if_pos rfl]
    rw [e] at h1
    exact h1
theorem rowsAt.cg {X X1 : XH} (g : Gc X X1) : ∀ (l : List R4) (k : Nat), rowsAt X k l → rowsAt X1 k l
  | [], _, _ => trivial
  | x :: l, k, h => by
    refine ⟨?_, rowsAt.cg g l (k + 1) h.2⟩
    have e := h.1
    unfold rowAt at e ⊢
    rw [g 116 (by decide) (by decide), g 117 (by decide) (by decide), g 118 (by decide) (by decide), g 119 (by decide) (by decide)]
    exact e
theorem wh_ok {n : Nat} {u : Nat → Nat} : ∀ (f i : Nat) (l : List R4), i ≤ n → (whR n u f i).2 = some l → okL l ∧ l.length ≤ f ∧ 1 ≤ l.length
  | 0, i, l, _, h => nomatch h
  | f + 1, i, l, hi, h => by
    have pb := prt_b (u := u) hi
    rcases e : prtR n u i with ⟨j, _ | x⟩
    · rw [wh_n e] at h
      exact nomatch h
    · rw [e] at pb
      obtain ⟨b1, b2, b3⟩ := pb
      have b4 := b3 x rfl
      simp only at b2
      by_cases hj : j < n
      · by_cases h59 : u j = 59
        · rw [wh_c e hj h59] at h
          cases h2 : (whR n u f (j + 1)).2 with
          | none =>
            rw [h2] at h
            exact nomatch h
          | some l' =>
            rw [h2] at h
            have el : x :: l' = l := Option.some.inj h
            have := wh_ok f (j + 1) l' (by omega) h2
            rw [← el, List.length_cons]
            exact ⟨⟨b4.2, this.1⟩, by omega, by omega⟩
        · rw [wh_b e hj h59] at h
          exact nomatch h
      · rw [wh_e e hj] at h
        have el : [x] = l := Option.some.inj h
        rw [← el]
        exact ⟨⟨b4.2, trivial⟩, by show 1 ≤ f + 1; omega, Nat.le_refl 1⟩
theorem addL_inv : ∀ (l : List R4) (g : Row) (n : Nat), Inv g n → n + l.length ≤ 24 → okL l → sgOk l = true → Inv (addL g n l) (n + l.length)
  | [], _, _, i, _, _, _ => i
  | x :: l, g, n, i, hl, ho, hs => by
    rw [List.length_cons] at hl ⊢
    simp only [sgOk, Bool.and_eq_true, decide_eq_true_eq] at hs
    obtain ⟨⟨o1, o2, o3, o4, o5⟩, o6⟩ := ho
    have i1 := i.add (by omega) o1 o2 o3 o4 o5 hs.1
    have := addL_inv l _ (n + 1) i1 (by omega) o6 hs.2
    rw [show n + (l.length + 1) = n + 1 + l.length by omega]
    exact this
variable {X : XH} {c σ : St} {Zz : XH}
theorem c_sbl {P : Nat → Int32 → Int32 → XH → Prop} {K : Int32 → XH → Prop} {cnt : Nat} (q : Shp X) (h60 : cnt ≤ 60) (st : ∀ k v1 v2, k < cnt → hI X 119 k = Int32.ofNat v1 → hI X 118 k = Int32.ofNat v2 → v1 < 4096 → v2 < 4096 → (if v1 ≤ v2 then P 114 (Int32.ofNat cnt) (Int32.ofNat (k + 1)) X else K 1 X) → P 114 (Int32.ofNat cnt) (Int32.ofNat k) X) (en : K 0 X → P 114 (Int32.ofNat cnt) (Int32.ofNat cnt) X) : ∀ (l : List R4) (k : Nat), k + l.length = cnt → rowsAt X k l → okL l → K (b2i (!(sgOk l))) X → P 114 (Int32.ofNat cnt) (Int32.ofNat k) X
  | [], k, hk, _, _, kk => by
    have e : k = cnt := hk
    rw [e]
    exact en kk
  | x :: l, k, hk, hr, ho, kk => by
    rw [List.length_cons] at hk
    obtain ⟨⟨o1, o2, o3, o4, o5⟩, o6⟩ := ho
    refine st k _ _ (by omega) hr.1.2.2.2 hr.1.2.2.1 (by omega) (by omega) ?_
    by_cases h : x.2.2.2 ≤ x.2.2.1
    · rw [if_pos h]
      simp only [sgOk, decide_eq_true h, Bool.true_and] at kk
      exact c_sbl q h60 st en l (k + 1) (by omega) hr.2 o6 kk
    · rw [if_neg h]
      simp only [sgOk, decide_eq_false h, Bool.false_and] at kk
      exact kk
theorem c_ld {K : Int32 → XH → Prop} {KX : String → XH → Prop} {cnt n : Nat} (h60 : cnt ≤ 60) (l0 : List R4) (w : Wd X c Zz) (i : Inv (zG c) n) (hl : l0.length = cnt) (h24 : n + cnt ≤ 24) (hr : rowsAt X 0 l0) (ho : okL l0) (hs : sgOk l0 = true) (k : ∀ X1, Wd X1 (clrS (addL (zG c) n l0, c.2)) Zz → K (Int32.ofNat (n + cnt)) X1) : w_X4_load_78 1 (Int32.ofNat cnt) 0 X K KX := by
  intro P hP
  have main : ∀ (l : List R4) (j : Nat) (g : Row) (X1 : XH), j + l.length = cnt → Wd X1 (g, c.2) Zz → Inv g (n + j) → rowsAt X1 j l → okL l → sgOk l = true → (∀ X2, Wd X2 (clrS (addL g (n + j) l, c.2)) Zz → K (Int32.ofNat (n + cnt)) X2) → P 1 (Int32.ofNat cnt) (Int32.ofNat j) X1 := by
    intro l
    induction l with
    | nil =>
      intro j g X1 hj w1 i1 _ _ _ kk
      have ej : j = cnt := hj
      subst ej
      refine hP _ _ _ _ ?_
      have q1 := w1.1
      have e0 : hI (sI X1 114 1 0) 2 0 = Int32.ofNat (n + j) := by
        rw [sI_ne (by decide)]
        exact w1.2.1.1.cn i1.cn
      simp only [q1.t1, q1.r1_0, q1.r1_4, q1.t114, q1.t2, ltt (show j < 4096 by omega), e0, hty_sI, hln_sI, hR_sI, cnd1, cnd2, b2i_0, b2i_1, b2i_z, if_true, if_false, true_and, and_true, true_implies, false_implies, ne_eq, not_false_eq_true, not_true_eq_false, eq_self, exIA, exIS, exAI, exAS, exSI, exSA, true_or, or_true, false_or, or_false, Nat.reduceEqDiff, Bool.true_and, Bool.and_true, Bool.false_and, Bool.and_false, Bool.true_eq_false, Bool.false_eq_true, i10, i20, i30, vp0, nc0]
      exact kk _ w1.clrC
    | cons x l ih =>
      intro j g X1 hj w1 i1 hr ho hs kk
      rw [List.length_cons] at hj
      have q1 := w1.1
      have hn2 := i1.cn.2
      simp only [sgOk, Bool.and_eq_true, decide_eq_true_eq] at hs
      obtain ⟨⟨o1, o2, o3, o4, o5⟩, o6⟩ := ho
      obtain ⟨⟨r1, r2, r3, r4⟩, r5⟩ := hr
      refine hP _ _ _ _ ?_
      simp only [q1.t1, q1.r1_0, q1.r1_4, q1.t114, q1.t2, q1.r114_2, q1.r114_3, q1.r114_4, q1.r114_5, ltl (show j < cnt by omega) (show cnt < 4096 by omega), at_eq q1.t116 q1.n116 (show j < 60 by omega) (show 60 < 4096 by decide), at_eq q1.t117 q1.n117 (show j < 60 by omega) (show 60 < 4096 by decide), at_eq q1.t118 q1.n118 (show j < 60 by omega) (show 60 < 4096 by decide), at_eq q1.t119 q1.n119 (show j < 60 by omega) (show 60 < 4096 by decide), r1, r2, r3, r4, hty_sI, hln_sI, hR_sI, cnd1, cnd2, b2i_0, b2i_1, b2i_z, if_true, if_false, true_and, and_true, true_implies, false_implies, ne_eq, not_false_eq_true, not_true_eq_false, eq_self, exIA, exIS, exAI, exAS, exSI, exSA, true_or, or_true, false_or, or_false, Nat.reduceEqDiff, Bool.true_and, Bool.and_true, Bool.false_and, Bool.and_false, Bool.true_eq_false, Bool.false_eq_true, i10, i20, i30, vp0, nc0]
      refine s_addF (n := n + j) w1 i1.cn (by omega) o1 (fun X2 w2 g2 => ?_)
      simp only [of_s]
      exact ih (j + 1) _ X2 (by omega) w2 (i1.add (by omega) o1 o2 o3 o4 o5 hs.1) (rowsAt.cg g2 l (j + 1) r5) o6 hs.2 kk
  exact main l0 0 (zG c) X (by omega) w i hr ho hs k
end PX
