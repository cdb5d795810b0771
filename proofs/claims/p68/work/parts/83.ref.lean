/-! refuses: every call that must be refused is, and nothing changes -/
section RF
theorem st {w : XH → (Int32 → XH → Prop) → Prop} {σ : St} {v : Int32} (op : Op w σ v σ) {X Zz : XH} (wd : Wd X σ Zz) {F R : XH → Prop} (k : ∀ X1, Wd X1 σ Zz → R X1) : w X (fun u X1 => (¬ u = v → F X1) ∧ (u = v → R X1)) := op X Zz _ wd (fun X1 w1 => ⟨fun h => absurd rfl h, fun _ => k X1 w1⟩)
theorem st' {w : XH → (Int32 → XH → Prop) → Prop} {σ : St} {v c : Int32} (op : Op w σ v σ) (e : v = c) {X Zz : XH} (wd : Wd X σ Zz) {F R : XH → Prop} (k : ∀ X1, Wd X1 σ Zz → R X1) : w X (fun u X1 => (¬ u = c → F X1) ∧ (u = c → R X1)) := op X Zz _ wd (fun X1 w1 => ⟨fun h => absurd e h, fun _ => k X1 w1⟩)
theorem a_f {p q : Bool} (h : p = false) : (p && q) = false := by rw [h]; rfl
theorem a_f2 {p q : Bool} (h : q = false) : (p && q) = false := by rw [h, Bool.and_false]
theorem z0 : inT (0 : Int32) = true := rfl
theorem z1 : inR (0 : Int32) = true := rfl
theorem z2 : inS (0 : Int32) = true := rfl
variable {σ : St} {n B Y : Nat} {X Zz : XH} {K : Int32 → XH → Prop}
theorem ipl {k lo hi : Nat} (hY : Y < 100000) (hk : hi < k + 0 ∨ hi < k) (hh : k < 2048) : inG (Int32.ofNat k + Int32.ofNat Y) (Int32.ofNat lo) (Int32.ofNat hi) = false := by
  rw [la]
  exact inG_big (by omega) (by omega) (by omega)
theorem r_70 {l3 l4 l5 s0 : Int32} (i : Inv (zG σ) n) (hY : Y < 100000) (hC : inC (zG σ 366) l3 = false) (hR : inR l4 = false) (hS : inS l5 = false) (hT : inT s0 = false) (w : Wd X σ Zz) (k : ∀ X1, Wd X1 σ Zz → w_L_refuses_648 1 (Int32.ofNat Y) (zG σ 366) l4 s0 1 0 144 864 X1 K) : w_L_refuses_70 1 (Int32.ofNat Y) (zG σ 366) l3 l4 l5 s0 0 0 X K := by
  refine ⟨by omega, by omega, st (rf_addClause_0 (n := n) hR) w (fun X0 w0 => ?_)⟩
  refine ⟨by omega, by omega, st (rf_addClause_1 (n := n) z1 hS) w0 (fun X1 w1 => ?_)⟩
  refine ⟨by omega, by omega, st (rf_addClause_2 (r := 0) (s := 0) i (by decide) (by decide) (ipl (k := 61) hY (lo := 4) (by decide) (by decide))) w1 (fun X2 w2 => ?_)⟩
  refine ⟨by omega, by omega, st (rf_changeLips_0 i.cn hC) w2 (fun X3 w3 => ?_)⟩
  refine ⟨by omega, by omega, st (rf_changeSigh_0 i.cn hC) w3 (fun X4 w4 => ?_)⟩
  refine ⟨by omega, by omega, st (rf_moveClause_0 i.cn hC) w4 (fun X5 w5 => ?_)⟩
  refine ⟨by omega, by omega, st (rf_translate_0 i.cn hC) w5 (fun X6 w6 => ?_)⟩
  refine ⟨by omega, by omega, st (rf_annex_0 i.cn hC) w6 (fun X7 w7 => ?_)⟩
  refine ⟨by omega, by omega, st (rf_bringBack_0 i.cn hC) w7 (fun X8 w8 => ?_)⟩
  refine ⟨by omega, by omega, st (rf_cast_0 (n := n) hS) w8 (fun X9 w9 => ?_)⟩
  refine ⟨by omega, by omega, st (rf_cast_1 (n := n) z2 hT) w9 (fun X10 w10 => ?_)⟩
  refine ⟨by omega, by omega, st (rf_cast_2 (s := 0) (t := 0) i (by decide) (by decide) (ipl (k := 121) hY (lo := 20) (by decide) (by decide))) w10 (fun X11 w11 => ?_)⟩
  refine ⟨by omega, by omega, st (rf_cast_2 (s := 4) (t := 2) i (by decide) (by decide) (inG_lo (lo := 20) (sub_lo (k := 19) hY (by decide) (by decide)))) w11 (fun X12 w12 => ?_)⟩
  refine ⟨by omega, by omega, st (rf_recordIt_0 i.cn hC) w12 (fun X13 w13 => ?_)⟩
  refine ⟨by omega, by omega, st (rf_wipe_0 i.cn hC) w13 (fun X14 w14 => ?_)⟩
  refine ⟨by omega, by omega, st (rf_mix_0 (n := n) hR) w14 (fun X15 w15 => ?_)⟩
  refine ⟨by omega, by omega, st (rf_mix_1 (n := n) z1 hT) w15 (fun X16 w16 => ?_)⟩
  refine ⟨by omega, by omega, st (rf_sign_0 (n := n) hS) w16 (fun X17 w17 => ?_)⟩
  refine ⟨by omega, by omega, st (rf_sign_1 (n := n) z2 hR) w17 (fun X18 w18 => ?_)⟩
  refine ⟨by omega, by omega, st (rf_sign_2 (n := n) z2 z1 hT) w18 (fun X19 w19 => ?_)⟩
  refine ⟨by omega, by omega, st (rf_append_0 (inG_lo (lo := 33) (sub_lo (k := 32) hY (by decide) (by decide)))) w19 (fun X20 w20 => ?_)⟩
  refine ⟨by omega, by omega, st (rf_append_0 (ipl (k := 127) hY (lo := 33) (by decide) (by decide))) w20 (fun X21 w21 => ?_)⟩
  refine ⟨by omega, by omega, st (rf_keep_0 (ipl (k := 2) hY (lo := 0) (by decide) (by decide))) w21 (fun X22 w22 => ?_)⟩
  refine ⟨by omega, by omega, st (rf_goBack_0 (inG_lo (lo := 0) (neg_y hY))) w22 (fun X23 w23 => ?_)⟩
  refine ⟨by omega, by omega, st (lb_clauseOf hC) w23 (fun X24 w24 => ?_)⟩
  refine ⟨by omega, by omega, st (lb_framesOf (a_f hC)) w24 (fun X25 w25 => ?_)⟩
  refine ⟨by omega, by omega, st (lb_annexedOf (a_f hC)) w25 (fun X26 w26 => ?_)⟩
  refine ⟨by omega, by omega, st (lb_sessionOf (a_f hC)) w26 (fun X27 w27 => ?_)⟩
  refine ⟨by omega, by omega, st (lb_roomFor (a_f hC)) w27 (fun X28 w28 => ?_)⟩
  refine ⟨by omega, by omega, st (lb_fits (a_f hC)) w28 (fun X29 w29 => ?_)⟩
  refine ⟨by omega, by omega, st (lb_hundredthsOf (a_f hC)) w29 (fun X30 w30 => ?_)⟩
  refine ⟨by omega, by omega, st (lb_reasonAgainst (a_f hC)) w30 (fun X31 w31 => ?_)⟩
  refine ⟨by omega, by omega, st (lb_staminaOf (a_f hS)) w31 (fun X32 w32 => ?_)⟩
  refine ⟨by omega, by omega, st (lb_strengthLeft (a_f2 hT)) w32 (fun X33 w33 => ?_)⟩
  refine ⟨by omega, by omega, st (lb_framesOfVoice (a_f hS)) w33 (fun X34 w34 => ?_)⟩
  refine ⟨by omega, by omega, st (lb_sessionsByGoing (a_f2 hT)) w34 (fun X35 w35 => ?_)⟩
  refine ⟨by omega, by omega, st (lb_sessionsByTable (a_f hS)) w35 (fun X36 w36 => ?_)⟩
  refine ⟨by omega, by omega, st (lb_reelAt hR) w36 (fun X37 w37 => ?_)⟩
  refine ⟨by omega, by omega, st (lb_speaksIn (a_f2 hR)) w37 (fun X38 w38 => ?_)⟩
  refine ⟨by omega, by omega, st (lb_mixOf (a_f hR)) w38 (fun X39 w39 => ?_)⟩
  refine ⟨by omega, by omega, st (lb_hasSigned (a_f2 (a_f2 hT))) w39 (fun X40 w40 => ?_)⟩
  refine ⟨by omega, by omega, st (lb_ready hT) w40 (fun X41 w41 => ?_)⟩
  refine ⟨by omega, by omega, st (lb_tongueAt hT) w41 (fun X42 w42 => ?_)⟩
  refine ⟨by omega, by omega, st (lb_leastAnnex (a_f hC)) w42 (fun X43 w43 => ?_)⟩
  refine ⟨by omega, by omega, st (lb_longestSigh hC) w43 (fun X44 w44 => ?_)⟩
  refine ⟨by omega, by omega, st (lb_nextClause hT) w44 (fun X45 w45 => ?_)⟩
  refine ⟨by omega, by omega, lb_meanFit hT w45 ?_⟩
  exact ⟨fun h => absurd (by decide +kernel) h, fun _ => k _ w45⟩
end RF
