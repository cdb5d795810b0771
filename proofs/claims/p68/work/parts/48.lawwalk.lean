/-! the walks of methods, as predicates -/
section XWK10
set_option maxRecDepth 20000 in
theorem aw_L_law_167 {G : GG} (hG : G.1.stackTraces = false) {P67 : Nat → Nat → Nat → Int32 → Int32 → Nat → Nat → XH → Prop} {l0 : Nat} {l1 : Nat} {l2 : Nat} {l4 : Int32} {s0 : Nat} {cc : Nat} {ss : Nat} {X : XH} {K : Int32 → XH → Prop} (hO67 : ∀ (l0 : Nat) (l1 : Nat) (l2 : Nat) (l3 : Int32) (l4 : Int32) (cc : Nat) (ss : Nat) (X : XH), P67 l0 l1 l2 l3 l4 cc ss X → AW G M_L_law 67 [(0, .ref 0), (1, .ref l1), (2, .ref l2), (3, .int l3), (4, .int l4)] [] X cc ss (KrI K)) (h : w_L_law_167 G P67 l0 l1 l2 l4 s0 cc ss X K) : AW G M_L_law 167 [(0, .ref 0), (1, .ref l1), (2, .ref l2), (4, .int l4)] [.ref s0] X cc ss (KrI K) := by
  unfold w_L_law_167 at h
  obtain ⟨g1, h⟩ := h
  obtain ⟨g2, h⟩ := h
  refine aw_callS (M' := M_L_hangs) 170 321 [.ref _] [] dL_law_167 lk_RL_321 ms_L_hangs mp_L_hangs rfl ⟨leb rfl, leb rfl⟩ rfl (leb rfl) g1 g2 rfl h (kkI fun v4 X3 h => ?_) (kxN KrI.no)
  refine aw_widen (cc' := cc + 4000) (ss' := ss + 24000) (Nat.le_refl _) (Nat.le_refl _) ?_
  refine aw_if_eq 177 173 dL_law_170 rfl rfl (fun c5 => ?_) (fun c5 => ?_)
  · replace h := h.1 c5
    refine aw_iconst 178 (v := 0) dL_law_177 kI_0 rfl ?_
    refine aw_istore_n 179 (lv' := [(3, _), (0, _), (1, _), (2, _), (4, _)]) dL_law_178 rfl (ltb rfl) rfl rfl ?_
    refine aw_iinc 182 (v := 1) (lv' := [(4, _), (3, _), (0, _), (1, _), (2, _)]) dL_law_179 4 rfl kI_1 (ltb rfl) rfl rfl ?_
    refine aw_goto 67 dL_law_182 rfl ?_
    exact aw_pick [2, 3, 4, 1, 0] rfl (hO67 _ _ _ _ _ _ _ _ h)
  · replace h := h.2 c5
    refine aw_iconst 174 (v := 1) dL_law_173 kI_1 rfl ?_
    refine aw_goto 178 dL_law_174 rfl ?_
    refine aw_istore_n 179 (lv' := [(3, _), (0, _), (1, _), (2, _), (4, _)]) dL_law_178 rfl (ltb rfl) rfl rfl ?_
    refine aw_iinc 182 (v := 1) (lv' := [(4, _), (3, _), (0, _), (1, _), (2, _)]) dL_law_179 4 rfl kI_1 (ltb rfl) rfl rfl ?_
    refine aw_goto 67 dL_law_182 rfl ?_
    exact aw_pick [2, 3, 4, 1, 0] rfl (hO67 _ _ _ _ _ _ _ _ h)
set_option maxRecDepth 20000 in
theorem aw_L_law_114 {G : GG} (hG : G.1.stackTraces = false) {P67 : Nat → Nat → Nat → Int32 → Int32 → Nat → Nat → XH → Prop} {l0 : Nat} {l1 : Nat} {l2 : Nat} {l4 : Int32} {l5 : Int32} {l6 : Int32} {cc : Nat} {ss : Nat} {X : XH} {K : Int32 → XH → Prop} (hO67 : ∀ (l0 : Nat) (l1 : Nat) (l2 : Nat) (l3 : Int32) (l4 : Int32) (cc : Nat) (ss : Nat) (X : XH), P67 l0 l1 l2 l3 l4 cc ss X → AW G M_L_law 67 [(0, .ref 0), (1, .ref l1), (2, .ref l2), (3, .int l3), (4, .int l4)] [] X cc ss (KrI K)) (h : w_L_law_114 G P67 l0 l1 l2 l4 l5 l6 cc ss X K) : AW G M_L_law 114 [(0, .ref 0), (1, .ref l1), (2, .ref l2), (4, .int l4), (5, .int l5), (6, .int l6)] [] X cc ss (KrI K) := by
  unfold w_L_law_114 at h
  refine aw_aload_n 115 dL_law_114 rfl 2 rfl rfl ?_
  refine aw_iload 117 dL_law_115 4 rfl rfl ?_
  obtain ⟨g1, h⟩ := h
  obtain ⟨g2, h⟩ := h
  refine aw_callS (M' := M_L_acts) 120 329 [.ref _, .int _] [] dL_law_117 lk_RL_329 ms_L_acts mp_L_acts rfl ⟨leb rfl, leb rfl⟩ rfl (leb rfl) g1 g2 rfl h (kkI fun v4 X3 h => ?_) (kxN KrI.no)
  refine aw_widen (cc' := cc + 100) (ss' := ss + 600) (Nat.le_refl _) (Nat.le_refl _) ?_
  refine aw_iload 122 dL_law_120 5 rfl rfl ?_
  refine aw_icmp_ne 177 125 dL_law_122 rfl rfl (fun c5 => ?_) (fun c5 => ?_)
  · replace h := h.1 c5
    refine aw_iconst 178 (v := 0) dL_law_177 kI_0 rfl ?_
    refine aw_istore_n 179 (lv' := [(3, _), (0, _), (1, _), (2, _), (4, _), (5, _), (6, _)]) dL_law_178 rfl (ltb rfl) rfl rfl ?_
    refine aw_iinc 182 (v := 1) (lv' := [(4, _), (3, _), (0, _), (1, _), (2, _), (5, _), (6, _)]) dL_law_179 4 rfl kI_1 (ltb rfl) rfl rfl ?_
    refine aw_goto 67 dL_law_182 rfl ?_
    exact aw_pick [2, 3, 4, 1, 0] rfl (hO67 _ _ _ _ _ _ _ _ h)
  · replace h := h.2 c5
    refine aw_aload_n 126 dL_law_125 rfl 1 rfl rfl ?_
    obtain ⟨g6, h⟩ := h
    obtain ⟨g7, h⟩ := h
    obtain ⟨g10, h⟩ := h
    refine aw_callV (M' := M_X4_savedStates) 129 246 4 l1 [] [] dL_law_126 lk_RL_246 mv_X4_savedStates mp_X4_savedStates rfl ⟨leb rfl, leb rfl⟩ rfl (ltb rfl) g10 rfl (leb rfl) g6 g7 rfl h (kkI fun v9 X8 h => ?_) (kxN KrI.no)
    refine aw_widen (cc' := cc + 100) (ss' := ss + 600) (Nat.le_refl _) (Nat.le_refl _) ?_
    refine aw_aload_n 130 dL_law_129 rfl 2 rfl rfl ?_
    obtain ⟨g11, h⟩ := h
    obtain ⟨g12, h⟩ := h
    obtain ⟨g15, h⟩ := h
    refine aw_callV (M' := M_X4_savedStates) 133 246 4 l2 [] [.int _] dL_law_130 lk_RL_246 mv_X4_savedStates mp_X4_savedStates rfl ⟨leb rfl, leb rfl⟩ rfl (ltb rfl) g15 rfl (leb rfl) g11 g12 rfl h (kkI fun v14 X13 h => ?_) (kxN KrI.no)
    refine aw_widen (cc' := cc + 100) (ss' := ss + 600) (Nat.le_refl _) (Nat.le_refl _) ?_
    refine aw_icmp_ne 177 136 dL_law_133 rfl rfl (fun c16 => ?_) (fun c16 => ?_)
    · replace h := h.1 c16
      refine aw_iconst 178 (v := 0) dL_law_177 kI_0 rfl ?_
      refine aw_istore_n 179 (lv' := [(3, _), (0, _), (1, _), (2, _), (4, _), (5, _), (6, _)]) dL_law_178 rfl (ltb rfl) rfl rfl ?_
      refine aw_iinc 182 (v := 1) (lv' := [(4, _), (3, _), (0, _), (1, _), (2, _), (5, _), (6, _)]) dL_law_179 4 rfl kI_1 (ltb rfl) rfl rfl ?_
      refine aw_goto 67 dL_law_182 rfl ?_
      exact aw_pick [2, 3, 4, 1, 0] rfl (hO67 _ _ _ _ _ _ _ _ h)
    · replace h := h.2 c16
      refine aw_aload_n 137 dL_law_136 rfl 1 rfl rfl ?_
      obtain ⟨g17, h⟩ := h
      obtain ⟨g18, h⟩ := h
      obtain ⟨g21, h⟩ := h
      refine aw_callV (M' := M_X4_digest) 140 337 4 l1 [] [] dL_law_137 lk_RL_337 mv_X4_digest mp_X4_digest rfl ⟨leb rfl, leb rfl⟩ rfl (ltb rfl) g21 rfl (leb rfl) g17 g18 rfl h (kkL fun v20 X19 h => ?_) (kxN KrL.no)
      refine aw_widen (cc' := cc + 100) (ss' := ss + 600) (Nat.le_refl _) (Nat.le_refl _) ?_
      refine aw_aload_n 141 dL_law_140 rfl 2 rfl rfl ?_
      obtain ⟨g22, h⟩ := h
      obtain ⟨g23, h⟩ := h
      obtain ⟨g26, h⟩ := h
      refine aw_callV (M' := M_X4_digest) 144 337 4 l2 [] [.long _] dL_law_141 lk_RL_337 mv_X4_digest mp_X4_digest rfl ⟨leb rfl, leb rfl⟩ rfl (ltb rfl) g26 rfl (leb rfl) g22 g23 rfl h (kkL fun v25 X24 h => ?_) (kxN KrL.no)
      refine aw_widen (cc' := cc + 100) (ss' := ss + 600) (Nat.le_refl _) (Nat.le_refl _) ?_
      refine aw_lcmp 145 dL_law_144 rfl ?_
      refine aw_if_ne 177 148 dL_law_145 rfl rfl (fun c27 => ?_) (fun c27 => ?_)
      · replace h := h.1 c27
        refine aw_iconst 178 (v := 0) dL_law_177 kI_0 rfl ?_
        refine aw_istore_n 179 (lv' := [(3, _), (0, _), (1, _), (2, _), (4, _), (5, _), (6, _)]) dL_law_178 rfl (ltb rfl) rfl rfl ?_
        refine aw_iinc 182 (v := 1) (lv' := [(4, _), (3, _), (0, _), (1, _), (2, _), (5, _), (6, _)]) dL_law_179 4 rfl kI_1 (ltb rfl) rfl rfl ?_
        refine aw_goto 67 dL_law_182 rfl ?_
        exact aw_pick [2, 3, 4, 1, 0] rfl (hO67 _ _ _ _ _ _ _ _ h)
      · replace h := h.2 c27
        refine aw_iload 150 dL_law_148 3 rfl rfl ?_
        refine aw_iconst 151 (v := 5) dL_law_150 kI_5 rfl ?_
        refine aw_irem 152 dL_law_151 (by decide) rfl ?_
        refine aw_if_gt 173 155 dL_law_152 rfl rfl (fun c28 => ?_) (fun c28 => ?_)
        · replace h := h.1 c28
          refine aw_iconst 174 (v := 1) dL_law_173 kI_1 rfl ?_
          refine aw_goto 178 dL_law_174 rfl ?_
          refine aw_istore_n 179 (lv' := [(3, _), (0, _), (1, _), (2, _), (4, _), (5, _), (6, _)]) dL_law_178 rfl (ltb rfl) rfl rfl ?_
          refine aw_iinc 182 (v := 1) (lv' := [(4, _), (3, _), (0, _), (1, _), (2, _), (5, _), (6, _)]) dL_law_179 4 rfl kI_1 (ltb rfl) rfl rfl ?_
          refine aw_goto 67 dL_law_182 rfl ?_
          exact aw_pick [2, 3, 4, 1, 0] rfl (hO67 _ _ _ _ _ _ _ _ h)
        · replace h := h.2 c28
          refine aw_iload 157 dL_law_155 3 rfl rfl ?_
          refine aw_iconst 158 (v := 2) dL_law_157 kI_2 rfl ?_
          refine aw_irem 159 dL_law_158 (by decide) rfl ?_
          refine aw_if_ne 166 162 dL_law_159 rfl rfl (fun c29 => ?_) (fun c29 => ?_)
          · replace h := h.1 c29
            refine aw_aload_n 167 dL_law_166 rfl 2 rfl rfl ?_
            exact aw_pick [0, 1, 2, 3] rfl (aw_L_law_167 hG hO67 h)
          · replace h := h.2 c29
            refine aw_aload_n 163 dL_law_162 rfl 1 rfl rfl ?_
            refine aw_goto 167 dL_law_163 rfl ?_
            exact aw_pick [0, 1, 2, 3] rfl (aw_L_law_167 hG hO67 h)
set_option maxRecDepth 20000 in
theorem aw_L_law_444 {G : GG} (hG : G.1.stackTraces = false)  {l1 : Nat} {l2 : Nat} {l3 : Int32} {cc : Nat} {ss : Nat} {X : XH} {K : Int32 → XH → Prop}  (h : w_L_law_444 G  l1 l2 l3 cc ss X K) : AW G M_L_law 444 [(1, .ref l1), (2, .ref l2), (3, .int l3)] [] X cc ss (KrI K) := by
  unfold w_L_law_444 at h
  refine aw_iload_n 445 dL_law_444 rfl 2 rfl rfl ?_
  refine aw_if_eq 466 448 dL_law_445 rfl rfl (fun c1 => ?_) (fun c1 => ?_)
  · replace h := h.1 c1
    refine aw_iconst 467 (v := 0) dL_law_466 kI_0 rfl ?_
    obtain ⟨g2, h⟩ := h
    obtain ⟨g3, h⟩ := h
    exact aw_ireturn (ty := .boolean) dL_law_467 rfl rfl g2 g3 ⟨_, rfl, h⟩
  · replace h := h.2 c1
    refine aw_aload_n 449 dL_law_448 rfl 0 rfl rfl ?_
    obtain ⟨g4, h⟩ := h
    obtain ⟨g5, h⟩ := h
    refine aw_callS (M' := M_L_hangs) 452 321 [.ref _] [] dL_law_449 lk_RL_321 ms_L_hangs mp_L_hangs rfl ⟨leb rfl, leb rfl⟩ rfl (leb rfl) g4 g5 rfl h (kkI fun v7 X6 h => ?_) (kxN KrI.no)
    refine aw_widen (cc' := cc + 4000) (ss' := ss + 24000) (Nat.le_refl _) (Nat.le_refl _) ?_
    refine aw_if_eq 466 455 dL_law_452 rfl rfl (fun c8 => ?_) (fun c8 => ?_)
    · replace h := h.1 c8
      refine aw_iconst 467 (v := 0) dL_law_466 kI_0 rfl ?_
      obtain ⟨g9, h⟩ := h
      obtain ⟨g10, h⟩ := h
      exact aw_ireturn (ty := .boolean) dL_law_467 rfl rfl g9 g10 ⟨_, rfl, h⟩
    · replace h := h.2 c8
      refine aw_aload_n 456 dL_law_455 rfl 1 rfl rfl ?_
      obtain ⟨g11, h⟩ := h
      obtain ⟨g12, h⟩ := h
      refine aw_callS (M' := M_L_hangs) 459 321 [.ref _] [] dL_law_456 lk_RL_321 ms_L_hangs mp_L_hangs rfl ⟨leb rfl, leb rfl⟩ rfl (leb rfl) g11 g12 rfl h (kkI fun v14 X13 h => ?_) (kxN KrI.no)
      refine aw_widen (cc' := cc + 8000) (ss' := ss + 48000) (Nat.le_refl _) (Nat.le_refl _) ?_
      refine aw_if_eq 466 462 dL_law_459 rfl rfl (fun c15 => ?_) (fun c15 => ?_)
      · replace h := h.1 c15
        refine aw_iconst 467 (v := 0) dL_law_466 kI_0 rfl ?_
        obtain ⟨g16, h⟩ := h
        obtain ⟨g17, h⟩ := h
        exact aw_ireturn (ty := .boolean) dL_law_467 rfl rfl g16 g17 ⟨_, rfl, h⟩
      · replace h := h.2 c15
        refine aw_iconst 463 (v := 1) dL_law_462 kI_1 rfl ?_
        refine aw_goto 467 dL_law_463 rfl ?_
        obtain ⟨g18, h⟩ := h
        obtain ⟨g19, h⟩ := h
        exact aw_ireturn (ty := .boolean) dL_law_467 rfl rfl g18 g19 ⟨_, rfl, h⟩
set_option maxRecDepth 20000 in
theorem aw_L_law_185 {G : GG} (hG : G.1.stackTraces = false)  {l0 : Nat} {l1 : Nat} {l2 : Nat} {l3 : Int32} {cc : Nat} {ss : Nat} {X : XH} {K : Int32 → XH → Prop}  (h : w_L_law_185 G  l0 l1 l2 l3 cc ss X K) : AW G M_L_law 185 [(0, .ref 0), (1, .ref l1), (2, .ref l2), (3, .int l3)] [] X cc ss (KrI K) := by
  unfold w_L_law_185 at h
  refine aw_aload_n 186 dL_law_185 rfl 0 rfl rfl ?_
  refine aw_bipush 188 (v := 70) dL_law_186 kB_70 rfl ?_
  obtain ⟨g1, h⟩ := h
  obtain ⟨g2, h⟩ := h
  refine aw_callS (M' := M_L_cell) 191 325 [.ref _, .int _] [] dL_law_188 lk_RL_325 ms_L_cell mp_L_cell rfl ⟨leb rfl, leb rfl⟩ rfl (leb rfl) g1 g2 rfl (am_L_cell hG h) (kkI fun v4 X3 h => ?_) (kxN KrI.no)
  refine aw_widen (cc' := cc) (ss' := ss) (Nat.le_refl _) (Nat.le_refl _) ?_
  refine aw_istore 193 (lv' := [(4, _), (0, _), (1, _), (2, _), (3, _)]) dL_law_191 (ltb rfl) rfl rfl ?_
  refine aw_bipush 195 (v := 10) dL_law_193 kB_10 rfl ?_
  refine aw_iload 197 dL_law_195 0 rfl rfl ?_
  refine aw_bipush 199 (v := 32) dL_law_197 kB_32 rfl ?_
  refine aw_idiv 200 dL_law_199 (by decide) rfl ?_
  refine aw_bipush 202 (v := 51) dL_law_200 kB_51 rfl ?_
  refine aw_irem 203 dL_law_202 (by decide) rfl ?_
  refine aw_iadd 204 dL_law_203 rfl ?_
  refine aw_istore 206 (lv' := [(5, _), (4, _), (0, _), (1, _), (2, _), (3, _)]) dL_law_204 (ltb rfl) rfl rfl ?_
  refine aw_iconst 207 (v := 1) dL_law_206 kI_1 rfl ?_
  refine aw_iload 209 dL_law_207 1 rfl rfl ?_
  refine aw_sipush 212 (v := 4096) dL_law_209 kS_4096 rfl ?_
  refine aw_idiv 213 dL_law_212 (by decide) rfl ?_
  refine aw_bipush 215 (v := 9) dL_law_213 kB_9 rfl ?_
  refine aw_irem 216 dL_law_215 (by decide) rfl ?_
  refine aw_iadd 217 dL_law_216 rfl ?_
  refine aw_istore 219 (lv' := [(6, _), (5, _), (4, _), (0, _), (1, _), (2, _), (3, _)]) dL_law_217 (ltb rfl) rfl rfl ?_
  refine aw_aload_n 220 dL_law_219 rfl 4 rfl rfl ?_
  obtain ⟨g5, h⟩ := h
  obtain ⟨g6, h⟩ := h
  obtain ⟨g9, h⟩ := h
  refine aw_callV (M' := M_X4_clauses) 223 191 4 l1 [] [] dL_law_220 lk_RL_191 mv_X4_clauses mp_X4_clauses rfl ⟨leb rfl, leb rfl⟩ rfl (ltb rfl) g9 rfl (leb rfl) g5 g6 rfl h (kkI fun v8 X7 h => ?_) (kxN KrI.no)
  refine aw_widen (cc' := cc) (ss' := ss) (Nat.le_refl _) (Nat.le_refl _) ?_
  refine aw_istore 225 (lv' := [(7, _), (6, _), (5, _), (4, _), (0, _), (1, _), (2, _), (3, _)]) dL_law_223 (ltb rfl) rfl rfl ?_
  refine aw_aload_n 226 dL_law_225 rfl 6 rfl rfl ?_
  obtain ⟨g10, h⟩ := h
  obtain ⟨g11, h⟩ := h
  obtain ⟨g14, h⟩ := h
  refine aw_callV (M' := M_X4_clearBuffer) 229 230 4 l2 [] [] dL_law_226 lk_RL_230 mv_X4_clearBuffer mp_X4_clearBuffer rfl ⟨leb rfl, leb rfl⟩ rfl (ltb rfl) g14 rfl (leb rfl) g10 g11 rfl h (kkI fun v13 X12 h => ?_) (kxN KrI.no)
  refine aw_widen (cc' := cc) (ss' := ss) (Nat.le_refl _) (Nat.le_refl _) ?_
  refine aw_istore 231 (lv' := [(8, _), (7, _), (6, _), (5, _), (4, _), (0, _), (1, _), (2, _), (3, _)]) dL_law_229 (ltb rfl) rfl rfl ?_
  refine aw_aload_n 232 dL_law_231 rfl 7 rfl rfl ?_
  refine aw_bipush 234 (v := 48) dL_law_232 kB_48 rfl ?_
  refine aw_iload 236 dL_law_234 4 rfl rfl ?_
  refine aw_iconst 237 (v := 4) dL_law_236 kI_4 rfl ?_
  refine aw_irem 238 dL_law_237 (by decide) rfl ?_
  refine aw_iadd 239 dL_law_238 rfl ?_
  obtain ⟨g15, h⟩ := h
  obtain ⟨g16, h⟩ := h
  refine aw_callSX (M' := M_L_append) 242 233 [.ref _, .int _] [] dL_law_239 lk_RL_233 ms_L_append mp_L_append (0, 5, 6, 17) [(0, 5, 10, 19)] rfl ⟨leb rfl, leb rfl⟩ rfl (leb rfl) g15 g16 rfl h (kkI fun v18 X17 h => ?_) (kxN KrI.no)
  refine aw_widen (cc' := cc + 2) (ss' := ss + 12) (Nat.le_refl _) (Nat.le_refl _) ?_
  refine aw_istore 244 (lv' := [(8, _), (7, _), (6, _), (5, _), (4, _), (0, _), (1, _), (2, _), (3, _)]) dL_law_242 (ltb rfl) rfl rfl ?_
  refine aw_aload_n 245 dL_law_244 rfl 7 rfl rfl ?_
  refine aw_bipush 247 (v := 65) dL_law_245 kB_65 rfl ?_
  refine aw_iload 249 dL_law_247 4 rfl rfl ?_
  refine aw_iconst 250 (v := 4) dL_law_249 kI_4 rfl ?_
  refine aw_idiv 251 dL_law_250 (by decide) rfl ?_
  refine aw_iconst 252 (v := 5) dL_law_251 kI_5 rfl ?_
  refine aw_irem 253 dL_law_252 (by decide) rfl ?_
  refine aw_iadd 254 dL_law_253 rfl ?_
  obtain ⟨g19, h⟩ := h
  obtain ⟨g20, h⟩ := h
  refine aw_callSX (M' := M_L_append) 257 233 [.ref _, .int _] [] dL_law_254 lk_RL_233 ms_L_append mp_L_append (0, 5, 6, 17) [(0, 5, 10, 19)] rfl ⟨leb rfl, leb rfl⟩ rfl (leb rfl) g19 g20 rfl h (kkI fun v22 X21 h => ?_) (kxN KrI.no)
  refine aw_widen (cc' := cc + 4) (ss' := ss + 24) (Nat.le_refl _) (Nat.le_refl _) ?_
  refine aw_istore 259 (lv' := [(8, _), (7, _), (6, _), (5, _), (4, _), (0, _), (1, _), (2, _), (3, _)]) dL_law_257 (ltb rfl) rfl rfl ?_
  refine aw_aload_n 260 dL_law_259 rfl 7 rfl rfl ?_
  refine aw_bipush 262 (v := 48) dL_law_260 kB_48 rfl ?_
  refine aw_iload 264 dL_law_262 3 rfl rfl ?_
  refine aw_bipush 266 (v := 10) dL_law_264 kB_10 rfl ?_
  refine aw_idiv 267 dL_law_266 (by decide) rfl ?_
  refine aw_iadd 268 dL_law_267 rfl ?_
  obtain ⟨g23, h⟩ := h
  obtain ⟨g24, h⟩ := h
  refine aw_callSX (M' := M_L_append) 271 233 [.ref _, .int _] [] dL_law_268 lk_RL_233 ms_L_append mp_L_append (0, 5, 6, 17) [(0, 5, 10, 19)] rfl ⟨leb rfl, leb rfl⟩ rfl (leb rfl) g23 g24 rfl h (kkI fun v26 X25 h => ?_) (kxN KrI.no)
  refine aw_widen (cc' := cc + 6) (ss' := ss + 36) (Nat.le_refl _) (Nat.le_refl _) ?_
  refine aw_istore 273 (lv' := [(8, _), (7, _), (6, _), (5, _), (4, _), (0, _), (1, _), (2, _), (3, _)]) dL_law_271 (ltb rfl) rfl rfl ?_
  refine aw_aload_n 274 dL_law_273 rfl 7 rfl rfl ?_
  refine aw_bipush 276 (v := 48) dL_law_274 kB_48 rfl ?_
  refine aw_iload 278 dL_law_276 3 rfl rfl ?_
  refine aw_bipush 280 (v := 10) dL_law_278 kB_10 rfl ?_
  refine aw_irem 281 dL_law_280 (by decide) rfl ?_
  refine aw_iadd 282 dL_law_281 rfl ?_
  obtain ⟨g27, h⟩ := h
  obtain ⟨g28, h⟩ := h
  refine aw_callSX (M' := M_L_append) 285 233 [.ref _, .int _] [] dL_law_282 lk_RL_233 ms_L_append mp_L_append (0, 5, 6, 17) [(0, 5, 10, 19)] rfl ⟨leb rfl, leb rfl⟩ rfl (leb rfl) g27 g28 rfl h (kkI fun v30 X29 h => ?_) (kxN KrI.no)
  refine aw_widen (cc' := cc + 8) (ss' := ss + 48) (Nat.le_refl _) (Nat.le_refl _) ?_
  refine aw_istore 287 (lv' := [(8, _), (7, _), (6, _), (5, _), (4, _), (0, _), (1, _), (2, _), (3, _)]) dL_law_285 (ltb rfl) rfl rfl ?_
  refine aw_aload_n 288 dL_law_287 rfl 7 rfl rfl ?_
  refine aw_bipush 290 (v := 126) dL_law_288 kB_126 rfl ?_
  obtain ⟨g31, h⟩ := h
  obtain ⟨g32, h⟩ := h
  refine aw_callSX (M' := M_L_append) 293 233 [.ref _, .int _] [] dL_law_290 lk_RL_233 ms_L_append mp_L_append (0, 5, 6, 17) [(0, 5, 10, 19)] rfl ⟨leb rfl, leb rfl⟩ rfl (leb rfl) g31 g32 rfl h (kkI fun v34 X33 h => ?_) (kxN KrI.no)
  refine aw_widen (cc' := cc + 10) (ss' := ss + 60) (Nat.le_refl _) (Nat.le_refl _) ?_
  refine aw_istore 295 (lv' := [(8, _), (7, _), (6, _), (5, _), (4, _), (0, _), (1, _), (2, _), (3, _)]) dL_law_293 (ltb rfl) rfl rfl ?_
  refine aw_aload_n 296 dL_law_295 rfl 7 rfl rfl ?_
  refine aw_bipush 298 (v := 48) dL_law_296 kB_48 rfl ?_
  refine aw_iload 300 dL_law_298 2 rfl rfl ?_
  refine aw_iadd 301 dL_law_300 rfl ?_
  obtain ⟨g35, h⟩ := h
  obtain ⟨g36, h⟩ := h
  refine aw_callSX (M' := M_L_append) 304 233 [.ref _, .int _] [] dL_law_301 lk_RL_233 ms_L_append mp_L_append (0, 5, 6, 17) [(0, 5, 10, 19)] rfl ⟨leb rfl, leb rfl⟩ rfl (leb rfl) g35 g36 rfl h (kkI fun v38 X37 h => ?_) (kxN KrI.no)
  refine aw_widen (cc' := cc + 12) (ss' := ss + 72) (Nat.le_refl _) (Nat.le_refl _) ?_
  refine aw_istore 306 (lv' := [(8, _), (7, _), (6, _), (5, _), (4, _), (0, _), (1, _), (2, _), (3, _)]) dL_law_304 (ltb rfl) rfl rfl ?_
  refine aw_iload_n 307 dL_law_306 rfl 8 rfl rfl ?_
  refine aw_if_eq 444 310 dL_law_307 rfl rfl (fun c39 => ?_) (fun c39 => ?_)
  · replace h := h.1 c39
    exact aw_pick [6, 7, 8] rfl (aw_L_law_444 hG  h)
  · replace h := h.2 c39
    refine aw_iload 312 dL_law_310 1 rfl rfl ?_
    refine aw_bipush 314 (v := 24) dL_law_312 kB_24 rfl ?_
    refine aw_icmp_ge 444 317 dL_law_314 rfl rfl (fun c40 => ?_) (fun c40 => ?_)
    · replace h := h.1 c40
      exact aw_pick [6, 7, 8] rfl (aw_L_law_444 hG  h)
    · replace h := h.2 c40
      refine aw_iload 319 dL_law_317 0 rfl rfl ?_
      refine aw_bipush 321 (v := 6) dL_law_319 kB_6 rfl ?_
      refine aw_icmp_ne 442 324 dL_law_321 rfl rfl (fun c41 => ?_) (fun c41 => ?_)
      · replace h := h.1 c41
        refine aw_iconst 443 (v := 0) dL_law_442 kI_0 rfl ?_
        refine aw_istore_n 444 (lv' := [(3, _), (8, _), (7, _), (6, _), (5, _), (4, _), (0, _), (1, _), (2, _)]) dL_law_443 rfl (ltb rfl) rfl rfl ?_
        exact aw_pick [7, 8, 0] rfl (aw_L_law_444 hG  h)
      · replace h := h.2 c41
        refine aw_aload_n 325 dL_law_324 rfl 7 rfl rfl ?_
        obtain ⟨g42, h⟩ := h
        obtain ⟨g43, h⟩ := h
        obtain ⟨g46, h⟩ := h
        refine aw_callV (M' := M_X4_firstError) 328 235 4 l2 [] [] dL_law_325 lk_RL_235 mv_X4_firstError mp_X4_firstError rfl ⟨leb rfl, leb rfl⟩ rfl (ltb rfl) g46 rfl (leb rfl) g42 g43 rfl h (kkI fun v45 X44 h => ?_) (kxN KrI.no)
        refine aw_widen (cc' := cc + 12) (ss' := ss + 72) (Nat.le_refl _) (Nat.le_refl _) ?_
        refine aw_bipush 330 (v := 6) dL_law_328 kB_6 rfl ?_
        refine aw_icmp_ne 442 333 dL_law_330 rfl rfl (fun c47 => ?_) (fun c47 => ?_)
        · replace h := h.1 c47
          refine aw_iconst 443 (v := 0) dL_law_442 kI_0 rfl ?_
          refine aw_istore_n 444 (lv' := [(3, _), (8, _), (7, _), (6, _), (5, _), (4, _), (0, _), (1, _), (2, _)]) dL_law_443 rfl (ltb rfl) rfl rfl ?_
          exact aw_pick [7, 8, 0] rfl (aw_L_law_444 hG  h)
        · replace h := h.2 c47
          refine aw_aload_n 334 dL_law_333 rfl 7 rfl rfl ?_
          obtain ⟨g48, h⟩ := h
          obtain ⟨g49, h⟩ := h
          refine aw_callSX (M' := M_L_load) 337 238 [.ref _] [] dL_law_334 lk_RL_238 ms_L_load mp_L_load (0, 4, 5, 17) [(0, 4, 9, 19)] rfl ⟨leb rfl, leb rfl⟩ rfl (leb rfl) g48 g49 rfl h (kkI fun v51 X50 h => ?_) (kxN KrI.no)
          refine aw_widen (cc' := cc + 13) (ss' := ss + 78) (Nat.le_refl _) (Nat.le_refl _) ?_
          refine aw_iload 339 dL_law_337 1 rfl rfl ?_
          refine aw_iconst 340 (v := 1) dL_law_339 kI_1 rfl ?_
          refine aw_iadd 341 dL_law_340 rfl ?_
          refine aw_icmp_ne 442 344 dL_law_341 rfl rfl (fun c52 => ?_) (fun c52 => ?_)
          · replace h := h.1 c52
            refine aw_iconst 443 (v := 0) dL_law_442 kI_0 rfl ?_
            refine aw_istore_n 444 (lv' := [(3, _), (8, _), (7, _), (6, _), (5, _), (4, _), (0, _), (1, _), (2, _)]) dL_law_443 rfl (ltb rfl) rfl rfl ?_
            exact aw_pick [7, 8, 0] rfl (aw_L_law_444 hG  h)
          · replace h := h.2 c52
            refine aw_aload_n 345 dL_law_344 rfl 6 rfl rfl ?_
            refine aw_iload 347 dL_law_345 4 rfl rfl ?_
            refine aw_iconst 348 (v := 4) dL_law_347 kI_4 rfl ?_
            refine aw_irem 349 dL_law_348 (by decide) rfl ?_
            refine aw_iload 351 dL_law_349 4 rfl rfl ?_
            refine aw_iconst 352 (v := 4) dL_law_351 kI_4 rfl ?_
            refine aw_idiv 353 dL_law_352 (by decide) rfl ?_
            refine aw_iconst 354 (v := 5) dL_law_353 kI_5 rfl ?_
            refine aw_irem 355 dL_law_354 (by decide) rfl ?_
            refine aw_iload 357 dL_law_355 3 rfl rfl ?_
            obtain ⟨g53, h⟩ := h
            obtain ⟨g54, h⟩ := h
            refine aw_callSX (M' := M_L_addClause) 360 194 [.ref _, .int _, .int _, .int _] [] dL_law_357 lk_RL_194 ms_L_addClause mp_L_addClause (0, 7, 8, 15) [(0, 7, 13, 17), (0, 7, 18, 19)] rfl ⟨leb rfl, leb rfl⟩ rfl (leb rfl) g53 g54 rfl h (kkI fun v56 X55 h => ?_) (kxN KrI.no)
            refine aw_widen (cc' := cc + 17) (ss' := ss + 102) (Nat.le_refl _) (Nat.le_refl _) ?_
            refine aw_iload 362 dL_law_360 1 rfl rfl ?_
            refine aw_icmp_ne 442 365 dL_law_362 rfl rfl (fun c57 => ?_) (fun c57 => ?_)
            · replace h := h.1 c57
              refine aw_iconst 443 (v := 0) dL_law_442 kI_0 rfl ?_
              refine aw_istore_n 444 (lv' := [(3, _), (8, _), (7, _), (6, _), (5, _), (4, _), (0, _), (1, _), (2, _)]) dL_law_443 rfl (ltb rfl) rfl rfl ?_
              exact aw_pick [7, 8, 0] rfl (aw_L_law_444 hG  h)
            · replace h := h.2 c57
              refine aw_aload_n 366 dL_law_365 rfl 6 rfl rfl ?_
              refine aw_iload 368 dL_law_366 1 rfl rfl ?_
              refine aw_iload 370 dL_law_368 2 rfl rfl ?_
              obtain ⟨g58, h⟩ := h
              obtain ⟨g59, h⟩ := h
              refine aw_callSX (M' := M_L_changeSigh) 373 202 [.ref _, .int _, .int _] [] dL_law_370 lk_RL_202 ms_L_changeSigh mp_L_changeSigh (0, 6, 7, 15) [(0, 6, 11, 17), (0, 6, 15, 19)] rfl ⟨leb rfl, leb rfl⟩ rfl (leb rfl) g58 g59 rfl h (kkI fun v61 X60 h => ?_) (kxN KrI.no)
              refine aw_widen (cc' := cc + 20) (ss' := ss + 120) (Nat.le_refl _) (Nat.le_refl _) ?_
              refine aw_if_ne 442 376 dL_law_373 rfl rfl (fun c62 => ?_) (fun c62 => ?_)
              · replace h := h.1 c62
                refine aw_iconst 443 (v := 0) dL_law_442 kI_0 rfl ?_
                refine aw_istore_n 444 (lv' := [(3, _), (8, _), (7, _), (6, _), (5, _), (4, _), (0, _), (1, _), (2, _)]) dL_law_443 rfl (ltb rfl) rfl rfl ?_
                exact aw_pick [7, 8, 0] rfl (aw_L_law_444 hG  h)
              · replace h := h.2 c62
                refine aw_aload_n 377 dL_law_376 rfl 6 rfl rfl ?_
                refine aw_iload 379 dL_law_377 1 rfl rfl ?_
                obtain ⟨g63, h⟩ := h
                obtain ⟨g64, h⟩ := h
                refine aw_callSX (M' := M_L_clauseOf) 382 255 [.ref _, .int _] [] dL_law_379 lk_RL_255 ms_L_clauseOf mp_L_clauseOf (0, 32, 33, 15) [] rfl ⟨leb rfl, leb rfl⟩ rfl (leb rfl) g63 g64 rfl h (kkI fun v66 X65 h => ?_) (kxN KrI.no)
                refine aw_widen (cc' := cc + 24) (ss' := ss + 144) (Nat.le_refl _) (Nat.le_refl _) ?_
                refine aw_aload_n 383 dL_law_382 rfl 7 rfl rfl ?_
                refine aw_iload 385 dL_law_383 1 rfl rfl ?_
                obtain ⟨g67, h⟩ := h
                obtain ⟨g68, h⟩ := h
                refine aw_callSX (M' := M_L_clauseOf) 388 255 [.ref _, .int _] [.int _] dL_law_385 lk_RL_255 ms_L_clauseOf mp_L_clauseOf (0, 32, 33, 15) [] rfl ⟨leb rfl, leb rfl⟩ rfl (leb rfl) g67 g68 rfl h (kkI fun v70 X69 h => ?_) (kxN KrI.no)
                refine aw_widen (cc' := cc + 28) (ss' := ss + 168) (Nat.le_refl _) (Nat.le_refl _) ?_
                refine aw_icmp_ne 442 391 dL_law_388 rfl rfl (fun c71 => ?_) (fun c71 => ?_)
                · replace h := h.1 c71
                  refine aw_iconst 443 (v := 0) dL_law_442 kI_0 rfl ?_
                  refine aw_istore_n 444 (lv' := [(3, _), (8, _), (7, _), (6, _), (5, _), (4, _), (0, _), (1, _), (2, _)]) dL_law_443 rfl (ltb rfl) rfl rfl ?_
                  exact aw_pick [7, 8, 0] rfl (aw_L_law_444 hG  h)
                · replace h := h.2 c71
                  refine aw_aload_n 392 dL_law_391 rfl 6 rfl rfl ?_
                  refine aw_iload 394 dL_law_392 1 rfl rfl ?_
                  obtain ⟨g72, h⟩ := h
                  obtain ⟨g73, h⟩ := h
                  refine aw_callSX (M' := M_L_longestSigh) 397 318 [.ref _, .int _] [] dL_law_394 lk_RL_318 ms_L_longestSigh mp_L_longestSigh (0, 5, 6, 15) [(0, 5, 10, 19)] rfl ⟨leb rfl, leb rfl⟩ rfl (leb rfl) g72 g73 rfl h (kkI fun v75 X74 h => ?_) (kxN KrI.no)
                  refine aw_widen (cc' := cc + 30) (ss' := ss + 180) (Nat.le_refl _) (Nat.le_refl _) ?_
                  refine aw_aload_n 398 dL_law_397 rfl 7 rfl rfl ?_
                  refine aw_iload 400 dL_law_398 1 rfl rfl ?_
                  obtain ⟨g76, h⟩ := h
                  obtain ⟨g77, h⟩ := h
                  refine aw_callSX (M' := M_L_longestSigh) 403 318 [.ref _, .int _] [.int _] dL_law_400 lk_RL_318 ms_L_longestSigh mp_L_longestSigh (0, 5, 6, 15) [(0, 5, 10, 19)] rfl ⟨leb rfl, leb rfl⟩ rfl (leb rfl) g76 g77 rfl h (kkI fun v79 X78 h => ?_) (kxN KrI.no)
                  refine aw_widen (cc' := cc + 32) (ss' := ss + 192) (Nat.le_refl _) (Nat.le_refl _) ?_
                  refine aw_icmp_ne 442 406 dL_law_403 rfl rfl (fun c80 => ?_) (fun c80 => ?_)
                  · replace h := h.1 c80
                    refine aw_iconst 443 (v := 0) dL_law_442 kI_0 rfl ?_
                    refine aw_istore_n 444 (lv' := [(3, _), (8, _), (7, _), (6, _), (5, _), (4, _), (0, _), (1, _), (2, _)]) dL_law_443 rfl (ltb rfl) rfl rfl ?_
                    exact aw_pick [7, 8, 0] rfl (aw_L_law_444 hG  h)
                  · replace h := h.2 c80
                    refine aw_aload_n 407 dL_law_406 rfl 6 rfl rfl ?_
                    refine aw_iload 409 dL_law_407 4 rfl rfl ?_
                    refine aw_iconst 410 (v := 4) dL_law_409 kI_4 rfl ?_
                    refine aw_irem 411 dL_law_410 (by decide) rfl ?_
                    obtain ⟨g81, h⟩ := h
                    obtain ⟨g82, h⟩ := h
                    refine aw_callSX (M' := M_L_reelAt) 414 295 [.ref _, .int _] [] dL_law_411 lk_RL_295 ms_L_reelAt mp_L_reelAt (0, 14, 15, 15) [] rfl ⟨leb rfl, leb rfl⟩ rfl (leb rfl) g81 g82 rfl h (kkI fun v84 X83 h => ?_) (kxN KrI.no)
                    refine aw_widen (cc' := cc + 34) (ss' := ss + 204) (Nat.le_refl _) (Nat.le_refl _) ?_
                    refine aw_aload_n 415 dL_law_414 rfl 7 rfl rfl ?_
                    refine aw_iload 417 dL_law_415 4 rfl rfl ?_
                    refine aw_iconst 418 (v := 4) dL_law_417 kI_4 rfl ?_
                    refine aw_irem 419 dL_law_418 (by decide) rfl ?_
                    obtain ⟨g85, h⟩ := h
                    obtain ⟨g86, h⟩ := h
                    refine aw_callSX (M' := M_L_reelAt) 422 295 [.ref _, .int _] [.int _] dL_law_419 lk_RL_295 ms_L_reelAt mp_L_reelAt (0, 14, 15, 15) [] rfl ⟨leb rfl, leb rfl⟩ rfl (leb rfl) g85 g86 rfl h (kkI fun v88 X87 h => ?_) (kxN KrI.no)
                    refine aw_widen (cc' := cc + 36) (ss' := ss + 216) (Nat.le_refl _) (Nat.le_refl _) ?_
                    refine aw_icmp_ne 442 425 dL_law_422 rfl rfl (fun c89 => ?_) (fun c89 => ?_)
                    · replace h := h.1 c89
                      refine aw_iconst 443 (v := 0) dL_law_442 kI_0 rfl ?_
                      refine aw_istore_n 444 (lv' := [(3, _), (8, _), (7, _), (6, _), (5, _), (4, _), (0, _), (1, _), (2, _)]) dL_law_443 rfl (ltb rfl) rfl rfl ?_
                      exact aw_pick [7, 8, 0] rfl (aw_L_law_444 hG  h)
                    · replace h := h.2 c89
                      refine aw_aload_n 426 dL_law_425 rfl 6 rfl rfl ?_
                      refine aw_iconst 427 (v := 0) dL_law_426 kI_0 rfl ?_
                      obtain ⟨g90, h⟩ := h
                      obtain ⟨g91, h⟩ := h
                      refine aw_callSX (M' := M_L_tongueAt) 430 300 [.ref _, .int _] [] dL_law_427 lk_RL_300 ms_L_tongueAt mp_L_tongueAt (0, 39, 40, 15) [] rfl ⟨leb rfl, leb rfl⟩ rfl (leb rfl) g90 g91 rfl h (kkI fun v93 X92 h => ?_) (kxN KrI.no)
                      refine aw_widen (cc' := cc + 40) (ss' := ss + 240) (Nat.le_refl _) (Nat.le_refl _) ?_
                      refine aw_aload_n 431 dL_law_430 rfl 7 rfl rfl ?_
                      refine aw_iconst 432 (v := 0) dL_law_431 kI_0 rfl ?_
                      obtain ⟨g94, h⟩ := h
                      obtain ⟨g95, h⟩ := h
                      refine aw_callSX (M' := M_L_tongueAt) 435 300 [.ref _, .int _] [.int _] dL_law_432 lk_RL_300 ms_L_tongueAt mp_L_tongueAt (0, 39, 40, 15) [] rfl ⟨leb rfl, leb rfl⟩ rfl (leb rfl) g94 g95 rfl h (kkI fun v97 X96 h => ?_) (kxN KrI.no)
                      refine aw_widen (cc' := cc + 44) (ss' := ss + 264) (Nat.le_refl _) (Nat.le_refl _) ?_
                      refine aw_icmp_ne 442 438 dL_law_435 rfl rfl (fun c98 => ?_) (fun c98 => ?_)
                      · replace h := h.1 c98
                        refine aw_iconst 443 (v := 0) dL_law_442 kI_0 rfl ?_
                        refine aw_istore_n 444 (lv' := [(3, _), (8, _), (7, _), (6, _), (5, _), (4, _), (0, _), (1, _), (2, _)]) dL_law_443 rfl (ltb rfl) rfl rfl ?_
                        exact aw_pick [7, 8, 0] rfl (aw_L_law_444 hG  h)
                      · replace h := h.2 c98
                        refine aw_iconst 439 (v := 1) dL_law_438 kI_1 rfl ?_
                        refine aw_goto 443 dL_law_439 rfl ?_
                        refine aw_istore_n 444 (lv' := [(3, _), (8, _), (7, _), (6, _), (5, _), (4, _), (0, _), (1, _), (2, _)]) dL_law_443 rfl (ltb rfl) rfl rfl ?_
                        exact aw_pick [7, 8, 0] rfl (aw_L_law_444 hG  h)
set_option maxRecDepth 20000 in
theorem aw_L_law_67 {G : GG} (hG : G.1.stackTraces = false)  {l0 : Nat} {l1 : Nat} {l2 : Nat} {l3 : Int32} {l4 : Int32} {cc : Nat} {ss : Nat} {X : XH} {K : Int32 → XH → Prop}  (h : w_L_law_67 G  l0 l1 l2 l3 l4 cc ss X K) : AW G M_L_law 67 [(0, .ref 0), (1, .ref l1), (2, .ref l2), (3, .int l3), (4, .int l4)] [] X cc ss (KrI K) :=
  h (fun l0 l1 l2 l3 l4 cc ss X => AW G M_L_law 67 [(0, .ref 0), (1, .ref l1), (2, .ref l2), (3, .int l3), (4, .int l4)] [] X cc ss (KrI K)) (fun l0 l1 l2 l3 l4 cc ss X h => by
    refine aw_iload 69 dL_law_67 4 rfl rfl ?_
    refine aw_bipush 71 (v := 70) dL_law_69 kB_70 rfl ?_
    refine aw_icmp_ge 185 74 dL_law_71 rfl rfl (fun c1 => ?_) (fun c1 => ?_)
    · replace h := h.1 c1
      exact aw_pick [0, 1, 2, 3] rfl (aw_L_law_185 hG  h)
    · replace h := h.2 c1
      refine aw_iload_n 75 dL_law_74 rfl 3 rfl rfl ?_
      refine aw_if_eq 185 78 dL_law_75 rfl rfl (fun c2 => ?_) (fun c2 => ?_)
      · replace h := h.1 c2
        exact aw_pick [0, 1, 2, 3] rfl (aw_L_law_185 hG  h)
      · replace h := h.2 c2
        refine aw_aload_n 79 dL_law_78 rfl 0 rfl rfl ?_
        refine aw_iload 81 dL_law_79 4 rfl rfl ?_
        obtain ⟨g3, h⟩ := h
        obtain ⟨g4, h⟩ := h
        refine aw_callS (M' := M_L_cell) 84 325 [.ref _, .int _] [] dL_law_81 lk_RL_325 ms_L_cell mp_L_cell rfl ⟨leb rfl, leb rfl⟩ rfl (leb rfl) g3 g4 rfl (am_L_cell hG h) (kkI fun v6 X5 h => ?_) (kxN KrI.no)
        refine aw_widen (cc' := cc) (ss' := ss) (Nat.le_refl _) (Nat.le_refl _) ?_
        refine aw_istore 86 (lv' := [(5, _), (0, _), (1, _), (2, _), (3, _), (4, _)]) dL_law_84 (ltb rfl) rfl rfl ?_
        refine aw_aload_n 87 dL_law_86 rfl 2 rfl rfl ?_
        refine aw_iload 89 dL_law_87 0 rfl rfl ?_
        obtain ⟨g7, h⟩ := h
        obtain ⟨g8, h⟩ := h
        refine aw_callS (M' := M_L_acts) 92 329 [.ref _, .int _] [] dL_law_89 lk_RL_329 ms_L_acts mp_L_acts rfl ⟨leb rfl, leb rfl⟩ rfl (leb rfl) g7 g8 rfl h (kkI fun v10 X9 h => ?_) (kxN KrI.no)
        refine aw_widen (cc' := cc + 100) (ss' := ss + 600) (Nat.le_refl _) (Nat.le_refl _) ?_
        refine aw_istore 94 (lv' := [(6, _), (5, _), (0, _), (1, _), (2, _), (3, _), (4, _)]) dL_law_92 (ltb rfl) rfl rfl ?_
        refine aw_iload 96 dL_law_94 6 rfl rfl ?_
        refine aw_iconst 97 (v := 3) dL_law_96 kI_3 rfl ?_
        refine aw_irem 98 dL_law_97 (by decide) rfl ?_
        refine aw_if_gt 114 101 dL_law_98 rfl rfl (fun c11 => ?_) (fun c11 => ?_)
        · replace h := h.1 c11
          exact aw_pick [2, 3, 4, 6, 1, 0] rfl (aw_L_law_114 hG (fun _ _ _ _ _ _ _ _ h => h) h)
        · replace h := h.2 c11
          refine aw_aload_n 102 dL_law_101 rfl 4 rfl rfl ?_
          refine aw_iload 104 dL_law_102 1 rfl rfl ?_
          refine aw_ldcw 107 (v := 100000) dL_law_104 (tk5 (i := 205) (by decide +kernel) rfl) rfl ?_
          refine aw_irem 108 dL_law_107 (by decide) rfl ?_
          obtain ⟨g12, h⟩ := h
          obtain ⟨g13, h⟩ := h
          refine aw_callS (M' := M_L_refuses) 111 333 [.ref _, .int _] [] dL_law_108 lk_RL_333 ms_L_refuses mp_L_refuses rfl ⟨leb rfl, leb rfl⟩ rfl (leb rfl) g12 g13 rfl h (kkI fun v15 X14 h => ?_) (kxN KrI.no)
          refine aw_widen (cc' := cc + 2100) (ss' := ss + 12600) (Nat.le_refl _) (Nat.le_refl _) ?_
          refine aw_if_eq 177 114 dL_law_111 rfl rfl (fun c16 => ?_) (fun c16 => ?_)
          · replace h := h.1 c16
            refine aw_iconst 178 (v := 0) dL_law_177 kI_0 rfl ?_
            refine aw_istore_n 179 (lv' := [(3, _), (6, _), (5, _), (0, _), (1, _), (2, _), (4, _)]) dL_law_178 rfl (ltb rfl) rfl rfl ?_
            refine aw_iinc 182 (v := 1) (lv' := [(4, _), (3, _), (6, _), (5, _), (0, _), (1, _), (2, _)]) dL_law_179 6 rfl kI_1 (ltb rfl) rfl rfl ?_
            refine aw_goto 67 dL_law_182 rfl ?_
            exact aw_pick [4, 5, 6, 1, 0] rfl h
          · replace h := h.2 c16
            exact aw_pick [2, 3, 4, 6, 1, 0] rfl (aw_L_law_114 hG (fun _ _ _ _ _ _ _ _ h => h) h))
set_option maxRecDepth 20000 in
theorem am_L_law {G : GG} (hG : G.1.stackTraces = false) {X : XH} {K : Int32 → XH → Prop} (h : w_L_law G 0 X K) : AW G M_L_law 0 [(0, .ref 0)] [] X 0 0 (KrI K) := by
  unfold w_L_law at h
  refine aw_new 3 10 4 dL_law_0 (ltb rfl) (tk1 (i := 15) (by decide +kernel) rfl) (tk1 (i := 16) (by decide +kernel) rfl) (tk1 (i := 1) (by decide +kernel) rfl) (leb rfl) (leb rfl) rfl ?_
  refine aw_dup 4 dL_law_3 rfl rfl ?_
  refine aw_callI (M' := M_X4_init) 7 320 (hz X + 1) [] [.ref _] dL_law_4 lk_RL_320 mi_X4_init mp_X4_init rfl rfl ⟨leb rfl, leb rfl⟩ rfl (leb rfl) (leb rfl) (leb rfl) rfl (am_X4_init hG h) (kkV fun X1 h => ?_) KrV.no
  refine aw_widen (cc' := 122) (ss' := 3818) (leb rfl) (leb rfl) ?_
  refine aw_astore_n 8 (lv' := [(1, _), (0, _)]) dL_law_7 rfl (ltb rfl) rfl rfl ?_
  refine aw_new 11 10 4 dL_law_8 (ltb rfl) (tk1 (i := 15) (by decide +kernel) rfl) (tk1 (i := 16) (by decide +kernel) rfl) (tk1 (i := 1) (by decide +kernel) rfl) (leb rfl) (leb rfl) rfl ?_
  refine aw_dup 12 dL_law_11 rfl rfl ?_
  refine aw_callI (M' := M_X4_init) 15 320 (hz X1 + 1) [] [.ref _] dL_law_12 lk_RL_320 mi_X4_init mp_X4_init rfl rfl ⟨leb rfl, leb rfl⟩ rfl (leb rfl) (leb rfl) (leb rfl) rfl (am_X4_init hG h) (kkV fun X2 h => ?_) KrV.no
  refine aw_widen (cc' := 244) (ss' := 7636) (leb rfl) (leb rfl) ?_
  refine aw_astore_n 16 (lv' := [(2, _), (1, _), (0, _)]) dL_law_15 rfl (ltb rfl) rfl rfl ?_
  refine aw_aload_n 17 dL_law_16 rfl 1 rfl rfl ?_
  refine aw_callSX (M' := M_L_undo) 20 223 [.ref _] [] dL_law_17 lk_RL_223 ms_L_undo mp_L_undo (0, 5, 6, 19) [] rfl ⟨leb rfl, leb rfl⟩ rfl (leb rfl) (leb rfl) (leb rfl) rfl h (kkI fun v4 X3 h => ?_) (kxN KrI.no)
  refine aw_widen (cc' := 245) (ss' := 7642) (leb rfl) (leb rfl) ?_
  refine aw_bipush 22 (v := -4) dL_law_20 kB_m4 rfl ?_
  refine aw_icmp_ne 62 25 dL_law_22 rfl rfl (fun c5 => ?_) (fun c5 => ?_)
  · replace h := h.1 c5
    refine aw_iconst 63 (v := 0) dL_law_62 kI_0 rfl ?_
    refine aw_istore_n 64 (lv' := [(3, _), (2, _), (1, _), (0, _)]) dL_law_63 rfl (ltb rfl) rfl rfl ?_
    refine aw_iconst 65 (v := 0) dL_law_64 kI_0 rfl ?_
    refine aw_istore 67 (lv' := [(4, _), (3, _), (2, _), (1, _), (0, _)]) dL_law_65 (ltb rfl) rfl rfl ?_
    exact aw_pick [4, 3, 2, 1, 0] rfl (aw_L_law_67 hG  h)
  · replace h := h.2 c5
    refine aw_aload_n 26 dL_law_25 rfl 1 rfl rfl ?_
    refine aw_iconst 27 (v := 0) dL_law_26 kI_0 rfl ?_
    refine aw_callSX (M' := M_L_goBack) 30 228 [.ref _, .int _] [] dL_law_27 lk_RL_228 ms_L_goBack mp_L_goBack (0, 6, 7, 17) [(0, 6, 11, 19)] rfl ⟨leb rfl, leb rfl⟩ rfl (leb rfl) (leb rfl) (leb rfl) rfl h (kkI fun v7 X6 h => ?_) (kxN KrI.no)
    refine aw_widen (cc' := 247) (ss' := 7654) (leb rfl) (leb rfl) ?_
    refine aw_bipush 32 (v := -4) dL_law_30 kB_m4 rfl ?_
    refine aw_icmp_ne 62 35 dL_law_32 rfl rfl (fun c8 => ?_) (fun c8 => ?_)
    · replace h := h.1 c8
      refine aw_iconst 63 (v := 0) dL_law_62 kI_0 rfl ?_
      refine aw_istore_n 64 (lv' := [(3, _), (2, _), (1, _), (0, _)]) dL_law_63 rfl (ltb rfl) rfl rfl ?_
      refine aw_iconst 65 (v := 0) dL_law_64 kI_0 rfl ?_
      refine aw_istore 67 (lv' := [(4, _), (3, _), (2, _), (1, _), (0, _)]) dL_law_65 (ltb rfl) rfl rfl ?_
      exact aw_pick [4, 3, 2, 1, 0] rfl (aw_L_law_67 hG  h)
    · replace h := h.2 c8
      refine aw_aload_n 36 dL_law_35 rfl 1 rfl rfl ?_
      obtain ⟨g11, h⟩ := h
      refine aw_callV (M' := M_X4_firstError) 39 235 4 (hz X + 1) [] [] dL_law_36 lk_RL_235 mv_X4_firstError mp_X4_firstError rfl ⟨leb rfl, leb rfl⟩ rfl (ltb rfl) g11 rfl (leb rfl) (leb rfl) (leb rfl) rfl h (kkI fun v10 X9 h => ?_) (kxN KrI.no)
      refine aw_widen (cc' := 247) (ss' := 7654) (leb rfl) (leb rfl) ?_
      refine aw_if_ne 62 42 dL_law_39 rfl rfl (fun c12 => ?_) (fun c12 => ?_)
      · replace h := h.1 c12
        refine aw_iconst 63 (v := 0) dL_law_62 kI_0 rfl ?_
        refine aw_istore_n 64 (lv' := [(3, _), (2, _), (1, _), (0, _)]) dL_law_63 rfl (ltb rfl) rfl rfl ?_
        refine aw_iconst 65 (v := 0) dL_law_64 kI_0 rfl ?_
        refine aw_istore 67 (lv' := [(4, _), (3, _), (2, _), (1, _), (0, _)]) dL_law_65 (ltb rfl) rfl rfl ?_
        exact aw_pick [4, 3, 2, 1, 0] rfl (aw_L_law_67 hG  h)
      · replace h := h.2 c12
        refine aw_aload_n 43 dL_law_42 rfl 1 rfl rfl ?_
        refine aw_callSX (M' := M_L_load) 46 238 [.ref _] [] dL_law_43 lk_RL_238 ms_L_load mp_L_load (0, 4, 5, 17) [(0, 4, 9, 19)] rfl ⟨leb rfl, leb rfl⟩ rfl (leb rfl) (leb rfl) (leb rfl) rfl h (kkI fun v14 X13 h => ?_) (kxN KrI.no)
        refine aw_widen (cc' := 248) (ss' := 7660) (leb rfl) (leb rfl) ?_
        refine aw_bipush 48 (v := -3) dL_law_46 kB_m3 rfl ?_
        refine aw_icmp_ne 62 51 dL_law_48 rfl rfl (fun c15 => ?_) (fun c15 => ?_)
        · replace h := h.1 c15
          refine aw_iconst 63 (v := 0) dL_law_62 kI_0 rfl ?_
          refine aw_istore_n 64 (lv' := [(3, _), (2, _), (1, _), (0, _)]) dL_law_63 rfl (ltb rfl) rfl rfl ?_
          refine aw_iconst 65 (v := 0) dL_law_64 kI_0 rfl ?_
          refine aw_istore 67 (lv' := [(4, _), (3, _), (2, _), (1, _), (0, _)]) dL_law_65 (ltb rfl) rfl rfl ?_
          exact aw_pick [4, 3, 2, 1, 0] rfl (aw_L_law_67 hG  h)
        · replace h := h.2 c15
          refine aw_aload_n 52 dL_law_51 rfl 1 rfl rfl ?_
          refine aw_callS (M' := M_L_hangs) 55 321 [.ref _] [] dL_law_52 lk_RL_321 ms_L_hangs mp_L_hangs rfl ⟨leb rfl, leb rfl⟩ rfl (leb rfl) (leb rfl) (leb rfl) rfl h (kkI fun v17 X16 h => ?_) (kxN KrI.no)
          refine aw_widen (cc' := 4248) (ss' := 31660) (leb rfl) (leb rfl) ?_
          refine aw_if_eq 62 58 dL_law_55 rfl rfl (fun c18 => ?_) (fun c18 => ?_)
          · replace h := h.1 c18
            refine aw_iconst 63 (v := 0) dL_law_62 kI_0 rfl ?_
            refine aw_istore_n 64 (lv' := [(3, _), (2, _), (1, _), (0, _)]) dL_law_63 rfl (ltb rfl) rfl rfl ?_
            refine aw_iconst 65 (v := 0) dL_law_64 kI_0 rfl ?_
            refine aw_istore 67 (lv' := [(4, _), (3, _), (2, _), (1, _), (0, _)]) dL_law_65 (ltb rfl) rfl rfl ?_
            exact aw_pick [4, 3, 2, 1, 0] rfl (aw_L_law_67 hG  h)
          · replace h := h.2 c18
            refine aw_iconst 59 (v := 1) dL_law_58 kI_1 rfl ?_
            refine aw_goto 63 dL_law_59 rfl ?_
            refine aw_istore_n 64 (lv' := [(3, _), (2, _), (1, _), (0, _)]) dL_law_63 rfl (ltb rfl) rfl rfl ?_
            refine aw_iconst 65 (v := 0) dL_law_64 kI_0 rfl ?_
            refine aw_istore 67 (lv' := [(4, _), (3, _), (2, _), (1, _), (0, _)]) dL_law_65 (ltb rfl) rfl rfl ?_
            exact aw_pick [4, 3, 2, 1, 0] rfl (aw_L_law_67 hG  h)
end XWK10
