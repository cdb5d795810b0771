/-! the walks of methods, as predicates -/
section XWK3
set_option maxRecDepth 20000 in
theorem aw_L_acts_156 {G : GG} (hG : G.1.stackTraces = false)  {l0 : Nat} {l2 : Int32} {cc : Nat} {ss : Nat} {X : XH} {K : Int32 → XH → Prop}  (h : w_L_acts_156  l0 l2 cc ss X K) : AW G M_L_acts 156 [(0, .ref l0), (2, .int l2)] [] X cc ss (KrI K) := by
  unfold w_L_acts_156 at h
  refine aw_aload_n 157 dL_acts_156 rfl 0 rfl rfl ?_
  refine aw_iload_n 158 dL_acts_157 rfl 1 rfl rfl ?_
  refine aw_iconst 159 (v := 3) dL_acts_158 kI_3 rfl ?_
  refine aw_irem 160 dL_acts_159 (by decide) rfl ?_
  refine aw_iload_n 161 dL_acts_160 rfl 1 rfl rfl ?_
  refine aw_iconst 162 (v := 4) dL_acts_161 kI_4 rfl ?_
  refine aw_idiv 163 dL_acts_162 (by decide) rfl ?_
  refine aw_iconst 164 (v := 4) dL_acts_163 kI_4 rfl ?_
  refine aw_irem 165 dL_acts_164 (by decide) rfl ?_
  refine aw_iconst 166 (v := 4) dL_acts_165 kI_4 rfl ?_
  refine aw_iload_n 167 dL_acts_166 rfl 1 rfl rfl ?_
  refine aw_bipush 169 (v := 32) dL_acts_167 kB_32 rfl ?_
  refine aw_idiv 170 dL_acts_169 (by decide) rfl ?_
  refine aw_bipush 172 (v := 57) dL_acts_170 kB_57 rfl ?_
  refine aw_irem 173 dL_acts_172 (by decide) rfl ?_
  refine aw_iadd 174 dL_acts_173 rfl ?_
  obtain ⟨g1, h⟩ := h
  obtain ⟨g2, h⟩ := h
  refine aw_callSX (M' := M_L_addClause) 177 194 [.ref _, .int _, .int _, .int _] [] dL_acts_174 lk_RL_194 ms_L_addClause mp_L_addClause (0, 7, 8, 15) [(0, 7, 13, 17), (0, 7, 18, 19)] rfl ⟨leb rfl, leb rfl⟩ rfl (leb rfl) g1 g2 rfl (am_L_addClause hG h) (kkI fun v4 X3 h => ?_) (kxN KrI.no)
  refine aw_widen (cc' := cc + 4) (ss' := ss + 24) (Nat.le_refl _) (Nat.le_refl _) ?_
  obtain ⟨g5, h⟩ := h
  obtain ⟨g6, h⟩ := h
  exact aw_ireturn (ty := .int) dL_acts_177 rfl rfl g5 g6 ⟨_, rfl, h⟩
set_option maxRecDepth 20000 in
theorem aw_L_acts_178 {G : GG} (hG : G.1.stackTraces = false)  {l0 : Nat} {l2 : Int32} {l4 : Int32} {cc : Nat} {ss : Nat} {X : XH} {K : Int32 → XH → Prop}  (h : w_L_acts_178  l0 l2 l4 cc ss X K) : AW G M_L_acts 178 [(0, .ref l0), (2, .int l2), (4, .int l4)] [] X cc ss (KrI K) := by
  unfold w_L_acts_178 at h
  refine aw_aload_n 179 dL_acts_178 rfl 0 rfl rfl ?_
  refine aw_iload 181 dL_acts_179 2 rfl rfl ?_
  refine aw_iconst 182 (v := 4) dL_acts_181 kI_4 rfl ?_
  refine aw_iload_n 183 dL_acts_182 rfl 1 rfl rfl ?_
  refine aw_sipush 186 (v := 128) dL_acts_183 kS_128 rfl ?_
  refine aw_idiv 187 dL_acts_186 (by decide) rfl ?_
  refine aw_bipush 189 (v := 57) dL_acts_187 kB_57 rfl ?_
  refine aw_irem 190 dL_acts_189 (by decide) rfl ?_
  refine aw_iadd 191 dL_acts_190 rfl ?_
  obtain ⟨g1, h⟩ := h
  obtain ⟨g2, h⟩ := h
  refine aw_callSX (M' := M_L_changeLips) 194 199 [.ref _, .int _, .int _] [] dL_acts_191 lk_RL_199 ms_L_changeLips mp_L_changeLips (0, 6, 7, 15) [(0, 6, 11, 17), (0, 6, 15, 19)] rfl ⟨leb rfl, leb rfl⟩ rfl (leb rfl) g1 g2 rfl (am_L_changeLips hG h) (kkI fun v4 X3 h => ?_) (kxN KrI.no)
  refine aw_widen (cc' := cc + 3) (ss' := ss + 18) (Nat.le_refl _) (Nat.le_refl _) ?_
  obtain ⟨g5, h⟩ := h
  obtain ⟨g6, h⟩ := h
  exact aw_ireturn (ty := .int) dL_acts_194 rfl rfl g5 g6 ⟨_, rfl, h⟩
set_option maxRecDepth 20000 in
theorem aw_L_acts_195 {G : GG} (hG : G.1.stackTraces = false)  {l0 : Nat} {l2 : Int32} {l4 : Int32} {cc : Nat} {ss : Nat} {X : XH} {K : Int32 → XH → Prop}  (h : w_L_acts_195  l0 l2 l4 cc ss X K) : AW G M_L_acts 195 [(0, .ref l0), (2, .int l2), (4, .int l4)] [] X cc ss (KrI K) := by
  unfold w_L_acts_195 at h
  refine aw_aload_n 196 dL_acts_195 rfl 0 rfl rfl ?_
  refine aw_iload 198 dL_acts_196 2 rfl rfl ?_
  refine aw_iload_n 199 dL_acts_198 rfl 1 rfl rfl ?_
  refine aw_sipush 202 (v := 128) dL_acts_199 kS_128 rfl ?_
  refine aw_idiv 203 dL_acts_202 (by decide) rfl ?_
  refine aw_bipush 205 (v := 12) dL_acts_203 kB_12 rfl ?_
  refine aw_irem 206 dL_acts_205 (by decide) rfl ?_
  obtain ⟨g1, h⟩ := h
  obtain ⟨g2, h⟩ := h
  refine aw_callSX (M' := M_L_changeSigh) 209 202 [.ref _, .int _, .int _] [] dL_acts_206 lk_RL_202 ms_L_changeSigh mp_L_changeSigh (0, 6, 7, 15) [(0, 6, 11, 17), (0, 6, 15, 19)] rfl ⟨leb rfl, leb rfl⟩ rfl (leb rfl) g1 g2 rfl (am_L_changeSigh hG h) (kkI fun v4 X3 h => ?_) (kxN KrI.no)
  refine aw_widen (cc' := cc + 3) (ss' := ss + 18) (Nat.le_refl _) (Nat.le_refl _) ?_
  obtain ⟨g5, h⟩ := h
  obtain ⟨g6, h⟩ := h
  exact aw_ireturn (ty := .int) dL_acts_209 rfl rfl g5 g6 ⟨_, rfl, h⟩
set_option maxRecDepth 20000 in
theorem aw_L_acts_210 {G : GG} (hG : G.1.stackTraces = false)  {l0 : Nat} {l2 : Int32} {l4 : Int32} {cc : Nat} {ss : Nat} {X : XH} {K : Int32 → XH → Prop}  (h : w_L_acts_210  l0 l2 l4 cc ss X K) : AW G M_L_acts 210 [(0, .ref l0), (2, .int l2), (4, .int l4)] [] X cc ss (KrI K) := by
  unfold w_L_acts_210 at h
  refine aw_aload_n 211 dL_acts_210 rfl 0 rfl rfl ?_
  refine aw_iload 213 dL_acts_211 2 rfl rfl ?_
  refine aw_iload_n 214 dL_acts_213 rfl 1 rfl rfl ?_
  refine aw_sipush 217 (v := 128) dL_acts_214 kS_128 rfl ?_
  refine aw_idiv 218 dL_acts_217 (by decide) rfl ?_
  refine aw_iconst 219 (v := 4) dL_acts_218 kI_4 rfl ?_
  refine aw_irem 220 dL_acts_219 (by decide) rfl ?_
  obtain ⟨g1, h⟩ := h
  obtain ⟨g2, h⟩ := h
  refine aw_callSX (M' := M_L_moveClause) 223 204 [.ref _, .int _, .int _] [] dL_acts_220 lk_RL_204 ms_L_moveClause mp_L_moveClause (0, 6, 7, 15) [(0, 6, 11, 19)] rfl ⟨leb rfl, leb rfl⟩ rfl (leb rfl) g1 g2 rfl (am_L_moveClause hG h) (kkI fun v4 X3 h => ?_) (kxN KrI.no)
  refine aw_widen (cc' := cc + 3) (ss' := ss + 18) (Nat.le_refl _) (Nat.le_refl _) ?_
  obtain ⟨g5, h⟩ := h
  obtain ⟨g6, h⟩ := h
  exact aw_ireturn (ty := .int) dL_acts_223 rfl rfl g5 g6 ⟨_, rfl, h⟩
set_option maxRecDepth 20000 in
theorem aw_L_acts_224 {G : GG} (hG : G.1.stackTraces = false)  {l0 : Nat} {l2 : Int32} {l4 : Int32} {l5 : Int32} {cc : Nat} {ss : Nat} {X : XH} {K : Int32 → XH → Prop}  (h : w_L_acts_224  l0 l2 l4 l5 cc ss X K) : AW G M_L_acts 224 [(0, .ref l0), (2, .int l2), (4, .int l4), (5, .int l5)] [] X cc ss (KrI K) := by
  unfold w_L_acts_224 at h
  refine aw_aload_n 225 dL_acts_224 rfl 0 rfl rfl ?_
  refine aw_iload 227 dL_acts_225 2 rfl rfl ?_
  refine aw_iload 229 dL_acts_227 3 rfl rfl ?_
  refine aw_iconst 230 (v := 1) dL_acts_229 kI_1 rfl ?_
  refine aw_iload_n 231 dL_acts_230 rfl 1 rfl rfl ?_
  refine aw_sipush 234 (v := 128) dL_acts_231 kS_128 rfl ?_
  refine aw_idiv 235 dL_acts_234 (by decide) rfl ?_
  refine aw_iload_n 236 dL_acts_235 rfl 1 rfl rfl ?_
  refine aw_iconst 237 (v := 4) dL_acts_236 kI_4 rfl ?_
  refine aw_irem 238 dL_acts_237 (by decide) rfl ?_
  refine aw_if_ne 246 241 dL_acts_238 rfl rfl (fun c1 => ?_) (fun c1 => ?_)
  · replace h := h.1 c1
    refine aw_bipush 248 (v := 20) dL_acts_246 kB_20 rfl ?_
    refine aw_irem 249 dL_acts_248 (by decide) rfl ?_
    refine aw_iadd 250 dL_acts_249 rfl ?_
    obtain ⟨g2, h⟩ := h
    obtain ⟨g3, h⟩ := h
    refine aw_callSX (M' := M_L_translate) 253 206 [.ref _, .int _, .int _, .int _] [] dL_acts_250 lk_RL_206 ms_L_translate mp_L_translate (0, 7, 8, 15) [(0, 7, 14, 17), (0, 7, 20, 19)] rfl ⟨leb rfl, leb rfl⟩ rfl (leb rfl) g2 g3 rfl (am_L_translate hG h) (kkI fun v5 X4 h => ?_) (kxN KrI.no)
    refine aw_widen (cc' := cc + 4) (ss' := ss + 24) (Nat.le_refl _) (Nat.le_refl _) ?_
    obtain ⟨g6, h⟩ := h
    obtain ⟨g7, h⟩ := h
    exact aw_ireturn (ty := .int) dL_acts_253 rfl rfl g6 g7 ⟨_, rfl, h⟩
  · replace h := h.2 c1
    refine aw_bipush 243 (v := 60) dL_acts_241 kB_60 rfl ?_
    refine aw_goto 248 dL_acts_243 rfl ?_
    refine aw_irem 249 dL_acts_248 (by decide) rfl ?_
    refine aw_iadd 250 dL_acts_249 rfl ?_
    obtain ⟨g8, h⟩ := h
    obtain ⟨g9, h⟩ := h
    refine aw_callSX (M' := M_L_translate) 253 206 [.ref _, .int _, .int _, .int _] [] dL_acts_250 lk_RL_206 ms_L_translate mp_L_translate (0, 7, 8, 15) [(0, 7, 14, 17), (0, 7, 20, 19)] rfl ⟨leb rfl, leb rfl⟩ rfl (leb rfl) g8 g9 rfl (am_L_translate hG h) (kkI fun v11 X10 h => ?_) (kxN KrI.no)
    refine aw_widen (cc' := cc + 4) (ss' := ss + 24) (Nat.le_refl _) (Nat.le_refl _) ?_
    obtain ⟨g12, h⟩ := h
    obtain ⟨g13, h⟩ := h
    exact aw_ireturn (ty := .int) dL_acts_253 rfl rfl g12 g13 ⟨_, rfl, h⟩
set_option maxRecDepth 20000 in
theorem aw_L_acts_254 {G : GG} (hG : G.1.stackTraces = false)  {l0 : Nat} {l2 : Int32} {l4 : Int32} {l5 : Int32} {cc : Nat} {ss : Nat} {X : XH} {K : Int32 → XH → Prop}  (h : w_L_acts_254  l0 l2 l4 l5 cc ss X K) : AW G M_L_acts 254 [(0, .ref l0), (2, .int l2), (4, .int l4), (5, .int l5)] [] X cc ss (KrI K) := by
  unfold w_L_acts_254 at h
  refine aw_aload_n 255 dL_acts_254 rfl 0 rfl rfl ?_
  refine aw_iload 257 dL_acts_255 2 rfl rfl ?_
  refine aw_iload 259 dL_acts_257 3 rfl rfl ?_
  refine aw_iconst 260 (v := 1) dL_acts_259 kI_1 rfl ?_
  refine aw_iload_n 261 dL_acts_260 rfl 1 rfl rfl ?_
  refine aw_sipush 264 (v := 128) dL_acts_261 kS_128 rfl ?_
  refine aw_idiv 265 dL_acts_264 (by decide) rfl ?_
  refine aw_bipush 267 (v := 12) dL_acts_265 kB_12 rfl ?_
  refine aw_irem 268 dL_acts_267 (by decide) rfl ?_
  refine aw_iadd 269 dL_acts_268 rfl ?_
  obtain ⟨g1, h⟩ := h
  obtain ⟨g2, h⟩ := h
  refine aw_callSX (M' := M_L_annex) 272 208 [.ref _, .int _, .int _, .int _] [] dL_acts_269 lk_RL_208 ms_L_annex mp_L_annex (0, 7, 8, 15) [(0, 7, 13, 17), (0, 7, 18, 19)] rfl ⟨leb rfl, leb rfl⟩ rfl (leb rfl) g1 g2 rfl (am_L_annex hG h) (kkI fun v4 X3 h => ?_) (kxN KrI.no)
  refine aw_widen (cc' := cc + 4) (ss' := ss + 24) (Nat.le_refl _) (Nat.le_refl _) ?_
  obtain ⟨g5, h⟩ := h
  obtain ⟨g6, h⟩ := h
  exact aw_ireturn (ty := .int) dL_acts_272 rfl rfl g5 g6 ⟨_, rfl, h⟩
set_option maxRecDepth 20000 in
theorem aw_L_acts_273 {G : GG} (hG : G.1.stackTraces = false)  {l0 : Nat} {l4 : Int32} {l5 : Int32} {cc : Nat} {ss : Nat} {X : XH} {K : Int32 → XH → Prop}  (h : w_L_acts_273  l0 l4 l5 cc ss X K) : AW G M_L_acts 273 [(0, .ref l0), (4, .int l4), (5, .int l5)] [] X cc ss (KrI K) := by
  unfold w_L_acts_273 at h
  refine aw_aload_n 274 dL_acts_273 rfl 0 rfl rfl ?_
  refine aw_iload 276 dL_acts_274 1 rfl rfl ?_
  refine aw_iload 278 dL_acts_276 2 rfl rfl ?_
  obtain ⟨g1, h⟩ := h
  obtain ⟨g2, h⟩ := h
  refine aw_callSX (M' := M_L_bringBack) 281 210 [.ref _, .int _, .int _] [] dL_acts_278 lk_RL_210 ms_L_bringBack mp_L_bringBack (0, 6, 7, 15) [(0, 6, 11, 19)] rfl ⟨leb rfl, leb rfl⟩ rfl (leb rfl) g1 g2 rfl (am_L_bringBack hG h) (kkI fun v4 X3 h => ?_) (kxN KrI.no)
  refine aw_widen (cc' := cc + 3) (ss' := ss + 18) (Nat.le_refl _) (Nat.le_refl _) ?_
  obtain ⟨g5, h⟩ := h
  obtain ⟨g6, h⟩ := h
  exact aw_ireturn (ty := .int) dL_acts_281 rfl rfl g5 g6 ⟨_, rfl, h⟩
set_option maxRecDepth 20000 in
theorem aw_L_acts_282 {G : GG} (hG : G.1.stackTraces = false)  {l0 : Nat} {l2 : Int32} {l5 : Int32} {cc : Nat} {ss : Nat} {X : XH} {K : Int32 → XH → Prop}  (h : w_L_acts_282  l0 l2 l5 cc ss X K) : AW G M_L_acts 282 [(0, .ref l0), (2, .int l2), (5, .int l5)] [] X cc ss (KrI K) := by
  unfold w_L_acts_282 at h
  refine aw_aload_n 283 dL_acts_282 rfl 0 rfl rfl ?_
  refine aw_iload_n 284 dL_acts_283 rfl 1 rfl rfl ?_
  refine aw_iconst 285 (v := 5) dL_acts_284 kI_5 rfl ?_
  refine aw_irem 286 dL_acts_285 (by decide) rfl ?_
  refine aw_iload 288 dL_acts_286 2 rfl rfl ?_
  refine aw_bipush 290 (v := 20) dL_acts_288 kB_20 rfl ?_
  refine aw_iload_n 291 dL_acts_290 rfl 1 rfl rfl ?_
  refine aw_sipush 294 (v := 128) dL_acts_291 kS_128 rfl ?_
  refine aw_idiv 295 dL_acts_294 (by decide) rfl ?_
  refine aw_bipush 297 (v := 101) dL_acts_295 kB_101 rfl ?_
  refine aw_irem 298 dL_acts_297 (by decide) rfl ?_
  refine aw_iadd 299 dL_acts_298 rfl ?_
  obtain ⟨g1, h⟩ := h
  obtain ⟨g2, h⟩ := h
  refine aw_callSX (M' := M_L_cast) 302 212 [.ref _, .int _, .int _, .int _] [] dL_acts_299 lk_RL_212 ms_L_cast mp_L_cast (0, 7, 8, 15) [(0, 7, 13, 17), (0, 7, 18, 19)] rfl ⟨leb rfl, leb rfl⟩ rfl (leb rfl) g1 g2 rfl (am_L_cast hG h) (kkI fun v4 X3 h => ?_) (kxN KrI.no)
  refine aw_widen (cc' := cc + 4) (ss' := ss + 24) (Nat.le_refl _) (Nat.le_refl _) ?_
  obtain ⟨g5, h⟩ := h
  obtain ⟨g6, h⟩ := h
  exact aw_ireturn (ty := .int) dL_acts_302 rfl rfl g5 g6 ⟨_, rfl, h⟩
set_option maxRecDepth 20000 in
theorem aw_L_acts_303 {G : GG} (hG : G.1.stackTraces = false)  {l0 : Nat} {cc : Nat} {ss : Nat} {X : XH} {K : Int32 → XH → Prop}  (h : w_L_acts_303  l0 cc ss X K) : AW G M_L_acts 303 [(0, .ref l0)] [] X cc ss (KrI K) := by
  unfold w_L_acts_303 at h
  refine aw_aload_n 304 dL_acts_303 rfl 0 rfl rfl ?_
  obtain ⟨g1, h⟩ := h
  obtain ⟨g2, h⟩ := h
  refine aw_callSX (M' := M_L_nextSession) 307 214 [.ref _] [] dL_acts_304 lk_RL_214 ms_L_nextSession mp_L_nextSession (0, 4, 5, 19) [] rfl ⟨leb rfl, leb rfl⟩ rfl (leb rfl) g1 g2 rfl (am_L_nextSession hG h) (kkI fun v4 X3 h => ?_) (kxN KrI.no)
  refine aw_widen (cc' := cc + 1) (ss' := ss + 6) (Nat.le_refl _) (Nat.le_refl _) ?_
  obtain ⟨g5, h⟩ := h
  obtain ⟨g6, h⟩ := h
  exact aw_ireturn (ty := .int) dL_acts_307 rfl rfl g5 g6 ⟨_, rfl, h⟩
set_option maxRecDepth 20000 in
theorem aw_L_acts_308 {G : GG} (hG : G.1.stackTraces = false)  {l0 : Nat} {l4 : Int32} {l5 : Int32} {cc : Nat} {ss : Nat} {X : XH} {K : Int32 → XH → Prop}  (h : w_L_acts_308  l0 l4 l5 cc ss X K) : AW G M_L_acts 308 [(0, .ref l0), (4, .int l4), (5, .int l5)] [] X cc ss (KrI K) := by
  unfold w_L_acts_308 at h
  refine aw_aload_n 309 dL_acts_308 rfl 0 rfl rfl ?_
  refine aw_iload 311 dL_acts_309 1 rfl rfl ?_
  refine aw_iload 313 dL_acts_311 2 rfl rfl ?_
  obtain ⟨g1, h⟩ := h
  obtain ⟨g2, h⟩ := h
  refine aw_callSX (M' := M_L_wipe) 316 217 [.ref _, .int _, .int _] [] dL_acts_313 lk_RL_217 ms_L_wipe mp_L_wipe (0, 6, 7, 15) [(0, 6, 11, 19)] rfl ⟨leb rfl, leb rfl⟩ rfl (leb rfl) g1 g2 rfl (am_L_wipe hG h) (kkI fun v4 X3 h => ?_) (kxN KrI.no)
  refine aw_widen (cc' := cc + 3) (ss' := ss + 18) (Nat.le_refl _) (Nat.le_refl _) ?_
  obtain ⟨g5, h⟩ := h
  obtain ⟨g6, h⟩ := h
  exact aw_ireturn (ty := .int) dL_acts_316 rfl rfl g5 g6 ⟨_, rfl, h⟩
set_option maxRecDepth 20000 in
theorem aw_L_acts_317 {G : GG} (hG : G.1.stackTraces = false)  {l0 : Nat} {l2 : Int32} {l5 : Int32} {cc : Nat} {ss : Nat} {X : XH} {K : Int32 → XH → Prop}  (h : w_L_acts_317  l0 l2 l5 cc ss X K) : AW G M_L_acts 317 [(0, .ref l0), (2, .int l2), (5, .int l5)] [] X cc ss (KrI K) := by
  unfold w_L_acts_317 at h
  refine aw_aload_n 318 dL_acts_317 rfl 0 rfl rfl ?_
  refine aw_iload_n 319 dL_acts_318 rfl 1 rfl rfl ?_
  refine aw_iconst 320 (v := 3) dL_acts_319 kI_3 rfl ?_
  refine aw_irem 321 dL_acts_320 (by decide) rfl ?_
  refine aw_iload 323 dL_acts_321 2 rfl rfl ?_
  obtain ⟨g1, h⟩ := h
  obtain ⟨g2, h⟩ := h
  refine aw_callSX (M' := M_L_mix) 326 219 [.ref _, .int _, .int _] [] dL_acts_323 lk_RL_219 ms_L_mix mp_L_mix (0, 6, 7, 15) [(0, 6, 11, 19)] rfl ⟨leb rfl, leb rfl⟩ rfl (leb rfl) g1 g2 rfl (am_L_mix hG h) (kkI fun v4 X3 h => ?_) (kxN KrI.no)
  refine aw_widen (cc' := cc + 3) (ss' := ss + 18) (Nat.le_refl _) (Nat.le_refl _) ?_
  obtain ⟨g5, h⟩ := h
  obtain ⟨g6, h⟩ := h
  exact aw_ireturn (ty := .int) dL_acts_326 rfl rfl g5 g6 ⟨_, rfl, h⟩
set_option maxRecDepth 20000 in
theorem aw_L_acts_327 {G : GG} (hG : G.1.stackTraces = false)  {l0 : Nat} {l2 : Int32} {l5 : Int32} {cc : Nat} {ss : Nat} {X : XH} {K : Int32 → XH → Prop}  (h : w_L_acts_327  l0 l2 l5 cc ss X K) : AW G M_L_acts 327 [(0, .ref l0), (2, .int l2), (5, .int l5)] [] X cc ss (KrI K) := by
  unfold w_L_acts_327 at h
  refine aw_aload_n 328 dL_acts_327 rfl 0 rfl rfl ?_
  refine aw_iload_n 329 dL_acts_328 rfl 1 rfl rfl ?_
  refine aw_sipush 332 (v := 128) dL_acts_329 kS_128 rfl ?_
  refine aw_idiv 333 dL_acts_332 (by decide) rfl ?_
  refine aw_iconst 334 (v := 5) dL_acts_333 kI_5 rfl ?_
  refine aw_irem 335 dL_acts_334 (by decide) rfl ?_
  refine aw_iload_n 336 dL_acts_335 rfl 1 rfl rfl ?_
  refine aw_iconst 337 (v := 3) dL_acts_336 kI_3 rfl ?_
  refine aw_irem 338 dL_acts_337 (by decide) rfl ?_
  refine aw_iload 340 dL_acts_338 2 rfl rfl ?_
  obtain ⟨g1, h⟩ := h
  obtain ⟨g2, h⟩ := h
  refine aw_callSX (M' := M_L_sign) 343 221 [.ref _, .int _, .int _, .int _] [] dL_acts_340 lk_RL_221 ms_L_sign mp_L_sign (0, 7, 8, 15) [(0, 7, 13, 19)] rfl ⟨leb rfl, leb rfl⟩ rfl (leb rfl) g1 g2 rfl (am_L_sign hG h) (kkI fun v4 X3 h => ?_) (kxN KrI.no)
  refine aw_widen (cc' := cc + 4) (ss' := ss + 24) (Nat.le_refl _) (Nat.le_refl _) ?_
  obtain ⟨g5, h⟩ := h
  obtain ⟨g6, h⟩ := h
  exact aw_ireturn (ty := .int) dL_acts_343 rfl rfl g5 g6 ⟨_, rfl, h⟩
set_option maxRecDepth 20000 in
theorem aw_L_acts_344 {G : GG} (hG : G.1.stackTraces = false)  {l0 : Nat} {cc : Nat} {ss : Nat} {X : XH} {K : Int32 → XH → Prop}  (h : w_L_acts_344  l0 cc ss X K) : AW G M_L_acts 344 [(0, .ref l0)] [] X cc ss (KrI K) := by
  unfold w_L_acts_344 at h
  refine aw_aload_n 345 dL_acts_344 rfl 0 rfl rfl ?_
  obtain ⟨g1, h⟩ := h
  obtain ⟨g2, h⟩ := h
  refine aw_callSX (M' := M_L_undo) 348 223 [.ref _] [] dL_acts_345 lk_RL_223 ms_L_undo mp_L_undo (0, 5, 6, 19) [] rfl ⟨leb rfl, leb rfl⟩ rfl (leb rfl) g1 g2 rfl (am_L_undo hG h) (kkI fun v4 X3 h => ?_) (kxN KrI.no)
  refine aw_widen (cc' := cc + 1) (ss' := ss + 6) (Nat.le_refl _) (Nat.le_refl _) ?_
  obtain ⟨g5, h⟩ := h
  obtain ⟨g6, h⟩ := h
  exact aw_ireturn (ty := .int) dL_acts_348 rfl rfl g5 g6 ⟨_, rfl, h⟩
set_option maxRecDepth 20000 in
theorem aw_L_acts_349 {G : GG} (hG : G.1.stackTraces = false)  {l0 : Nat} {l2 : Int32} {cc : Nat} {ss : Nat} {X : XH} {K : Int32 → XH → Prop}  (h : w_L_acts_349  l0 l2 cc ss X K) : AW G M_L_acts 349 [(0, .ref l0), (2, .int l2)] [] X cc ss (KrI K) := by
  unfold w_L_acts_349 at h
  refine aw_aload_n 350 dL_acts_349 rfl 0 rfl rfl ?_
  refine aw_iload_n 351 dL_acts_350 rfl 1 rfl rfl ?_
  refine aw_iconst 352 (v := 2) dL_acts_351 kI_2 rfl ?_
  refine aw_irem 353 dL_acts_352 (by decide) rfl ?_
  obtain ⟨g1, h⟩ := h
  obtain ⟨g2, h⟩ := h
  refine aw_callSX (M' := M_L_keep) 356 225 [.ref _, .int _] [] dL_acts_353 lk_RL_225 ms_L_keep mp_L_keep (0, 6, 7, 17) [] rfl ⟨leb rfl, leb rfl⟩ rfl (leb rfl) g1 g2 rfl (am_L_keep hG h) (kkI fun v4 X3 h => ?_) (kxN KrI.no)
  refine aw_widen (cc' := cc + 1) (ss' := ss + 6) (Nat.le_refl _) (Nat.le_refl _) ?_
  obtain ⟨g5, h⟩ := h
  obtain ⟨g6, h⟩ := h
  exact aw_ireturn (ty := .int) dL_acts_356 rfl rfl g5 g6 ⟨_, rfl, h⟩
set_option maxRecDepth 20000 in
theorem aw_L_acts_357 {G : GG} (hG : G.1.stackTraces = false)  {l0 : Nat} {l2 : Int32} {cc : Nat} {ss : Nat} {X : XH} {K : Int32 → XH → Prop}  (h : w_L_acts_357  l0 l2 cc ss X K) : AW G M_L_acts 357 [(0, .ref l0), (2, .int l2)] [] X cc ss (KrI K) := by
  unfold w_L_acts_357 at h
  refine aw_aload_n 358 dL_acts_357 rfl 0 rfl rfl ?_
  refine aw_iload_n 359 dL_acts_358 rfl 1 rfl rfl ?_
  refine aw_iconst 360 (v := 2) dL_acts_359 kI_2 rfl ?_
  refine aw_irem 361 dL_acts_360 (by decide) rfl ?_
  obtain ⟨g1, h⟩ := h
  obtain ⟨g2, h⟩ := h
  refine aw_callSX (M' := M_L_goBack) 364 228 [.ref _, .int _] [] dL_acts_361 lk_RL_228 ms_L_goBack mp_L_goBack (0, 6, 7, 17) [(0, 6, 11, 19)] rfl ⟨leb rfl, leb rfl⟩ rfl (leb rfl) g1 g2 rfl (am_L_goBack hG h) (kkI fun v4 X3 h => ?_) (kxN KrI.no)
  refine aw_widen (cc' := cc + 2) (ss' := ss + 12) (Nat.le_refl _) (Nat.le_refl _) ?_
  obtain ⟨g5, h⟩ := h
  obtain ⟨g6, h⟩ := h
  exact aw_ireturn (ty := .int) dL_acts_364 rfl rfl g5 g6 ⟨_, rfl, h⟩
set_option maxRecDepth 20000 in
theorem aw_L_acts_509 {G : GG} (hG : G.1.stackTraces = false) {P374 : Nat → Int32 → Int32 → Int32 → Nat → Nat → XH → Prop} {l0 : Nat} {l2 : Int32} {l7 : Int32} {l8 : Int32} {s0 : Int32} {cc : Nat} {ss : Nat} {X : XH} {K : Int32 → XH → Prop} (hO374 : ∀ (l0 : Nat) (l2 : Int32) (l6 : Int32) (l7 : Int32) (cc : Nat) (ss : Nat) (X : XH), P374 l0 l2 l6 l7 cc ss X → AW G M_L_acts 374 [(0, .ref l0), (2, .int l2), (6, .int l6), (7, .int l7)] [] X cc ss (KrI K)) (h : w_L_acts_509 P374 l0 l2 l7 l8 s0 cc ss X K) : AW G M_L_acts 509 [(0, .ref l0), (2, .int l2), (7, .int l7), (8, .int l8)] [.int s0] X cc ss (KrI K) := by
  unfold w_L_acts_509 at h
  refine aw_istore 511 (lv' := [(6, _), (0, _), (2, _), (7, _), (8, _)]) dL_acts_509 (ltb rfl) rfl rfl ?_
  refine aw_iload 513 dL_acts_511 4 rfl rfl ?_
  refine aw_iconst 514 (v := 3) dL_acts_513 kI_3 rfl ?_
  refine aw_irem 515 dL_acts_514 (by decide) rfl ?_
  refine aw_if_ne 536 518 dL_acts_515 rfl rfl (fun c1 => ?_) (fun c1 => ?_)
  · replace h := h.1 c1
    refine aw_iload 538 dL_acts_536 0 rfl rfl ?_
    refine aw_istore 540 (lv' := [(6, _), (0, _), (2, _), (7, _), (8, _)]) dL_acts_538 (ltb rfl) rfl rfl ?_
    refine aw_iinc 543 (v := 1) (lv' := [(7, _), (6, _), (0, _), (2, _), (8, _)]) dL_acts_540 3 rfl kI_1 (ltb rfl) rfl rfl ?_
    refine aw_goto 374 dL_acts_543 rfl ?_
    exact aw_pick [2, 3, 1, 0] rfl (hO374 _ _ _ _ _ _ _ h)
  · replace h := h.2 c1
    refine aw_aload_n 519 dL_acts_518 rfl 1 rfl rfl ?_
    refine aw_bipush 521 (v := 49) dL_acts_519 kB_49 rfl ?_
    refine aw_iload 523 dL_acts_521 4 rfl rfl ?_
    refine aw_bipush 525 (v := 8) dL_acts_523 kB_8 rfl ?_
    refine aw_idiv 526 dL_acts_525 (by decide) rfl ?_
    refine aw_bipush 528 (v := 9) dL_acts_526 kB_9 rfl ?_
    refine aw_irem 529 dL_acts_528 (by decide) rfl ?_
    refine aw_iadd 530 dL_acts_529 rfl ?_
    obtain ⟨g2, h⟩ := h
    obtain ⟨g3, h⟩ := h
    refine aw_callSX (M' := M_L_append) 533 233 [.ref _, .int _] [] dL_acts_530 lk_RL_233 ms_L_append mp_L_append (0, 5, 6, 17) [(0, 5, 10, 19)] rfl ⟨leb rfl, leb rfl⟩ rfl (leb rfl) g2 g3 rfl (am_L_append hG h) (kkI fun v5 X4 h => ?_) (kxN KrI.no)
    refine aw_widen (cc' := cc + 2) (ss' := ss + 12) (Nat.le_refl _) (Nat.le_refl _) ?_
    refine aw_goto 538 dL_acts_533 rfl ?_
    refine aw_istore 540 (lv' := [(6, _), (0, _), (2, _), (7, _), (8, _)]) dL_acts_538 (ltb rfl) rfl rfl ?_
    refine aw_iinc 543 (v := 1) (lv' := [(7, _), (6, _), (0, _), (2, _), (8, _)]) dL_acts_540 3 rfl kI_1 (ltb rfl) rfl rfl ?_
    refine aw_goto 374 dL_acts_543 rfl ?_
    exact aw_pick [2, 3, 1, 0] rfl (hO374 _ _ _ _ _ _ _ h)
set_option maxRecDepth 20000 in
theorem aw_L_acts_475 {G : GG} (hG : G.1.stackTraces = false) {P374 : Nat → Int32 → Int32 → Int32 → Nat → Nat → XH → Prop} {l0 : Nat} {l2 : Int32} {l7 : Int32} {l8 : Int32} {l9 : Int32} {s0 : Int32} {cc : Nat} {ss : Nat} {X : XH} {K : Int32 → XH → Prop} (hO374 : ∀ (l0 : Nat) (l2 : Int32) (l6 : Int32) (l7 : Int32) (cc : Nat) (ss : Nat) (X : XH), P374 l0 l2 l6 l7 cc ss X → AW G M_L_acts 374 [(0, .ref l0), (2, .int l2), (6, .int l6), (7, .int l7)] [] X cc ss (KrI K)) (h : w_L_acts_475 P374 l0 l2 l7 l8 l9 s0 cc ss X K) : AW G M_L_acts 475 [(0, .ref l0), (2, .int l2), (7, .int l7), (8, .int l8), (9, .int l9)] [.int s0] X cc ss (KrI K) := by
  unfold w_L_acts_475 at h
  refine aw_istore 477 (lv' := [(6, _), (0, _), (2, _), (7, _), (8, _), (9, _)]) dL_acts_475 (ltb rfl) rfl rfl ?_
  refine aw_aload_n 478 dL_acts_477 rfl 1 rfl rfl ?_
  refine aw_bipush 480 (v := 48) dL_acts_478 kB_48 rfl ?_
  refine aw_iload 482 dL_acts_480 5 rfl rfl ?_
  refine aw_bipush 484 (v := 10) dL_acts_482 kB_10 rfl ?_
  refine aw_irem 485 dL_acts_484 (by decide) rfl ?_
  refine aw_iadd 486 dL_acts_485 rfl ?_
  obtain ⟨g1, h⟩ := h
  obtain ⟨g2, h⟩ := h
  refine aw_callSX (M' := M_L_append) 489 233 [.ref _, .int _] [] dL_acts_486 lk_RL_233 ms_L_append mp_L_append (0, 5, 6, 17) [(0, 5, 10, 19)] rfl ⟨leb rfl, leb rfl⟩ rfl (leb rfl) g1 g2 rfl (am_L_append hG h) (kkI fun v4 X3 h => ?_) (kxN KrI.no)
  refine aw_widen (cc' := cc + 2) (ss' := ss + 12) (Nat.le_refl _) (Nat.le_refl _) ?_
  refine aw_istore 491 (lv' := [(6, _), (0, _), (2, _), (7, _), (8, _), (9, _)]) dL_acts_489 (ltb rfl) rfl rfl ?_
  refine aw_iload 493 dL_acts_491 4 rfl rfl ?_
  refine aw_iconst 494 (v := 3) dL_acts_493 kI_3 rfl ?_
  refine aw_irem 495 dL_acts_494 (by decide) rfl ?_
  refine aw_if_ne 507 498 dL_acts_495 rfl rfl (fun c5 => ?_) (fun c5 => ?_)
  · replace h := h.1 c5
    refine aw_iload 509 dL_acts_507 0 rfl rfl ?_
    exact aw_pick [1, 2, 3, 4] rfl (aw_L_acts_509 hG hO374 h)
  · replace h := h.2 c5
    refine aw_aload_n 499 dL_acts_498 rfl 1 rfl rfl ?_
    refine aw_bipush 501 (v := 126) dL_acts_499 kB_126 rfl ?_
    obtain ⟨g6, h⟩ := h
    obtain ⟨g7, h⟩ := h
    refine aw_callSX (M' := M_L_append) 504 233 [.ref _, .int _] [] dL_acts_501 lk_RL_233 ms_L_append mp_L_append (0, 5, 6, 17) [(0, 5, 10, 19)] rfl ⟨leb rfl, leb rfl⟩ rfl (leb rfl) g6 g7 rfl (am_L_append hG h) (kkI fun v9 X8 h => ?_) (kxN KrI.no)
    refine aw_widen (cc' := cc + 4) (ss' := ss + 24) (Nat.le_refl _) (Nat.le_refl _) ?_
    refine aw_goto 509 dL_acts_504 rfl ?_
    exact aw_pick [1, 2, 3, 4] rfl (aw_L_acts_509 hG hO374 h)
set_option maxRecDepth 20000 in
theorem aw_L_acts_421 {G : GG} (hG : G.1.stackTraces = false) {P374 : Nat → Int32 → Int32 → Int32 → Nat → Nat → XH → Prop} {l0 : Nat} {l2 : Int32} {l7 : Int32} {l8 : Int32} {l9 : Int32} {s0 : Int32} {cc : Nat} {ss : Nat} {X : XH} {K : Int32 → XH → Prop} (hO374 : ∀ (l0 : Nat) (l2 : Int32) (l6 : Int32) (l7 : Int32) (cc : Nat) (ss : Nat) (X : XH), P374 l0 l2 l6 l7 cc ss X → AW G M_L_acts 374 [(0, .ref l0), (2, .int l2), (6, .int l6), (7, .int l7)] [] X cc ss (KrI K)) (h : w_L_acts_421 P374 l0 l2 l7 l8 l9 s0 cc ss X K) : AW G M_L_acts 421 [(0, .ref l0), (2, .int l2), (7, .int l7), (8, .int l8), (9, .int l9)] [.int s0] X cc ss (KrI K) := by
  unfold w_L_acts_421 at h
  refine aw_istore 423 (lv' := [(6, _), (0, _), (2, _), (7, _), (8, _), (9, _)]) dL_acts_421 (ltb rfl) rfl rfl ?_
  refine aw_aload_n 424 dL_acts_423 rfl 1 rfl rfl ?_
  refine aw_bipush 426 (v := 48) dL_acts_424 kB_48 rfl ?_
  refine aw_iload 428 dL_acts_426 4 rfl rfl ?_
  refine aw_iconst 429 (v := 4) dL_acts_428 kI_4 rfl ?_
  refine aw_irem 430 dL_acts_429 (by decide) rfl ?_
  refine aw_iadd 431 dL_acts_430 rfl ?_
  obtain ⟨g1, h⟩ := h
  obtain ⟨g2, h⟩ := h
  refine aw_callSX (M' := M_L_append) 434 233 [.ref _, .int _] [] dL_acts_431 lk_RL_233 ms_L_append mp_L_append (0, 5, 6, 17) [(0, 5, 10, 19)] rfl ⟨leb rfl, leb rfl⟩ rfl (leb rfl) g1 g2 rfl (am_L_append hG h) (kkI fun v4 X3 h => ?_) (kxN KrI.no)
  refine aw_widen (cc' := cc + 2) (ss' := ss + 12) (Nat.le_refl _) (Nat.le_refl _) ?_
  refine aw_istore 436 (lv' := [(6, _), (0, _), (2, _), (7, _), (8, _), (9, _)]) dL_acts_434 (ltb rfl) rfl rfl ?_
  refine aw_aload_n 437 dL_acts_436 rfl 1 rfl rfl ?_
  refine aw_bipush 439 (v := 65) dL_acts_437 kB_65 rfl ?_
  refine aw_iload 441 dL_acts_439 4 rfl rfl ?_
  refine aw_iconst 442 (v := 4) dL_acts_441 kI_4 rfl ?_
  refine aw_idiv 443 dL_acts_442 (by decide) rfl ?_
  refine aw_iconst 444 (v := 5) dL_acts_443 kI_5 rfl ?_
  refine aw_irem 445 dL_acts_444 (by decide) rfl ?_
  refine aw_iadd 446 dL_acts_445 rfl ?_
  obtain ⟨g5, h⟩ := h
  obtain ⟨g6, h⟩ := h
  refine aw_callSX (M' := M_L_append) 449 233 [.ref _, .int _] [] dL_acts_446 lk_RL_233 ms_L_append mp_L_append (0, 5, 6, 17) [(0, 5, 10, 19)] rfl ⟨leb rfl, leb rfl⟩ rfl (leb rfl) g5 g6 rfl (am_L_append hG h) (kkI fun v8 X7 h => ?_) (kxN KrI.no)
  refine aw_widen (cc' := cc + 4) (ss' := ss + 24) (Nat.le_refl _) (Nat.le_refl _) ?_
  refine aw_istore 451 (lv' := [(6, _), (0, _), (2, _), (7, _), (8, _), (9, _)]) dL_acts_449 (ltb rfl) rfl rfl ?_
  refine aw_iload 453 dL_acts_451 5 rfl rfl ?_
  refine aw_bipush 455 (v := 9) dL_acts_453 kB_9 rfl ?_
  refine aw_icmp_le 473 458 dL_acts_455 rfl rfl (fun c9 => ?_) (fun c9 => ?_)
  · replace h := h.1 c9
    refine aw_iload 475 dL_acts_473 0 rfl rfl ?_
    exact aw_pick [1, 2, 3, 4, 5] rfl (aw_L_acts_475 hG hO374 h)
  · replace h := h.2 c9
    refine aw_aload_n 459 dL_acts_458 rfl 1 rfl rfl ?_
    refine aw_bipush 461 (v := 48) dL_acts_459 kB_48 rfl ?_
    refine aw_iload 463 dL_acts_461 5 rfl rfl ?_
    refine aw_bipush 465 (v := 10) dL_acts_463 kB_10 rfl ?_
    refine aw_idiv 466 dL_acts_465 (by decide) rfl ?_
    refine aw_iadd 467 dL_acts_466 rfl ?_
    obtain ⟨g10, h⟩ := h
    obtain ⟨g11, h⟩ := h
    refine aw_callSX (M' := M_L_append) 470 233 [.ref _, .int _] [] dL_acts_467 lk_RL_233 ms_L_append mp_L_append (0, 5, 6, 17) [(0, 5, 10, 19)] rfl ⟨leb rfl, leb rfl⟩ rfl (leb rfl) g10 g11 rfl (am_L_append hG h) (kkI fun v13 X12 h => ?_) (kxN KrI.no)
    refine aw_widen (cc' := cc + 6) (ss' := ss + 36) (Nat.le_refl _) (Nat.le_refl _) ?_
    refine aw_goto 475 dL_acts_470 rfl ?_
    exact aw_pick [1, 2, 3, 4, 5] rfl (aw_L_acts_475 hG hO374 h)
set_option maxRecDepth 20000 in
theorem aw_L_acts_374 {G : GG} (hG : G.1.stackTraces = false)  {l0 : Nat} {l2 : Int32} {l6 : Int32} {l7 : Int32} {cc : Nat} {ss : Nat} {X : XH} {K : Int32 → XH → Prop}  (h : w_L_acts_374  l0 l2 l6 l7 cc ss X K) : AW G M_L_acts 374 [(0, .ref l0), (2, .int l2), (6, .int l6), (7, .int l7)] [] X cc ss (KrI K) :=
  h (fun l0 l2 l6 l7 cc ss X => AW G M_L_acts 374 [(0, .ref l0), (2, .int l2), (6, .int l6), (7, .int l7)] [] X cc ss (KrI K)) (fun l0 l2 l6 l7 cc ss X h => by
    refine aw_iload 376 dL_acts_374 3 rfl rfl ?_
    refine aw_iconst 377 (v := 1) dL_acts_376 kI_1 rfl ?_
    refine aw_iload_n 378 dL_acts_377 rfl 1 rfl rfl ?_
    refine aw_iconst 379 (v := 4) dL_acts_378 kI_4 rfl ?_
    refine aw_irem 380 dL_acts_379 (by decide) rfl ?_
    refine aw_iadd 381 dL_acts_380 rfl ?_
    refine aw_icmp_ge 546 384 dL_acts_381 rfl rfl (fun c1 => ?_) (fun c1 => ?_)
    · replace h := h.1 c1
      refine aw_iload 548 dL_acts_546 2 rfl rfl ?_
      refine aw_iconst 549 (v := 1) dL_acts_548 kI_1 rfl ?_
      refine aw_icmp_lt 561 552 dL_acts_549 rfl rfl (fun c2 => ?_) (fun c2 => ?_)
      · replace h := h.1 c2
        refine aw_bipush 563 (v := -99) dL_acts_561 kB_m99 rfl ?_
        refine aw_goto 570 dL_acts_563 rfl ?_
        obtain ⟨g3, h⟩ := h
        obtain ⟨g4, h⟩ := h
        exact aw_ireturn (ty := .int) dL_acts_570 rfl rfl g3 g4 ⟨_, rfl, h⟩
      · replace h := h.2 c2
        refine aw_aload_n 553 dL_acts_552 rfl 0 rfl rfl ?_
        obtain ⟨g5, h⟩ := h
        obtain ⟨g6, h⟩ := h
        obtain ⟨g9, h⟩ := h
        refine aw_callV (M' := M_X4_firstError) 556 235 4 l0 [] [] dL_acts_553 lk_RL_235 mv_X4_firstError mp_X4_firstError rfl ⟨leb rfl, leb rfl⟩ rfl (ltb rfl) g9 rfl (leb rfl) g5 g6 rfl (am_X4_firstError hG h) (kkI fun v8 X7 h => ?_) (kxN KrI.no)
        refine aw_widen (cc' := cc) (ss' := ss) (Nat.le_refl _) (Nat.le_refl _) ?_
        refine aw_iload 558 dL_acts_556 2 rfl rfl ?_
        refine aw_icmp_eq 566 561 dL_acts_558 rfl rfl (fun c10 => ?_) (fun c10 => ?_)
        · replace h := h.1 c10
          refine aw_aload_n 567 dL_acts_566 rfl 0 rfl rfl ?_
          obtain ⟨g11, h⟩ := h
          obtain ⟨g12, h⟩ := h
          refine aw_callSX (M' := M_L_load) 570 238 [.ref _] [] dL_acts_567 lk_RL_238 ms_L_load mp_L_load (0, 4, 5, 17) [(0, 4, 9, 19)] rfl ⟨leb rfl, leb rfl⟩ rfl (leb rfl) g11 g12 rfl (am_L_load hG h) (kkI fun v14 X13 h => ?_) (kxN KrI.no)
          refine aw_widen (cc' := cc + 1) (ss' := ss + 6) (Nat.le_refl _) (Nat.le_refl _) ?_
          obtain ⟨g15, h⟩ := h
          obtain ⟨g16, h⟩ := h
          exact aw_ireturn (ty := .int) dL_acts_570 rfl rfl g15 g16 ⟨_, rfl, h⟩
        · replace h := h.2 c10
          refine aw_bipush 563 (v := -99) dL_acts_561 kB_m99 rfl ?_
          refine aw_goto 570 dL_acts_563 rfl ?_
          obtain ⟨g17, h⟩ := h
          obtain ⟨g18, h⟩ := h
          exact aw_ireturn (ty := .int) dL_acts_570 rfl rfl g17 g18 ⟨_, rfl, h⟩
    · replace h := h.2 c1
      refine aw_iload_n 385 dL_acts_384 rfl 1 rfl rfl ?_
      refine aw_iconst 386 (v := 4) dL_acts_385 kI_4 rfl ?_
      refine aw_idiv 387 dL_acts_386 (by decide) rfl ?_
      refine aw_iconst 388 (v := 5) dL_acts_387 kI_5 rfl ?_
      refine aw_iload 390 dL_acts_388 3 rfl rfl ?_
      refine aw_imul 391 dL_acts_390 rfl ?_
      refine aw_ishr 392 dL_acts_391 rfl ?_
      refine aw_istore 394 (lv' := [(8, _), (0, _), (2, _), (6, _), (7, _)]) dL_acts_392 (ltb rfl) rfl rfl ?_
      refine aw_iconst 395 (v := 4) dL_acts_394 kI_4 rfl ?_
      refine aw_iload 397 dL_acts_395 0 rfl rfl ?_
      refine aw_bipush 399 (v := 16) dL_acts_397 kB_16 rfl ?_
      refine aw_idiv 400 dL_acts_399 (by decide) rfl ?_
      refine aw_bipush 402 (v := 57) dL_acts_400 kB_57 rfl ?_
      refine aw_irem 403 dL_acts_402 (by decide) rfl ?_
      refine aw_iadd 404 dL_acts_403 rfl ?_
      refine aw_istore 406 (lv' := [(9, _), (8, _), (0, _), (2, _), (6, _), (7, _)]) dL_acts_404 (ltb rfl) rfl rfl ?_
      refine aw_iload 408 dL_acts_406 5 rfl rfl ?_
      refine aw_if_le 420 411 dL_acts_408 rfl rfl (fun c19 => ?_) (fun c19 => ?_)
      · replace h := h.1 c19
        refine aw_iconst 421 (v := 0) dL_acts_420 kI_0 rfl ?_
        exact aw_pick [2, 3, 5, 1, 0] rfl (aw_L_acts_421 hG (fun _ _ _ _ _ _ _ h => h) h)
      · replace h := h.2 c19
        refine aw_aload_n 412 dL_acts_411 rfl 2 rfl rfl ?_
        refine aw_bipush 414 (v := 59) dL_acts_412 kB_59 rfl ?_
        obtain ⟨g20, h⟩ := h
        obtain ⟨g21, h⟩ := h
        refine aw_callSX (M' := M_L_append) 417 233 [.ref _, .int _] [] dL_acts_414 lk_RL_233 ms_L_append mp_L_append (0, 5, 6, 17) [(0, 5, 10, 19)] rfl ⟨leb rfl, leb rfl⟩ rfl (leb rfl) g20 g21 rfl (am_L_append hG h) (kkI fun v23 X22 h => ?_) (kxN KrI.no)
        refine aw_widen (cc' := cc + 2) (ss' := ss + 12) (Nat.le_refl _) (Nat.le_refl _) ?_
        refine aw_goto 421 dL_acts_417 rfl ?_
        exact aw_pick [2, 3, 5, 1, 0] rfl (aw_L_acts_421 hG (fun _ _ _ _ _ _ _ h => h) h))
set_option maxRecDepth 20000 in
theorem aw_L_acts_365 {G : GG} (hG : G.1.stackTraces = false)  {l0 : Nat} {l2 : Int32} {cc : Nat} {ss : Nat} {X : XH} {K : Int32 → XH → Prop}  (h : w_L_acts_365  l0 l2 cc ss X K) : AW G M_L_acts 365 [(0, .ref l0), (2, .int l2)] [] X cc ss (KrI K) := by
  unfold w_L_acts_365 at h
  refine aw_aload_n 366 dL_acts_365 rfl 0 rfl rfl ?_
  obtain ⟨g1, h⟩ := h
  obtain ⟨g2, h⟩ := h
  obtain ⟨g5, h⟩ := h
  refine aw_callV (M' := M_X4_clearBuffer) 369 230 4 l0 [] [] dL_acts_366 lk_RL_230 mv_X4_clearBuffer mp_X4_clearBuffer rfl ⟨leb rfl, leb rfl⟩ rfl (ltb rfl) g5 rfl (leb rfl) g1 g2 rfl (am_X4_clearBuffer hG h) (kkI fun v4 X3 h => ?_) (kxN KrI.no)
  refine aw_widen (cc' := cc) (ss' := ss) (Nat.le_refl _) (Nat.le_refl _) ?_
  refine aw_istore 371 (lv' := [(6, _), (0, _), (2, _)]) dL_acts_369 (ltb rfl) rfl rfl ?_
  refine aw_iconst 372 (v := 0) dL_acts_371 kI_0 rfl ?_
  refine aw_istore 374 (lv' := [(7, _), (6, _), (0, _), (2, _)]) dL_acts_372 (ltb rfl) rfl rfl ?_
  exact aw_pick [2, 3, 1, 0] rfl (aw_L_acts_374 hG  h)
set_option maxRecDepth 20000 in
theorem aw_L_acts_44 {G : GG} (hG : G.1.stackTraces = false)  {l0 : Nat} {l2 : Int32} {l4 : Int32} {l5 : Int32} {s0 : Int32} {cc : Nat} {ss : Nat} {X : XH} {K : Int32 → XH → Prop}  (h : w_L_acts_44  l0 l2 l4 l5 s0 cc ss X K) : AW G M_L_acts 44 [(0, .ref l0), (2, .int l2), (4, .int l4), (5, .int l5)] [.int s0] X cc ss (KrI K) := by
  unfold w_L_acts_44 at h
  by_cases c1 : s0.toInt < 0 ∨ 23 < s0.toInt
  · refine aw_tableOut 571 dL_acts_44 c1 rfl ?_
    replace h := h.1 c1
    refine aw_aload_n 572 dL_acts_571 rfl 0 rfl rfl ?_
    refine aw_iload 574 dL_acts_572 2 rfl rfl ?_
    refine aw_iload 576 dL_acts_574 3 rfl rfl ?_
    obtain ⟨g2, h⟩ := h
    obtain ⟨g3, h⟩ := h
    refine aw_callSX (M' := M_L_recordIt) 579 240 [.ref _, .int _, .int _] [] dL_acts_576 lk_RL_240 ms_L_recordIt mp_L_recordIt (0, 6, 7, 15) [(0, 6, 11, 19)] rfl ⟨leb rfl, leb rfl⟩ rfl (leb rfl) g2 g3 rfl (am_L_recordIt hG h) (kkI fun v5 X4 h => ?_) (kxN KrI.no)
    refine aw_widen (cc' := cc + 3) (ss' := ss + 18) (Nat.le_refl _) (Nat.le_refl _) ?_
    obtain ⟨g6, h⟩ := h
    obtain ⟨g7, h⟩ := h
    exact aw_ireturn (ty := .int) dL_acts_579 rfl rfl g6 g7 ⟨_, rfl, h⟩
  by_cases c1_0 : s0.toInt = 0
  · refine aw_tableIn 156 dL_acts_44 (fun q => c1 (Or.inl q)) (fun q => c1 (Or.inr q)) (by rw [c1_0]; rfl) rfl ?_
    replace h := h.2.1 c1_0
    exact aw_pick [0, 1] rfl (aw_L_acts_156 hG  h)
  by_cases c1_1 : s0.toInt = 1
  · refine aw_tableIn 156 dL_acts_44 (fun q => c1 (Or.inl q)) (fun q => c1 (Or.inr q)) (by rw [c1_1]; rfl) rfl ?_
    replace h := h.2.2.1 c1_1
    exact aw_pick [0, 1] rfl (aw_L_acts_156 hG  h)
  by_cases c1_2 : s0.toInt = 2
  · refine aw_tableIn 178 dL_acts_44 (fun q => c1 (Or.inl q)) (fun q => c1 (Or.inr q)) (by rw [c1_2]; rfl) rfl ?_
    replace h := h.2.2.2.1 c1_2
    exact aw_pick [0, 1, 2] rfl (aw_L_acts_178 hG  h)
  by_cases c1_3 : s0.toInt = 3
  · refine aw_tableIn 195 dL_acts_44 (fun q => c1 (Or.inl q)) (fun q => c1 (Or.inr q)) (by rw [c1_3]; rfl) rfl ?_
    replace h := h.2.2.2.2.1 c1_3
    exact aw_pick [0, 1, 2] rfl (aw_L_acts_195 hG  h)
  by_cases c1_4 : s0.toInt = 4
  · refine aw_tableIn 195 dL_acts_44 (fun q => c1 (Or.inl q)) (fun q => c1 (Or.inr q)) (by rw [c1_4]; rfl) rfl ?_
    replace h := h.2.2.2.2.2.1 c1_4
    exact aw_pick [0, 1, 2] rfl (aw_L_acts_195 hG  h)
  by_cases c1_5 : s0.toInt = 5
  · refine aw_tableIn 210 dL_acts_44 (fun q => c1 (Or.inl q)) (fun q => c1 (Or.inr q)) (by rw [c1_5]; rfl) rfl ?_
    replace h := h.2.2.2.2.2.2.1 c1_5
    exact aw_pick [0, 1, 2] rfl (aw_L_acts_210 hG  h)
  by_cases c1_6 : s0.toInt = 6
  · refine aw_tableIn 224 dL_acts_44 (fun q => c1 (Or.inl q)) (fun q => c1 (Or.inr q)) (by rw [c1_6]; rfl) rfl ?_
    replace h := h.2.2.2.2.2.2.2.1 c1_6
    exact aw_pick [0, 1, 2, 3] rfl (aw_L_acts_224 hG  h)
  by_cases c1_7 : s0.toInt = 7
  · refine aw_tableIn 224 dL_acts_44 (fun q => c1 (Or.inl q)) (fun q => c1 (Or.inr q)) (by rw [c1_7]; rfl) rfl ?_
    replace h := h.2.2.2.2.2.2.2.2.1 c1_7
    exact aw_pick [0, 1, 2, 3] rfl (aw_L_acts_224 hG  h)
  by_cases c1_8 : s0.toInt = 8
  · refine aw_tableIn 224 dL_acts_44 (fun q => c1 (Or.inl q)) (fun q => c1 (Or.inr q)) (by rw [c1_8]; rfl) rfl ?_
    replace h := h.2.2.2.2.2.2.2.2.2.1 c1_8
    exact aw_pick [0, 1, 2, 3] rfl (aw_L_acts_224 hG  h)
  by_cases c1_9 : s0.toInt = 9
  · refine aw_tableIn 224 dL_acts_44 (fun q => c1 (Or.inl q)) (fun q => c1 (Or.inr q)) (by rw [c1_9]; rfl) rfl ?_
    replace h := h.2.2.2.2.2.2.2.2.2.2.1 c1_9
    exact aw_pick [0, 1, 2, 3] rfl (aw_L_acts_224 hG  h)
  by_cases c1_10 : s0.toInt = 10
  · refine aw_tableIn 224 dL_acts_44 (fun q => c1 (Or.inl q)) (fun q => c1 (Or.inr q)) (by rw [c1_10]; rfl) rfl ?_
    replace h := h.2.2.2.2.2.2.2.2.2.2.2.1 c1_10
    exact aw_pick [0, 1, 2, 3] rfl (aw_L_acts_224 hG  h)
  by_cases c1_11 : s0.toInt = 11
  · refine aw_tableIn 224 dL_acts_44 (fun q => c1 (Or.inl q)) (fun q => c1 (Or.inr q)) (by rw [c1_11]; rfl) rfl ?_
    replace h := h.2.2.2.2.2.2.2.2.2.2.2.2.1 c1_11
    exact aw_pick [0, 1, 2, 3] rfl (aw_L_acts_224 hG  h)
  by_cases c1_12 : s0.toInt = 12
  · refine aw_tableIn 254 dL_acts_44 (fun q => c1 (Or.inl q)) (fun q => c1 (Or.inr q)) (by rw [c1_12]; rfl) rfl ?_
    replace h := h.2.2.2.2.2.2.2.2.2.2.2.2.2.1 c1_12
    exact aw_pick [0, 1, 2, 3] rfl (aw_L_acts_254 hG  h)
  by_cases c1_13 : s0.toInt = 13
  · refine aw_tableIn 273 dL_acts_44 (fun q => c1 (Or.inl q)) (fun q => c1 (Or.inr q)) (by rw [c1_13]; rfl) rfl ?_
    replace h := h.2.2.2.2.2.2.2.2.2.2.2.2.2.2.1 c1_13
    exact aw_pick [0, 2, 3] rfl (aw_L_acts_273 hG  h)
  by_cases c1_14 : s0.toInt = 14
  · refine aw_tableIn 282 dL_acts_44 (fun q => c1 (Or.inl q)) (fun q => c1 (Or.inr q)) (by rw [c1_14]; rfl) rfl ?_
    replace h := h.2.2.2.2.2.2.2.2.2.2.2.2.2.2.2.1 c1_14
    exact aw_pick [0, 1, 3] rfl (aw_L_acts_282 hG  h)
  by_cases c1_15 : s0.toInt = 15
  · refine aw_tableIn 303 dL_acts_44 (fun q => c1 (Or.inl q)) (fun q => c1 (Or.inr q)) (by rw [c1_15]; rfl) rfl ?_
    replace h := h.2.2.2.2.2.2.2.2.2.2.2.2.2.2.2.2.1 c1_15
    exact aw_pick [0] rfl (aw_L_acts_303 hG  h)
  by_cases c1_16 : s0.toInt = 16
  · refine aw_tableIn 308 dL_acts_44 (fun q => c1 (Or.inl q)) (fun q => c1 (Or.inr q)) (by rw [c1_16]; rfl) rfl ?_
    replace h := h.2.2.2.2.2.2.2.2.2.2.2.2.2.2.2.2.2.1 c1_16
    exact aw_pick [0, 2, 3] rfl (aw_L_acts_308 hG  h)
  by_cases c1_17 : s0.toInt = 17
  · refine aw_tableIn 317 dL_acts_44 (fun q => c1 (Or.inl q)) (fun q => c1 (Or.inr q)) (by rw [c1_17]; rfl) rfl ?_
    replace h := h.2.2.2.2.2.2.2.2.2.2.2.2.2.2.2.2.2.2.1 c1_17
    exact aw_pick [0, 1, 3] rfl (aw_L_acts_317 hG  h)
  by_cases c1_18 : s0.toInt = 18
  · refine aw_tableIn 327 dL_acts_44 (fun q => c1 (Or.inl q)) (fun q => c1 (Or.inr q)) (by rw [c1_18]; rfl) rfl ?_
    replace h := h.2.2.2.2.2.2.2.2.2.2.2.2.2.2.2.2.2.2.2.1 c1_18
    exact aw_pick [0, 1, 3] rfl (aw_L_acts_327 hG  h)
  by_cases c1_19 : s0.toInt = 19
  · refine aw_tableIn 327 dL_acts_44 (fun q => c1 (Or.inl q)) (fun q => c1 (Or.inr q)) (by rw [c1_19]; rfl) rfl ?_
    replace h := h.2.2.2.2.2.2.2.2.2.2.2.2.2.2.2.2.2.2.2.2.1 c1_19
    exact aw_pick [0, 1, 3] rfl (aw_L_acts_327 hG  h)
  by_cases c1_20 : s0.toInt = 20
  · refine aw_tableIn 344 dL_acts_44 (fun q => c1 (Or.inl q)) (fun q => c1 (Or.inr q)) (by rw [c1_20]; rfl) rfl ?_
    replace h := h.2.2.2.2.2.2.2.2.2.2.2.2.2.2.2.2.2.2.2.2.2.1 c1_20
    exact aw_pick [0] rfl (aw_L_acts_344 hG  h)
  by_cases c1_21 : s0.toInt = 21
  · refine aw_tableIn 349 dL_acts_44 (fun q => c1 (Or.inl q)) (fun q => c1 (Or.inr q)) (by rw [c1_21]; rfl) rfl ?_
    replace h := h.2.2.2.2.2.2.2.2.2.2.2.2.2.2.2.2.2.2.2.2.2.2.1 c1_21
    exact aw_pick [0, 1] rfl (aw_L_acts_349 hG  h)
  by_cases c1_22 : s0.toInt = 22
  · refine aw_tableIn 357 dL_acts_44 (fun q => c1 (Or.inl q)) (fun q => c1 (Or.inr q)) (by rw [c1_22]; rfl) rfl ?_
    replace h := h.2.2.2.2.2.2.2.2.2.2.2.2.2.2.2.2.2.2.2.2.2.2.2.1 c1_22
    exact aw_pick [0, 1] rfl (aw_L_acts_357 hG  h)
  have c1_23 : s0.toInt = 23 := by omega
  refine aw_tableIn 365 dL_acts_44 (fun q => c1 (Or.inl q)) (fun q => c1 (Or.inr q)) (by rw [c1_23]; rfl) rfl ?_
  replace h := h.2.2.2.2.2.2.2.2.2.2.2.2.2.2.2.2.2.2.2.2.2.2.2.2 c1_23
  exact aw_pick [0, 1] rfl (aw_L_acts_365 hG  h)
set_option maxRecDepth 20000 in
theorem aw_L_acts_21 {G : GG} (hG : G.1.stackTraces = false)  {l0 : Nat} {l1 : Int32} {l2 : Int32} {l3 : Int32} {s0 : Int32} {cc : Nat} {ss : Nat} {X : XH} {K : Int32 → XH → Prop}  (h : w_L_acts_21  l0 l1 l2 l3 s0 cc ss X K) : AW G M_L_acts 21 [(0, .ref l0), (1, .int l1), (2, .int l2), (3, .int l3)] [.int s0] X cc ss (KrI K) := by
  unfold w_L_acts_21 at h
  refine aw_istore 23 (lv' := [(4, _), (0, _), (1, _), (2, _), (3, _)]) dL_acts_21 (ltb rfl) rfl rfl ?_
  refine aw_iload_n 24 dL_acts_23 rfl 3 rfl rfl ?_
  refine aw_bipush 26 (v := 32) dL_acts_24 kB_32 rfl ?_
  refine aw_idiv 27 dL_acts_26 (by decide) rfl ?_
  refine aw_iconst 28 (v := 3) dL_acts_27 kI_3 rfl ?_
  refine aw_irem 29 dL_acts_28 (by decide) rfl ?_
  refine aw_istore 31 (lv' := [(5, _), (4, _), (0, _), (1, _), (2, _), (3, _)]) dL_acts_29 (ltb rfl) rfl rfl ?_
  refine aw_iload_n 32 dL_acts_31 rfl 5 rfl rfl ?_
  refine aw_iconst 33 (v := 3) dL_acts_32 kI_3 rfl ?_
  refine aw_icmp_ge 40 36 dL_acts_33 rfl rfl (fun c1 => ?_) (fun c1 => ?_)
  · replace h := h.1 c1
    refine aw_iload_n 41 dL_acts_40 rfl 3 rfl rfl ?_
    refine aw_bipush 43 (v := 32) dL_acts_41 kB_32 rfl ?_
    refine aw_irem 44 dL_acts_43 (by decide) rfl ?_
    exact aw_pick [2, 4, 1, 0] rfl (aw_L_acts_44 hG  h)
  · replace h := h.2 c1
    refine aw_iconst 37 (v := 0) dL_acts_36 kI_0 rfl ?_
    refine aw_goto 44 dL_acts_37 rfl ?_
    exact aw_pick [2, 4, 1, 0] rfl (aw_L_acts_44 hG  h)
set_option maxRecDepth 20000 in
theorem am_L_acts {G : GG} (hG : G.1.stackTraces = false) {l0 : Nat} {l1 : Int32} {X : XH} {K : Int32 → XH → Prop} (h : w_L_acts l0 l1 X K) : AM G M_L_acts X [.ref l0, .int l1] (KrI K) := AM_of (by decide +kernel) rfl (leb rfl) hG (by
  show AW G M_L_acts 0 [(0, .ref l0), (1, .int l1)] [] X 0 0 _
  unfold w_L_acts at h
  refine aw_iload_n 1 dL_acts_0 rfl 1 rfl rfl ?_
  refine aw_bipush 3 (v := 32) dL_acts_1 kB_32 rfl ?_
  refine aw_idiv 4 dL_acts_3 (by decide) rfl ?_
  refine aw_istore_n 5 (lv' := [(2, _), (0, _), (1, _)]) dL_acts_4 rfl (ltb rfl) rfl rfl ?_
  refine aw_aload_n 6 dL_acts_5 rfl 1 rfl rfl ?_
  obtain ⟨g3, h⟩ := h
  refine aw_callV (M' := M_X4_clauses) 9 191 4 l0 [] [] dL_acts_6 lk_RL_191 mv_X4_clauses mp_X4_clauses rfl ⟨leb rfl, leb rfl⟩ rfl (ltb rfl) g3 rfl (leb rfl) (leb rfl) (leb rfl) rfl (am_X4_clauses hG h) (kkI fun v2 X1 h => ?_) (kxN KrI.no)
  refine aw_widen (cc' := 0) (ss' := 0) (leb rfl) (leb rfl) ?_
  refine aw_istore_n 10 (lv' := [(3, _), (2, _), (0, _), (1, _)]) dL_acts_9 rfl (ltb rfl) rfl rfl ?_
  refine aw_iload_n 11 dL_acts_10 rfl 0 rfl rfl ?_
  refine aw_if_ne 18 14 dL_acts_11 rfl rfl (fun c4 => ?_) (fun c4 => ?_)
  · replace h := h.1 c4
    refine aw_iload_n 19 dL_acts_18 rfl 1 rfl rfl ?_
    refine aw_iload_n 20 dL_acts_19 rfl 0 rfl rfl ?_
    obtain ⟨g5, h⟩ := h
    refine aw_irem 21 dL_acts_20 g5 rfl ?_
    exact aw_pick [2, 3, 1, 0] rfl (aw_L_acts_21 hG  h)
  · replace h := h.2 c4
    refine aw_iconst 15 (v := 0) dL_acts_14 kI_0 rfl ?_
    refine aw_goto 21 dL_acts_15 rfl ?_
    exact aw_pick [2, 3, 1, 0] rfl (aw_L_acts_21 hG  h))
set_option maxRecDepth 20000 in
theorem am_X4_annexedOf {G : GG} (hG : G.1.stackTraces = false) {l0 : Nat} {l1 : Int32} {l2 : Int32} {X : XH} {K : Int32 → XH → Prop} {KX : String → XH → Prop} (h : w_X4_annexedOf l0 l1 l2 X K KX) : AM G M_X4_annexedOf X [.ref l0, .int l1, .int l2] (KxT (KrI K) KX) := AM_of (by decide +kernel) rfl (leb rfl) hG (by
  show AW G M_X4_annexedOf 0 [(0, .ref l0), (1, .int l1), (2, .int l2)] [] X 0 0 _
  unfold w_X4_annexedOf at h
  refine aw_aload_n 1 dX4_annexedOf_0 rfl 0 rfl rfl ?_
  refine aw_iload_n 2 dX4_annexedOf_1 rfl 1 rfl rfl ?_
  refine aw_iload_n 3 dX4_annexedOf_2 rfl 2 rfl rfl ?_
  obtain ⟨g2, h⟩ := h
  refine aw_callV (M' := M_X4_checkTranslation) 6 115 4 l0 [.int _, .int _] [] dX4_annexedOf_3 lk_RX4_115 mv_X4_checkTranslation mp_X4_checkTranslation rfl ⟨leb rfl, leb rfl⟩ rfl (ltb rfl) g2 rfl (leb rfl) (leb rfl) (leb rfl) rfl (am_X4_checkTranslation hG h) (kkT (kkV fun X1 h => ?_)) (kxT KrV.no fun E X h => at_out rfl (leb rfl) (leb rfl) (Or.inr ⟨_, rfl, h⟩))
  refine aw_widen (cc' := 2) (ss' := 12) (leb rfl) (leb rfl) ?_
  refine aw_aload_n 7 dX4_annexedOf_6 rfl 0 rfl rfl ?_
  obtain ⟨g3, h⟩ := h
  obtain ⟨g4, h⟩ := h
  refine aw_getR 10 dX4_annexedOf_7 fl_RX4_10 rfl g3 g4 rfl ?_
  refine aw_iload_n 11 dX4_annexedOf_10 rfl 1 rfl rfl ?_
  refine aw_iload_n 12 dX4_annexedOf_11 rfl 2 rfl rfl ?_
  obtain ⟨g7, h⟩ := h
  refine aw_callV (M' := M_X3_annexedAt) 15 142 3 (hR X1 l0 0) [.int _, .int _] [] dX4_annexedOf_12 lk_RX4_142 mv_X3_annexedAt mp_X3_annexedAt rfl ⟨leb rfl, leb rfl⟩ rfl (ltb rfl) g7 rfl (leb rfl) (leb rfl) (leb rfl) rfl (am_X3_annexedAt hG h) (kkI fun v6 X5 h => ?_) (kxN KrI.no)
  refine aw_widen (cc' := 2) (ss' := 12) (leb rfl) (leb rfl) ?_
  exact aw_ireturn (ty := .int) dX4_annexedOf_15 rfl rfl (leb rfl) (leb rfl) (Or.inl ⟨_, rfl, h⟩))
set_option maxRecDepth 20000 in
theorem am_L_annexedOf {G : GG} (hG : G.1.stackTraces = false) {l0 : Nat} {l1 : Int32} {l2 : Int32} {X : XH} {K : Int32 → XH → Prop} (h : w_L_annexedOf l0 l1 l2 X K) : AM G M_L_annexedOf X [.ref l0, .int l1, .int l2] (KrI K) := AM_ofH (by decide +kernel) (0, 6, 7, 15) [] rfl (leb rfl) hG (by
  show AW G M_L_annexedOf 0 [(0, .ref l0), (1, .int l1), (2, .int l2)] [] X 0 0 _
  unfold w_L_annexedOf at h
  refine aw_aload_n 1 dL_annexedOf_0 rfl 0 rfl rfl ?_
  refine aw_iload_n 2 dL_annexedOf_1 rfl 1 rfl rfl ?_
  refine aw_iload_n 3 dL_annexedOf_2 rfl 2 rfl rfl ?_
  obtain ⟨g3, h⟩ := h
  refine aw_callV (M' := M_X4_annexedOf) 6 79 4 l0 [.int _, .int _] [] dL_annexedOf_3 lk_RL_79 mv_X4_annexedOf mp_X4_annexedOf rfl ⟨leb rfl, leb rfl⟩ rfl (ltb rfl) g3 rfl (leb rfl) (leb rfl) (leb rfl) rfl (am_X4_annexedOf hG h) (kkT (kkI fun v2 X1 h => ?_)) (kxT KrI.no fun E X1 h => ?_)
  · refine aw_widen (cc' := 2) (ss' := 12) (leb rfl) (leb rfl) ?_
    exact aw_ireturn (ty := .int) dL_annexedOf_6 rfl rfl (leb rfl) (leb rfl) ⟨_, rfl, h⟩
  · obtain ⟨hE, h⟩ := h
    rcases hE with rfl
    refine aw_atc (lv' := [(0, .ref _), (1, .int _), (2, .int _)]) [] (0, 6, 7, 15) [] rfl (fun z hz => nomatch hz) (by decide) (by decide) (tk3 (i := 40) (by decide +kernel) rfl) (by decide) 3 1 8 (Or.inl ⟨3, rfl, dL_annexedOf_7, rfl⟩) (ltb rfl) rfl ?_
    refine aw_widen (cc' := 2) (ss' := 12) (leb rfl) (leb rfl) ?_
    replace h := h rfl
    refine aw_bipush 10 (v := -2) dL_annexedOf_8 kB_m2 rfl ?_
    exact aw_ireturn (ty := .int) dL_annexedOf_10 rfl rfl (leb rfl) (leb rfl) ⟨_, rfl, h⟩)
set_option maxRecDepth 20000 in
theorem am_L_cell {G : GG} (hG : G.1.stackTraces = false) {l1 : Int32} {X : XH} {K : Int32 → XH → Prop} (h : w_L_cell G 0 l1 X K) : AM G M_L_cell X [.ref 0, .int l1] (KrI K) := AM_of (by decide +kernel) rfl (leb rfl) hG (by
  show AW G M_L_cell 0 [(0, .ref 0), (1, .int l1)] [] X 0 0 _
  unfold w_L_cell at h
  refine aw_iload_n 1 dL_cell_0 rfl 1 rfl rfl ?_
  refine aw_aload_n 2 dL_cell_1 rfl 0 rfl rfl ?_
  refine aw_slen 3 dL_cell_2 rfl ?_
  refine aw_icmp_ge 12 6 dL_cell_3 rfl rfl (fun c1 => ?_) (fun c1 => ?_)
  · replace h := h.1 c1
    refine aw_ldc 14 (v := 94477) dL_cell_12 (tk3 (i := 35) (by decide +kernel) rfl) rfl ?_
    refine aw_iload_n 15 dL_cell_14 rfl 1 rfl rfl ?_
    refine aw_sipush 18 (v := 269) dL_cell_15 kS_269 rfl ?_
    refine aw_iadd 19 dL_cell_18 rfl ?_
    refine aw_imul 20 dL_cell_19 rfl ?_
    refine aw_sipush 23 (v := 313) dL_cell_20 kS_313 rfl ?_
    refine aw_iadd 24 dL_cell_23 rfl ?_
    refine aw_ldc 26 (v := 2147483647) dL_cell_24 (tk3 (i := 36) (by decide +kernel) rfl) rfl ?_
    refine aw_iand 27 dL_cell_26 rfl ?_
    exact aw_ireturn (ty := .int) dL_cell_27 rfl rfl (leb rfl) (leb rfl) ⟨_, rfl, h⟩
  · replace h := h.2 c1
    refine aw_aload_n 7 dL_cell_6 rfl 0 rfl rfl ?_
    refine aw_iload_n 8 dL_cell_7 rfl 1 rfl rfl ?_
    obtain ⟨g2, h⟩ := h
    refine aw_sld 9 dL_cell_8 g2 rfl ?_
    refine aw_goto 24 dL_cell_9 rfl ?_
    refine aw_ldc 26 (v := 2147483647) dL_cell_24 (tk3 (i := 36) (by decide +kernel) rfl) rfl ?_
    refine aw_iand 27 dL_cell_26 rfl ?_
    exact aw_ireturn (ty := .int) dL_cell_27 rfl rfl (leb rfl) (leb rfl) ⟨_, rfl, h⟩)
set_option maxRecDepth 20000 in
theorem am_X4_reelOf {G : GG} (hG : G.1.stackTraces = false) {l0 : Nat} {l1 : Int32} {X : XH} {K : Int32 → XH → Prop} {KX : String → XH → Prop} (h : w_X4_reelOf l0 l1 X K KX) : AM G M_X4_reelOf X [.ref l0, .int l1] (KxT (KrI K) KX) := AM_of (by decide +kernel) rfl (leb rfl) hG (by
  show AW G M_X4_reelOf 0 [(0, .ref l0), (1, .int l1)] [] X 0 0 _
  unfold w_X4_reelOf at h
  refine aw_aload_n 1 dX4_reelOf_0 rfl 0 rfl rfl ?_
  refine aw_iload_n 2 dX4_reelOf_1 rfl 1 rfl rfl ?_
  obtain ⟨g2, h⟩ := h
  refine aw_callV (M' := M_X4_checkClause) 5 75 4 l0 [.int _] [] dX4_reelOf_2 lk_RX4_75 mv_X4_checkClause mp_X4_checkClause rfl ⟨leb rfl, leb rfl⟩ rfl (ltb rfl) g2 rfl (leb rfl) (leb rfl) (leb rfl) rfl (am_X4_checkClause hG h) (kkT (kkV fun X1 h => ?_)) (kxT KrV.no fun E X h => at_out rfl (leb rfl) (leb rfl) (Or.inr ⟨_, rfl, h⟩))
  refine aw_widen (cc' := 1) (ss' := 6) (leb rfl) (leb rfl) ?_
  refine aw_aload_n 6 dX4_reelOf_5 rfl 0 rfl rfl ?_
  obtain ⟨g3, h⟩ := h
  obtain ⟨g4, h⟩ := h
  refine aw_getR 9 dX4_reelOf_6 fl_RX4_10 rfl g3 g4 rfl ?_
  refine aw_iload_n 10 dX4_reelOf_9 rfl 1 rfl rfl ?_
  obtain ⟨g7, h⟩ := h
  refine aw_callV (M' := M_X3_reelAt) 13 104 3 (hR X1 l0 0) [.int _] [] dX4_reelOf_10 lk_RX4_104 mv_X3_reelAt mp_X3_reelAt rfl ⟨leb rfl, leb rfl⟩ rfl (ltb rfl) g7 rfl (leb rfl) (leb rfl) (leb rfl) rfl (am_X3_reelAt hG h) (kkI fun v6 X5 h => ?_) (kxN KrI.no)
  refine aw_widen (cc' := 1) (ss' := 6) (leb rfl) (leb rfl) ?_
  exact aw_ireturn (ty := .int) dX4_reelOf_13 rfl rfl (leb rfl) (leb rfl) (Or.inl ⟨_, rfl, h⟩))
set_option maxRecDepth 20000 in
theorem am_X4_speakerOf {G : GG} (hG : G.1.stackTraces = false) {l0 : Nat} {l1 : Int32} {X : XH} {K : Int32 → XH → Prop} {KX : String → XH → Prop} (h : w_X4_speakerOf l0 l1 X K KX) : AM G M_X4_speakerOf X [.ref l0, .int l1] (KxT (KrI K) KX) := AM_of (by decide +kernel) rfl (leb rfl) hG (by
  show AW G M_X4_speakerOf 0 [(0, .ref l0), (1, .int l1)] [] X 0 0 _
  unfold w_X4_speakerOf at h
  refine aw_aload_n 1 dX4_speakerOf_0 rfl 0 rfl rfl ?_
  refine aw_iload_n 2 dX4_speakerOf_1 rfl 1 rfl rfl ?_
  obtain ⟨g2, h⟩ := h
  refine aw_callV (M' := M_X4_checkClause) 5 75 4 l0 [.int _] [] dX4_speakerOf_2 lk_RX4_75 mv_X4_checkClause mp_X4_checkClause rfl ⟨leb rfl, leb rfl⟩ rfl (ltb rfl) g2 rfl (leb rfl) (leb rfl) (leb rfl) rfl (am_X4_checkClause hG h) (kkT (kkV fun X1 h => ?_)) (kxT KrV.no fun E X h => at_out rfl (leb rfl) (leb rfl) (Or.inr ⟨_, rfl, h⟩))
  refine aw_widen (cc' := 1) (ss' := 6) (leb rfl) (leb rfl) ?_
  refine aw_aload_n 6 dX4_speakerOf_5 rfl 0 rfl rfl ?_
  obtain ⟨g3, h⟩ := h
  obtain ⟨g4, h⟩ := h
  refine aw_getR 9 dX4_speakerOf_6 fl_RX4_10 rfl g3 g4 rfl ?_
  refine aw_iload_n 10 dX4_speakerOf_9 rfl 1 rfl rfl ?_
  obtain ⟨g7, h⟩ := h
  refine aw_callV (M' := M_X3_speakerAt) 13 172 3 (hR X1 l0 0) [.int _] [] dX4_speakerOf_10 lk_RX4_172 mv_X3_speakerAt mp_X3_speakerAt rfl ⟨leb rfl, leb rfl⟩ rfl (ltb rfl) g7 rfl (leb rfl) (leb rfl) (leb rfl) rfl (am_X3_speakerAt hG h) (kkI fun v6 X5 h => ?_) (kxN KrI.no)
  refine aw_widen (cc' := 1) (ss' := 6) (leb rfl) (leb rfl) ?_
  exact aw_ireturn (ty := .int) dX4_speakerOf_13 rfl rfl (leb rfl) (leb rfl) (Or.inl ⟨_, rfl, h⟩))
set_option maxRecDepth 20000 in
theorem am_X4_lipsOf {G : GG} (hG : G.1.stackTraces = false) {l0 : Nat} {l1 : Int32} {X : XH} {K : Int32 → XH → Prop} {KX : String → XH → Prop} (h : w_X4_lipsOf l0 l1 X K KX) : AM G M_X4_lipsOf X [.ref l0, .int l1] (KxT (KrI K) KX) := AM_of (by decide +kernel) rfl (leb rfl) hG (by
  show AW G M_X4_lipsOf 0 [(0, .ref l0), (1, .int l1)] [] X 0 0 _
  unfold w_X4_lipsOf at h
  refine aw_aload_n 1 dX4_lipsOf_0 rfl 0 rfl rfl ?_
  refine aw_iload_n 2 dX4_lipsOf_1 rfl 1 rfl rfl ?_
  obtain ⟨g2, h⟩ := h
  refine aw_callV (M' := M_X4_checkClause) 5 75 4 l0 [.int _] [] dX4_lipsOf_2 lk_RX4_75 mv_X4_checkClause mp_X4_checkClause rfl ⟨leb rfl, leb rfl⟩ rfl (ltb rfl) g2 rfl (leb rfl) (leb rfl) (leb rfl) rfl (am_X4_checkClause hG h) (kkT (kkV fun X1 h => ?_)) (kxT KrV.no fun E X h => at_out rfl (leb rfl) (leb rfl) (Or.inr ⟨_, rfl, h⟩))
  refine aw_widen (cc' := 1) (ss' := 6) (leb rfl) (leb rfl) ?_
  refine aw_aload_n 6 dX4_lipsOf_5 rfl 0 rfl rfl ?_
  obtain ⟨g3, h⟩ := h
  obtain ⟨g4, h⟩ := h
  refine aw_getR 9 dX4_lipsOf_6 fl_RX4_10 rfl g3 g4 rfl ?_
  refine aw_iload_n 10 dX4_lipsOf_9 rfl 1 rfl rfl ?_
  obtain ⟨g7, h⟩ := h
  refine aw_callV (M' := M_X3_lipsAt) 13 88 3 (hR X1 l0 0) [.int _] [] dX4_lipsOf_10 lk_RX4_88 mv_X3_lipsAt mp_X3_lipsAt rfl ⟨leb rfl, leb rfl⟩ rfl (ltb rfl) g7 rfl (leb rfl) (leb rfl) (leb rfl) rfl (am_X3_lipsAt hG h) (kkI fun v6 X5 h => ?_) (kxN KrI.no)
  refine aw_widen (cc' := 1) (ss' := 6) (leb rfl) (leb rfl) ?_
  exact aw_ireturn (ty := .int) dX4_lipsOf_13 rfl rfl (leb rfl) (leb rfl) (Or.inl ⟨_, rfl, h⟩))
set_option maxRecDepth 20000 in
theorem am_X4_sighOf {G : GG} (hG : G.1.stackTraces = false) {l0 : Nat} {l1 : Int32} {X : XH} {K : Int32 → XH → Prop} {KX : String → XH → Prop} (h : w_X4_sighOf l0 l1 X K KX) : AM G M_X4_sighOf X [.ref l0, .int l1] (KxT (KrI K) KX) := AM_of (by decide +kernel) rfl (leb rfl) hG (by
  show AW G M_X4_sighOf 0 [(0, .ref l0), (1, .int l1)] [] X 0 0 _
  unfold w_X4_sighOf at h
  refine aw_aload_n 1 dX4_sighOf_0 rfl 0 rfl rfl ?_
  refine aw_iload_n 2 dX4_sighOf_1 rfl 1 rfl rfl ?_
  obtain ⟨g2, h⟩ := h
  refine aw_callV (M' := M_X4_checkClause) 5 75 4 l0 [.int _] [] dX4_sighOf_2 lk_RX4_75 mv_X4_checkClause mp_X4_checkClause rfl ⟨leb rfl, leb rfl⟩ rfl (ltb rfl) g2 rfl (leb rfl) (leb rfl) (leb rfl) rfl (am_X4_checkClause hG h) (kkT (kkV fun X1 h => ?_)) (kxT KrV.no fun E X h => at_out rfl (leb rfl) (leb rfl) (Or.inr ⟨_, rfl, h⟩))
  refine aw_widen (cc' := 1) (ss' := 6) (leb rfl) (leb rfl) ?_
  refine aw_aload_n 6 dX4_sighOf_5 rfl 0 rfl rfl ?_
  obtain ⟨g3, h⟩ := h
  obtain ⟨g4, h⟩ := h
  refine aw_getR 9 dX4_sighOf_6 fl_RX4_10 rfl g3 g4 rfl ?_
  refine aw_iload_n 10 dX4_sighOf_9 rfl 1 rfl rfl ?_
  obtain ⟨g7, h⟩ := h
  refine aw_callV (M' := M_X3_sighAt) 13 82 3 (hR X1 l0 0) [.int _] [] dX4_sighOf_10 lk_RX4_82 mv_X3_sighAt mp_X3_sighAt rfl ⟨leb rfl, leb rfl⟩ rfl (ltb rfl) g7 rfl (leb rfl) (leb rfl) (leb rfl) rfl (am_X3_sighAt hG h) (kkI fun v6 X5 h => ?_) (kxN KrI.no)
  refine aw_widen (cc' := 1) (ss' := 6) (leb rfl) (leb rfl) ?_
  exact aw_ireturn (ty := .int) dX4_sighOf_13 rfl rfl (leb rfl) (leb rfl) (Or.inl ⟨_, rfl, h⟩))
set_option maxRecDepth 20000 in
theorem am_L_clauseOf {G : GG} (hG : G.1.stackTraces = false) {l0 : Nat} {l1 : Int32} {X : XH} {K : Int32 → XH → Prop} (h : w_L_clauseOf l0 l1 X K) : AM G M_L_clauseOf X [.ref l0, .int l1] (KrI K) := AM_ofH (by decide +kernel) (0, 32, 33, 15) [] rfl (leb rfl) hG (by
  show AW G M_L_clauseOf 0 [(0, .ref l0), (1, .int l1)] [] X 0 0 _
  unfold w_L_clauseOf at h
  refine aw_aload_n 1 dL_clauseOf_0 rfl 0 rfl rfl ?_
  refine aw_iload_n 2 dL_clauseOf_1 rfl 1 rfl rfl ?_
  obtain ⟨g3, h⟩ := h
  refine aw_callV (M' := M_X4_reelOf) 5 59 4 l0 [.int _] [] dL_clauseOf_2 lk_RL_59 mv_X4_reelOf mp_X4_reelOf rfl ⟨leb rfl, leb rfl⟩ rfl (ltb rfl) g3 rfl (leb rfl) (leb rfl) (leb rfl) rfl (am_X4_reelOf hG h) (kkT (kkI fun v2 X1 h => ?_)) (kxT KrI.no fun E X1 h => ?_)
  · refine aw_widen (cc' := 1) (ss' := 6) (leb rfl) (leb rfl) ?_
    refine aw_iconst 6 (v := 4) dL_clauseOf_5 kI_4 rfl ?_
    refine aw_aload_n 7 dL_clauseOf_6 rfl 0 rfl rfl ?_
    refine aw_iload_n 8 dL_clauseOf_7 rfl 1 rfl rfl ?_
    obtain ⟨g6, h⟩ := h
    refine aw_callV (M' := M_X4_speakerOf) 11 63 4 l0 [.int _] [.int _, .int _] dL_clauseOf_8 lk_RL_63 mv_X4_speakerOf mp_X4_speakerOf rfl ⟨leb rfl, leb rfl⟩ rfl (ltb rfl) g6 rfl (leb rfl) (leb rfl) (leb rfl) rfl (am_X4_speakerOf hG h) (kkT (kkI fun v5 X4 h => ?_)) (kxT KrI.no fun E X4 h => ?_)
    · refine aw_widen (cc' := 2) (ss' := 12) (leb rfl) (leb rfl) ?_
      refine aw_imul 12 dL_clauseOf_11 rfl ?_
      refine aw_iadd 13 dL_clauseOf_12 rfl ?_
      refine aw_bipush 15 (v := 32) dL_clauseOf_13 kB_32 rfl ?_
      refine aw_aload_n 16 dL_clauseOf_15 rfl 0 rfl rfl ?_
      refine aw_iload_n 17 dL_clauseOf_16 rfl 1 rfl rfl ?_
      obtain ⟨g9, h⟩ := h
      refine aw_callV (M' := M_X4_lipsOf) 20 66 4 l0 [.int _] [.int _, .int _] dL_clauseOf_17 lk_RL_66 mv_X4_lipsOf mp_X4_lipsOf rfl ⟨leb rfl, leb rfl⟩ rfl (ltb rfl) g9 rfl (leb rfl) (leb rfl) (leb rfl) rfl (am_X4_lipsOf hG h) (kkT (kkI fun v8 X7 h => ?_)) (kxT KrI.no fun E X7 h => ?_)
      · refine aw_widen (cc' := 3) (ss' := 18) (leb rfl) (leb rfl) ?_
        refine aw_imul 21 dL_clauseOf_20 rfl ?_
        refine aw_iadd 22 dL_clauseOf_21 rfl ?_
        refine aw_sipush 25 (v := 2048) dL_clauseOf_22 kS_2048 rfl ?_
        refine aw_aload_n 26 dL_clauseOf_25 rfl 0 rfl rfl ?_
        refine aw_iload_n 27 dL_clauseOf_26 rfl 1 rfl rfl ?_
        obtain ⟨g12, h⟩ := h
        refine aw_callV (M' := M_X4_sighOf) 30 69 4 l0 [.int _] [.int _, .int _] dL_clauseOf_27 lk_RL_69 mv_X4_sighOf mp_X4_sighOf rfl ⟨leb rfl, leb rfl⟩ rfl (ltb rfl) g12 rfl (leb rfl) (leb rfl) (leb rfl) rfl (am_X4_sighOf hG h) (kkT (kkI fun v11 X10 h => ?_)) (kxT KrI.no fun E X10 h => ?_)
        · refine aw_widen (cc' := 4) (ss' := 24) (leb rfl) (leb rfl) ?_
          refine aw_imul 31 dL_clauseOf_30 rfl ?_
          refine aw_iadd 32 dL_clauseOf_31 rfl ?_
          exact aw_ireturn (ty := .int) dL_clauseOf_32 rfl rfl (leb rfl) (leb rfl) ⟨_, rfl, h⟩
        · obtain ⟨hE, h⟩ := h
          rcases hE with rfl
          refine aw_atc (lv' := [(0, .ref _), (1, .int _)]) [] (0, 32, 33, 15) [] rfl (fun z hz => nomatch hz) (by decide) (by decide) (tk3 (i := 40) (by decide +kernel) rfl) (by decide) 2 1 34 (Or.inl ⟨2, rfl, dL_clauseOf_33, rfl⟩) (ltb rfl) rfl ?_
          refine aw_widen (cc' := 4) (ss' := 24) (leb rfl) (leb rfl) ?_
          replace h := h rfl
          refine aw_bipush 36 (v := -2) dL_clauseOf_34 kB_m2 rfl ?_
          exact aw_ireturn (ty := .int) dL_clauseOf_36 rfl rfl (leb rfl) (leb rfl) ⟨_, rfl, h⟩
      · obtain ⟨hE, h⟩ := h
        rcases hE with rfl
        refine aw_atc (lv' := [(0, .ref _), (1, .int _)]) [] (0, 32, 33, 15) [] rfl (fun z hz => nomatch hz) (by decide) (by decide) (tk3 (i := 40) (by decide +kernel) rfl) (by decide) 2 1 34 (Or.inl ⟨2, rfl, dL_clauseOf_33, rfl⟩) (ltb rfl) rfl ?_
        refine aw_widen (cc' := 3) (ss' := 18) (leb rfl) (leb rfl) ?_
        replace h := h rfl
        refine aw_bipush 36 (v := -2) dL_clauseOf_34 kB_m2 rfl ?_
        exact aw_ireturn (ty := .int) dL_clauseOf_36 rfl rfl (leb rfl) (leb rfl) ⟨_, rfl, h⟩
    · obtain ⟨hE, h⟩ := h
      rcases hE with rfl
      refine aw_atc (lv' := [(0, .ref _), (1, .int _)]) [] (0, 32, 33, 15) [] rfl (fun z hz => nomatch hz) (by decide) (by decide) (tk3 (i := 40) (by decide +kernel) rfl) (by decide) 2 1 34 (Or.inl ⟨2, rfl, dL_clauseOf_33, rfl⟩) (ltb rfl) rfl ?_
      refine aw_widen (cc' := 2) (ss' := 12) (leb rfl) (leb rfl) ?_
      replace h := h rfl
      refine aw_bipush 36 (v := -2) dL_clauseOf_34 kB_m2 rfl ?_
      exact aw_ireturn (ty := .int) dL_clauseOf_36 rfl rfl (leb rfl) (leb rfl) ⟨_, rfl, h⟩
  · obtain ⟨hE, h⟩ := h
    rcases hE with rfl
    refine aw_atc (lv' := [(0, .ref _), (1, .int _)]) [] (0, 32, 33, 15) [] rfl (fun z hz => nomatch hz) (by decide) (by decide) (tk3 (i := 40) (by decide +kernel) rfl) (by decide) 2 1 34 (Or.inl ⟨2, rfl, dL_clauseOf_33, rfl⟩) (ltb rfl) rfl ?_
    refine aw_widen (cc' := 1) (ss' := 6) (leb rfl) (leb rfl) ?_
    replace h := h rfl
    refine aw_bipush 36 (v := -2) dL_clauseOf_34 kB_m2 rfl ?_
    exact aw_ireturn (ty := .int) dL_clauseOf_36 rfl rfl (leb rfl) (leb rfl) ⟨_, rfl, h⟩)
set_option maxRecDepth 20000 in
theorem am_X4_fits {G : GG} (hG : G.1.stackTraces = false) {l0 : Nat} {l1 : Int32} {l2 : Int32} {X : XH} {K : Int32 → XH → Prop} {KX : String → XH → Prop} (h : w_X4_fits l0 l1 l2 X K KX) : AM G M_X4_fits X [.ref l0, .int l1, .int l2] (KxT (KrI K) KX) := AM_of (by decide +kernel) rfl (leb rfl) hG (by
  show AW G M_X4_fits 0 [(0, .ref l0), (1, .int l1), (2, .int l2)] [] X 0 0 _
  unfold w_X4_fits at h
  refine aw_aload_n 1 dX4_fits_0 rfl 0 rfl rfl ?_
  refine aw_iload_n 2 dX4_fits_1 rfl 1 rfl rfl ?_
  refine aw_iload_n 3 dX4_fits_2 rfl 2 rfl rfl ?_
  obtain ⟨g2, h⟩ := h
  refine aw_callV (M' := M_X4_checkTranslation) 6 115 4 l0 [.int _, .int _] [] dX4_fits_3 lk_RX4_115 mv_X4_checkTranslation mp_X4_checkTranslation rfl ⟨leb rfl, leb rfl⟩ rfl (ltb rfl) g2 rfl (leb rfl) (leb rfl) (leb rfl) rfl (am_X4_checkTranslation hG h) (kkT (kkV fun X1 h => ?_)) (kxT KrV.no fun E X h => at_out rfl (leb rfl) (leb rfl) (Or.inr ⟨_, rfl, h⟩))
  refine aw_widen (cc' := 2) (ss' := 12) (leb rfl) (leb rfl) ?_
  refine aw_aload_n 7 dX4_fits_6 rfl 0 rfl rfl ?_
  obtain ⟨g3, h⟩ := h
  obtain ⟨g4, h⟩ := h
  refine aw_getR 10 dX4_fits_7 fl_RX4_10 rfl g3 g4 rfl ?_
  refine aw_iload_n 11 dX4_fits_10 rfl 1 rfl rfl ?_
  refine aw_iload_n 12 dX4_fits_11 rfl 2 rfl rfl ?_
  obtain ⟨g7, h⟩ := h
  refine aw_callV (M' := M_X3_hasFit) 15 289 3 (hR X1 l0 0) [.int _, .int _] [] dX4_fits_12 lk_RX4_289 mv_X3_hasFit mp_X3_hasFit rfl ⟨leb rfl, leb rfl⟩ rfl (ltb rfl) g7 rfl (leb rfl) (leb rfl) (leb rfl) rfl (am_X3_hasFit hG h) (kkI fun v6 X5 h => ?_) (kxN KrI.no)
  refine aw_widen (cc' := 2) (ss' := 12) (leb rfl) (leb rfl) ?_
  obtain ⟨g8, h⟩ := h
  exact aw_ireturn (ty := .boolean) dX4_fits_15 rfl (narZ g8) (leb rfl) (leb rfl) (Or.inl ⟨_, rfl, h⟩))
set_option maxRecDepth 20000 in
theorem am_L_fits {G : GG} (hG : G.1.stackTraces = false) {l0 : Nat} {l1 : Int32} {l2 : Int32} {X : XH} {K : Int32 → XH → Prop} (h : w_L_fits l0 l1 l2 X K) : AM G M_L_fits X [.ref l0, .int l1, .int l2] (KrI K) := AM_ofH (by decide +kernel) (0, 14, 15, 15) [] rfl (leb rfl) hG (by
  show AW G M_L_fits 0 [(0, .ref l0), (1, .int l1), (2, .int l2)] [] X 0 0 _
  unfold w_L_fits at h
  refine aw_aload_n 1 dL_fits_0 rfl 0 rfl rfl ?_
  refine aw_iload_n 2 dL_fits_1 rfl 1 rfl rfl ?_
  refine aw_iload_n 3 dL_fits_2 rfl 2 rfl rfl ?_
  obtain ⟨g3, h⟩ := h
  refine aw_callV (M' := M_X4_fits) 6 91 4 l0 [.int _, .int _] [] dL_fits_3 lk_RL_91 mv_X4_fits mp_X4_fits rfl ⟨leb rfl, leb rfl⟩ rfl (ltb rfl) g3 rfl (leb rfl) (leb rfl) (leb rfl) rfl (am_X4_fits hG h) (kkT (kkI fun v2 X1 h => ?_)) (kxT KrI.no fun E X1 h => ?_)
  · refine aw_widen (cc' := 2) (ss' := 12) (leb rfl) (leb rfl) ?_
    refine aw_if_eq 13 9 dL_fits_6 rfl rfl (fun c4 => ?_) (fun c4 => ?_)
    · replace h := h.1 c4
      refine aw_iconst 14 (v := 0) dL_fits_13 kI_0 rfl ?_
      exact aw_ireturn (ty := .int) dL_fits_14 rfl rfl (leb rfl) (leb rfl) ⟨_, rfl, h⟩
    · replace h := h.2 c4
      refine aw_iconst 10 (v := 1) dL_fits_9 kI_1 rfl ?_
      refine aw_goto 14 dL_fits_10 rfl ?_
      exact aw_ireturn (ty := .int) dL_fits_14 rfl rfl (leb rfl) (leb rfl) ⟨_, rfl, h⟩
  · obtain ⟨hE, h⟩ := h
    rcases hE with rfl
    refine aw_atc (lv' := [(0, .ref _), (1, .int _), (2, .int _)]) [] (0, 14, 15, 15) [] rfl (fun z hz => nomatch hz) (by decide) (by decide) (tk3 (i := 40) (by decide +kernel) rfl) (by decide) 3 1 16 (Or.inl ⟨3, rfl, dL_fits_15, rfl⟩) (ltb rfl) rfl ?_
    refine aw_widen (cc' := 2) (ss' := 12) (leb rfl) (leb rfl) ?_
    replace h := h rfl
    refine aw_bipush 18 (v := -2) dL_fits_16 kB_m2 rfl ?_
    exact aw_ireturn (ty := .int) dL_fits_18 rfl rfl (leb rfl) (leb rfl) ⟨_, rfl, h⟩)
set_option maxRecDepth 20000 in
theorem am_X4_checkTranslated {G : GG} (hG : G.1.stackTraces = false) {l0 : Nat} {l1 : Int32} {l2 : Int32} {X : XH} {K : XH → Prop} {KX : String → XH → Prop} (h : w_X4_checkTranslated l0 l1 l2 X K KX) : AM G M_X4_checkTranslated X [.ref l0, .int l1, .int l2] (KxT (KrV K) KX) := AM_of (by decide +kernel) rfl (leb rfl) hG (by
  show AW G M_X4_checkTranslated 0 [(0, .ref l0), (1, .int l1), (2, .int l2)] [] X 0 0 _
  unfold w_X4_checkTranslated at h
  refine aw_aload_n 1 dX4_checkTranslated_0 rfl 0 rfl rfl ?_
  obtain ⟨g1, h⟩ := h
  obtain ⟨g2, h⟩ := h
  refine aw_getR 4 dX4_checkTranslated_1 fl_RX4_10 rfl g1 g2 rfl ?_
  refine aw_iload_n 5 dX4_checkTranslated_4 rfl 1 rfl rfl ?_
  refine aw_iload_n 6 dX4_checkTranslated_5 rfl 2 rfl rfl ?_
  obtain ⟨g5, h⟩ := h
  refine aw_callV (M' := M_X3_hasTranslation) 9 283 3 (hR X l0 0) [.int _, .int _] [] dX4_checkTranslated_6 lk_RX4_283 mv_X3_hasTranslation mp_X3_hasTranslation rfl ⟨leb rfl, leb rfl⟩ rfl (ltb rfl) g5 rfl (leb rfl) (leb rfl) (leb rfl) rfl (am_X3_hasTranslation hG h) (kkI fun v4 X3 h => ?_) (kxN KrI.no)
  refine aw_widen (cc' := 0) (ss' := 0) (leb rfl) (leb rfl) ?_
  refine aw_if_ne 23 12 dX4_checkTranslated_9 rfl rfl (fun c6 => ?_) (fun c6 => ?_)
  · replace h := h.1 c6
    exact aw_return dX4_checkTranslated_23 rfl (leb rfl) (leb rfl) (Or.inl ⟨rfl, h⟩)
  · replace h := h.2 c6
    exact aw_throw xcS 60 434 64 rfl th_xcS (by decide) (Or.inr ⟨dX4_checkTranslated_12, dX4_checkTranslated_15, dX4_checkTranslated_16, dX4_checkTranslated_19, dX4_checkTranslated_22⟩) rfl (ltb rfl) (leb rfl) (leb rfl) (leb rfl) (Or.inr ⟨_, rfl, h⟩))
set_option maxRecDepth 20000 in
theorem am_X4_framesOf {G : GG} (hG : G.1.stackTraces = false) {l0 : Nat} {l1 : Int32} {l2 : Int32} {X : XH} {K : Int32 → XH → Prop} {KX : String → XH → Prop} (h : w_X4_framesOf l0 l1 l2 X K KX) : AM G M_X4_framesOf X [.ref l0, .int l1, .int l2] (KxT (KrI K) KX) := AM_of (by decide +kernel) rfl (leb rfl) hG (by
  show AW G M_X4_framesOf 0 [(0, .ref l0), (1, .int l1), (2, .int l2)] [] X 0 0 _
  unfold w_X4_framesOf at h
  refine aw_aload_n 1 dX4_framesOf_0 rfl 0 rfl rfl ?_
  refine aw_iload_n 2 dX4_framesOf_1 rfl 1 rfl rfl ?_
  refine aw_iload_n 3 dX4_framesOf_2 rfl 2 rfl rfl ?_
  obtain ⟨g2, h⟩ := h
  refine aw_callV (M' := M_X4_checkTranslation) 6 115 4 l0 [.int _, .int _] [] dX4_framesOf_3 lk_RX4_115 mv_X4_checkTranslation mp_X4_checkTranslation rfl ⟨leb rfl, leb rfl⟩ rfl (ltb rfl) g2 rfl (leb rfl) (leb rfl) (leb rfl) rfl (am_X4_checkTranslation hG h) (kkT (kkV fun X1 h => ?_)) (kxT KrV.no fun E X h => at_out rfl (leb rfl) (leb rfl) (Or.inr ⟨_, rfl, h⟩))
  refine aw_widen (cc' := 2) (ss' := 12) (leb rfl) (leb rfl) ?_
  refine aw_aload_n 7 dX4_framesOf_6 rfl 0 rfl rfl ?_
  refine aw_iload_n 8 dX4_framesOf_7 rfl 1 rfl rfl ?_
  refine aw_iload_n 9 dX4_framesOf_8 rfl 2 rfl rfl ?_
  obtain ⟨g4, h⟩ := h
  refine aw_callV (M' := M_X4_checkTranslated) 12 286 4 l0 [.int _, .int _] [] dX4_framesOf_9 lk_RX4_286 mv_X4_checkTranslated mp_X4_checkTranslated rfl ⟨leb rfl, leb rfl⟩ rfl (ltb rfl) g4 rfl (leb rfl) (leb rfl) (leb rfl) rfl (am_X4_checkTranslated hG h) (kkT (kkV fun X3 h => ?_)) (kxT KrV.no fun E X h => at_out rfl (leb rfl) (leb rfl) (Or.inr ⟨_, rfl, h⟩))
  refine aw_widen (cc' := 3) (ss' := 18) (leb rfl) (leb rfl) ?_
  refine aw_aload_n 13 dX4_framesOf_12 rfl 0 rfl rfl ?_
  obtain ⟨g5, h⟩ := h
  obtain ⟨g6, h⟩ := h
  refine aw_getR 16 dX4_framesOf_13 fl_RX4_10 rfl g5 g6 rfl ?_
  refine aw_iload_n 17 dX4_framesOf_16 rfl 1 rfl rfl ?_
  refine aw_iload_n 18 dX4_framesOf_17 rfl 2 rfl rfl ?_
  obtain ⟨g9, h⟩ := h
  refine aw_callV (M' := M_X3_framesAt) 21 139 3 (hR X3 l0 0) [.int _, .int _] [] dX4_framesOf_18 lk_RX4_139 mv_X3_framesAt mp_X3_framesAt rfl ⟨leb rfl, leb rfl⟩ rfl (ltb rfl) g9 rfl (leb rfl) (leb rfl) (leb rfl) rfl (am_X3_framesAt hG h) (kkI fun v8 X7 h => ?_) (kxN KrI.no)
  refine aw_widen (cc' := 3) (ss' := 18) (leb rfl) (leb rfl) ?_
  exact aw_ireturn (ty := .int) dX4_framesOf_21 rfl rfl (leb rfl) (leb rfl) (Or.inl ⟨_, rfl, h⟩))
set_option maxRecDepth 20000 in
theorem am_L_framesOf {G : GG} (hG : G.1.stackTraces = false) {l0 : Nat} {l1 : Int32} {l2 : Int32} {X : XH} {K : Int32 → XH → Prop} (h : w_L_framesOf l0 l1 l2 X K) : AM G M_L_framesOf X [.ref l0, .int l1, .int l2] (KrI K) := AM_ofH (by decide +kernel) (0, 6, 7, 15) [(0, 6, 11, 19)] rfl (leb rfl) hG (by
  show AW G M_L_framesOf 0 [(0, .ref l0), (1, .int l1), (2, .int l2)] [] X 0 0 _
  unfold w_L_framesOf at h
  refine aw_aload_n 1 dL_framesOf_0 rfl 0 rfl rfl ?_
  refine aw_iload_n 2 dL_framesOf_1 rfl 1 rfl rfl ?_
  refine aw_iload_n 3 dL_framesOf_2 rfl 2 rfl rfl ?_
  obtain ⟨g3, h⟩ := h
  refine aw_callV (M' := M_X4_framesOf) 6 76 4 l0 [.int _, .int _] [] dL_framesOf_3 lk_RL_76 mv_X4_framesOf mp_X4_framesOf rfl ⟨leb rfl, leb rfl⟩ rfl (ltb rfl) g3 rfl (leb rfl) (leb rfl) (leb rfl) rfl (am_X4_framesOf hG h) (kkT (kkI fun v2 X1 h => ?_)) (kxT KrI.no fun E X1 h => ?_)
  · refine aw_widen (cc' := 3) (ss' := 18) (leb rfl) (leb rfl) ?_
    exact aw_ireturn (ty := .int) dL_framesOf_6 rfl rfl (leb rfl) (leb rfl) ⟨_, rfl, h⟩
  · obtain ⟨hE, h⟩ := h
    rcases hE with rfl | rfl
    · refine aw_atc (lv' := [(0, .ref _), (1, .int _), (2, .int _)]) [] (0, 6, 7, 15) [(0, 6, 11, 19)] rfl (fun z hz => nomatch hz) (by decide) (by decide) (tk3 (i := 40) (by decide +kernel) rfl) (by decide) 3 1 8 (Or.inl ⟨3, rfl, dL_framesOf_7, rfl⟩) (ltb rfl) rfl ?_
      refine aw_widen (cc' := 3) (ss' := 18) (leb rfl) (leb rfl) ?_
      replace h := h.1 rfl
      refine aw_bipush 10 (v := -2) dL_framesOf_8 kB_m2 rfl ?_
      exact aw_ireturn (ty := .int) dL_framesOf_10 rfl rfl (leb rfl) (leb rfl) ⟨_, rfl, h⟩
    · refine aw_atc (lv' := [(0, .ref _), (1, .int _), (2, .int _)]) [(0, 6, 7, 15)] (0, 6, 11, 19) [] rfl (by intro z hz; simp only [List.mem_cons, List.not_mem_nil, or_false] at hz; rcases hz with rfl <;> first | exact ⟨by decide, xcI, tk3 (i := 40) (by decide +kernel) rfl, by decide⟩) (by decide) (by decide) (tk3 (i := 42) (by decide +kernel) rfl) (by decide) 3 1 12 (Or.inl ⟨3, rfl, dL_framesOf_11, rfl⟩) (ltb rfl) rfl ?_
      refine aw_widen (cc' := 3) (ss' := 18) (leb rfl) (leb rfl) ?_
      replace h := h.2 rfl
      refine aw_bipush 14 (v := -4) dL_framesOf_12 kB_m4 rfl ?_
      exact aw_ireturn (ty := .int) dL_framesOf_14 rfl rfl (leb rfl) (leb rfl) ⟨_, rfl, h⟩)
set_option maxRecDepth 20000 in
theorem aw_X3_takenFramesOf_5 {G : GG} (hG : G.1.stackTraces = false)  {l0 : Nat} {l1 : Int32} {l2 : Int32} {l3 : Int32} {l4 : Int32} {X : XH} {K : Int32 → XH → Prop}  (h : w_X3_takenFramesOf_5  l0 l1 l2 l3 l4 X K) : AW G M_X3_takenFramesOf 5 [(0, .ref l0), (1, .int l1), (2, .int l2), (3, .int l3), (4, .int l4)] [] X 0 0 (KrI K) :=
  h (fun l0 l1 l2 l3 l4 X => AW G M_X3_takenFramesOf 5 [(0, .ref l0), (1, .int l1), (2, .int l2), (3, .int l3), (4, .int l4)] [] X 0 0 (KrI K)) (fun l0 l1 l2 l3 l4 X h => by
    refine aw_iload 7 dX3_takenFramesOf_5 4 rfl rfl ?_
    refine aw_aload_n 8 dX3_takenFramesOf_7 rfl 0 rfl rfl ?_
    obtain ⟨g1, h⟩ := h
    refine aw_getI 11 dX3_takenFramesOf_8 fl_RX3_45 rfl g1 rfl ?_
    refine aw_icmp_ge 50 14 dX3_takenFramesOf_11 rfl rfl (fun c2 => ?_) (fun c2 => ?_)
    · replace h := h.1 c2
      refine aw_iload_n 51 dX3_takenFramesOf_50 rfl 3 rfl rfl ?_
      exact aw_ireturn (ty := .int) dX3_takenFramesOf_51 rfl rfl (leb rfl) (leb rfl) ⟨_, rfl, h⟩
    · replace h := h.2 c2
      refine aw_aload_n 15 dX3_takenFramesOf_14 rfl 0 rfl rfl ?_
      refine aw_iload 17 dX3_takenFramesOf_15 4 rfl rfl ?_
      refine aw_callV (M' := M_X3_speakerAt) 20 77 3 l0 [.int _] [] dX3_takenFramesOf_17 lk_RX3_77 mv_X3_speakerAt mp_X3_speakerAt rfl ⟨leb rfl, leb rfl⟩ rfl (ltb rfl) g1 rfl (leb rfl) (leb rfl) (leb rfl) rfl (am_X3_speakerAt hG h) (kkI fun v4 X3 h => ?_) (kxN KrI.no)
      refine aw_widen (cc' := 0) (ss' := 0) (leb rfl) (leb rfl) ?_
      refine aw_iload_n 21 dX3_takenFramesOf_20 rfl 1 rfl rfl ?_
      refine aw_icmp_ne 44 24 dX3_takenFramesOf_21 rfl rfl (fun c5 => ?_) (fun c5 => ?_)
      · replace h := h.1 c5
        refine aw_iinc 47 (v := 1) (lv' := [(4, _), (0, _), (1, _), (2, _), (3, _)]) dX3_takenFramesOf_44 4 rfl kI_1 (ltb rfl) rfl rfl ?_
        refine aw_goto 5 dX3_takenFramesOf_47 rfl ?_
        exact aw_pick [1, 2, 3, 4, 0] rfl h
      · replace h := h.2 c5
        refine aw_aload_n 25 dX3_takenFramesOf_24 rfl 0 rfl rfl ?_
        refine aw_iload 27 dX3_takenFramesOf_25 4 rfl rfl ?_
        refine aw_iload_n 28 dX3_takenFramesOf_27 rfl 2 rfl rfl ?_
        obtain ⟨g8, h⟩ := h
        refine aw_callV (M' := M_X3_isTaken) 31 98 3 l0 [.int _, .int _] [] dX3_takenFramesOf_28 lk_RX3_98 mv_X3_isTaken mp_X3_isTaken rfl ⟨leb rfl, leb rfl⟩ rfl (ltb rfl) g8 rfl (leb rfl) (leb rfl) (leb rfl) rfl (am_X3_isTaken hG h) (kkI fun v7 X6 h => ?_) (kxN KrI.no)
        refine aw_widen (cc' := 0) (ss' := 0) (leb rfl) (leb rfl) ?_
        refine aw_if_eq 44 34 dX3_takenFramesOf_31 rfl rfl (fun c9 => ?_) (fun c9 => ?_)
        · replace h := h.1 c9
          refine aw_iinc 47 (v := 1) (lv' := [(4, _), (0, _), (1, _), (2, _), (3, _)]) dX3_takenFramesOf_44 4 rfl kI_1 (ltb rfl) rfl rfl ?_
          refine aw_goto 5 dX3_takenFramesOf_47 rfl ?_
          exact aw_pick [1, 2, 3, 4, 0] rfl h
        · replace h := h.2 c9
          refine aw_iload_n 35 dX3_takenFramesOf_34 rfl 3 rfl rfl ?_
          refine aw_aload_n 36 dX3_takenFramesOf_35 rfl 0 rfl rfl ?_
          refine aw_iload 38 dX3_takenFramesOf_36 4 rfl rfl ?_
          refine aw_iload_n 39 dX3_takenFramesOf_38 rfl 2 rfl rfl ?_
          obtain ⟨g12, h⟩ := h
          refine aw_callV (M' := M_X3_spokenAt) 42 85 3 l0 [.int _, .int _] [.int _] dX3_takenFramesOf_39 lk_RX3_85 mv_X3_spokenAt mp_X3_spokenAt rfl ⟨leb rfl, leb rfl⟩ rfl (ltb rfl) g12 rfl (leb rfl) (leb rfl) (leb rfl) rfl (am_X3_spokenAt hG h) (kkI fun v11 X10 h => ?_) (kxN KrI.no)
          refine aw_widen (cc' := 0) (ss' := 0) (leb rfl) (leb rfl) ?_
          refine aw_iadd 43 dX3_takenFramesOf_42 rfl ?_
          refine aw_istore_n 44 (lv' := [(3, _), (0, _), (1, _), (2, _), (4, _)]) dX3_takenFramesOf_43 rfl (ltb rfl) rfl rfl ?_
          refine aw_iinc 47 (v := 1) (lv' := [(4, _), (3, _), (0, _), (1, _), (2, _)]) dX3_takenFramesOf_44 4 rfl kI_1 (ltb rfl) rfl rfl ?_
          refine aw_goto 5 dX3_takenFramesOf_47 rfl ?_
          exact aw_pick [2, 3, 4, 1, 0] rfl h)
set_option maxRecDepth 20000 in
theorem am_X3_takenFramesOf {G : GG} (hG : G.1.stackTraces = false) {l0 : Nat} {l1 : Int32} {l2 : Int32} {X : XH} {K : Int32 → XH → Prop} (h : w_X3_takenFramesOf l0 l1 l2 X K) : AM G M_X3_takenFramesOf X [.ref l0, .int l1, .int l2] (KrI K) := AM_of (by decide +kernel) rfl (leb rfl) hG (by
  show AW G M_X3_takenFramesOf 0 [(0, .ref l0), (1, .int l1), (2, .int l2)] [] X 0 0 _
  unfold w_X3_takenFramesOf at h
  refine aw_iconst 1 (v := 0) dX3_takenFramesOf_0 kI_0 rfl ?_
  refine aw_istore_n 2 (lv' := [(3, _), (0, _), (1, _), (2, _)]) dX3_takenFramesOf_1 rfl (ltb rfl) rfl rfl ?_
  refine aw_iconst 3 (v := 0) dX3_takenFramesOf_2 kI_0 rfl ?_
  refine aw_istore 5 (lv' := [(4, _), (3, _), (0, _), (1, _), (2, _)]) dX3_takenFramesOf_3 (ltb rfl) rfl rfl ?_
  exact aw_pick [2, 3, 4, 1, 0] rfl (aw_X3_takenFramesOf_5 hG  h))
set_option maxRecDepth 20000 in
theorem am_X4_framesOfVoice {G : GG} (hG : G.1.stackTraces = false) {l0 : Nat} {l1 : Int32} {l2 : Int32} {X : XH} {K : Int32 → XH → Prop} {KX : String → XH → Prop} (h : w_X4_framesOfVoice l0 l1 l2 X K KX) : AM G M_X4_framesOfVoice X [.ref l0, .int l1, .int l2] (KxT (KrI K) KX) := AM_of (by decide +kernel) rfl (leb rfl) hG (by
  show AW G M_X4_framesOfVoice 0 [(0, .ref l0), (1, .int l1), (2, .int l2)] [] X 0 0 _
  unfold w_X4_framesOfVoice at h
  refine aw_iload_n 1 dX4_framesOfVoice_0 rfl 1 rfl rfl ?_
  refine aw_iload_n 2 dX4_framesOfVoice_1 rfl 2 rfl rfl ?_
  refine aw_callS (M' := M_X4_checkVoice) 5 150 [.int _, .int _] [] dX4_framesOfVoice_2 lk_RX4_150 ms_X4_checkVoice mp_X4_checkVoice rfl ⟨leb rfl, leb rfl⟩ rfl (leb rfl) (leb rfl) (leb rfl) rfl (am_X4_checkVoice hG h) (kkT (kkV fun X1 h => ?_)) (kxT KrV.no fun E X h => at_out rfl (leb rfl) (leb rfl) (Or.inr ⟨_, rfl, h⟩))
  refine aw_widen (cc' := 2) (ss' := 12) (leb rfl) (leb rfl) ?_
  refine aw_aload_n 6 dX4_framesOfVoice_5 rfl 0 rfl rfl ?_
  obtain ⟨g2, h⟩ := h
  obtain ⟨g3, h⟩ := h
  refine aw_getR 9 dX4_framesOfVoice_6 fl_RX4_10 rfl g2 g3 rfl ?_
  refine aw_iload_n 10 dX4_framesOfVoice_9 rfl 1 rfl rfl ?_
  refine aw_iload_n 11 dX4_framesOfVoice_10 rfl 2 rfl rfl ?_
  obtain ⟨g6, h⟩ := h
  refine aw_callV (M' := M_X3_takenFramesOf) 14 295 3 (hR X1 l0 0) [.int _, .int _] [] dX4_framesOfVoice_11 lk_RX4_295 mv_X3_takenFramesOf mp_X3_takenFramesOf rfl ⟨leb rfl, leb rfl⟩ rfl (ltb rfl) g6 rfl (leb rfl) (leb rfl) (leb rfl) rfl (am_X3_takenFramesOf hG h) (kkI fun v5 X4 h => ?_) (kxN KrI.no)
  refine aw_widen (cc' := 2) (ss' := 12) (leb rfl) (leb rfl) ?_
  exact aw_ireturn (ty := .int) dX4_framesOfVoice_14 rfl rfl (leb rfl) (leb rfl) (Or.inl ⟨_, rfl, h⟩))
set_option maxRecDepth 20000 in
theorem am_L_framesOfVoice {G : GG} (hG : G.1.stackTraces = false) {l0 : Nat} {l1 : Int32} {l2 : Int32} {X : XH} {K : Int32 → XH → Prop} (h : w_L_framesOfVoice l0 l1 l2 X K) : AM G M_L_framesOfVoice X [.ref l0, .int l1, .int l2] (KrI K) := AM_ofH (by decide +kernel) (0, 6, 7, 15) [] rfl (leb rfl) hG (by
  show AW G M_L_framesOfVoice 0 [(0, .ref l0), (1, .int l1), (2, .int l2)] [] X 0 0 _
  unfold w_L_framesOfVoice at h
  refine aw_aload_n 1 dL_framesOfVoice_0 rfl 0 rfl rfl ?_
  refine aw_iload_n 2 dL_framesOfVoice_1 rfl 1 rfl rfl ?_
  refine aw_iload_n 3 dL_framesOfVoice_2 rfl 2 rfl rfl ?_
  obtain ⟨g3, h⟩ := h
  refine aw_callV (M' := M_X4_framesOfVoice) 6 106 4 l0 [.int _, .int _] [] dL_framesOfVoice_3 lk_RL_106 mv_X4_framesOfVoice mp_X4_framesOfVoice rfl ⟨leb rfl, leb rfl⟩ rfl (ltb rfl) g3 rfl (leb rfl) (leb rfl) (leb rfl) rfl (am_X4_framesOfVoice hG h) (kkT (kkI fun v2 X1 h => ?_)) (kxT KrI.no fun E X1 h => ?_)
  · refine aw_widen (cc' := 2) (ss' := 12) (leb rfl) (leb rfl) ?_
    exact aw_ireturn (ty := .int) dL_framesOfVoice_6 rfl rfl (leb rfl) (leb rfl) ⟨_, rfl, h⟩
  · obtain ⟨hE, h⟩ := h
    rcases hE with rfl
    refine aw_atc (lv' := [(0, .ref _), (1, .int _), (2, .int _)]) [] (0, 6, 7, 15) [] rfl (fun z hz => nomatch hz) (by decide) (by decide) (tk3 (i := 40) (by decide +kernel) rfl) (by decide) 3 1 8 (Or.inl ⟨3, rfl, dL_framesOfVoice_7, rfl⟩) (ltb rfl) rfl ?_
    refine aw_widen (cc' := 2) (ss' := 12) (leb rfl) (leb rfl) ?_
    replace h := h rfl
    refine aw_bipush 10 (v := -2) dL_framesOfVoice_8 kB_m2 rfl ?_
    exact aw_ireturn (ty := .int) dL_framesOfVoice_10 rfl rfl (leb rfl) (leb rfl) ⟨_, rfl, h⟩)
set_option maxRecDepth 20000 in
theorem am_X4_session {G : GG} (hG : G.1.stackTraces = false) {l0 : Nat} {X : XH} {K : Int32 → XH → Prop} (h : w_X4_session l0 X K) : AM G M_X4_session X [.ref l0] (KrI K) := AM_of (by decide +kernel) rfl (leb rfl) hG (by
  show AW G M_X4_session 0 [(0, .ref l0)] [] X 0 0 _
  unfold w_X4_session at h
  refine aw_aload_n 1 dX4_session_0 rfl 0 rfl rfl ?_
  obtain ⟨g1, h⟩ := h
  obtain ⟨g2, h⟩ := h
  refine aw_getR 4 dX4_session_1 fl_RX4_10 rfl g1 g2 rfl ?_
  obtain ⟨g3, h⟩ := h
  refine aw_getI 7 dX4_session_4 fl_RX4_187 rfl g3 rfl ?_
  exact aw_ireturn (ty := .int) dX4_session_7 rfl rfl (leb rfl) (leb rfl) ⟨_, rfl, h⟩)
set_option maxRecDepth 20000 in
theorem am_X4_savedStates {G : GG} (hG : G.1.stackTraces = false) {l0 : Nat} {X : XH} {K : Int32 → XH → Prop} (h : w_X4_savedStates l0 X K) : AM G M_X4_savedStates X [.ref l0] (KrI K) := AM_of (by decide +kernel) rfl (leb rfl) hG (by
  show AW G M_X4_savedStates 0 [(0, .ref l0)] [] X 0 0 _
  unfold w_X4_savedStates at h
  refine aw_aload_n 1 dX4_savedStates_0 rfl 0 rfl rfl ?_
  obtain ⟨g1, h⟩ := h
  obtain ⟨g2, h⟩ := h
  refine aw_getR 4 dX4_savedStates_1 fl_RX4_19 rfl g1 g2 rfl ?_
  obtain ⟨g3, h⟩ := h
  refine aw_getI 7 dX4_savedStates_4 fl_RX4_277 rfl g3 rfl ?_
  exact aw_ireturn (ty := .int) dX4_savedStates_7 rfl rfl (leb rfl) (leb rfl) ⟨_, rfl, h⟩)
set_option maxRecDepth 20000 in
theorem aw_X3_takenTotal_4 {G : GG} (hG : G.1.stackTraces = false)  {l0 : Nat} {l1 : Int32} {l2 : Int32} {l3 : Int32} {X : XH} {K : Int32 → XH → Prop}  (h : w_X3_takenTotal_4  l0 l1 l2 l3 X K) : AW G M_X3_takenTotal 4 [(0, .ref l0), (1, .int l1), (2, .int l2), (3, .int l3)] [] X 0 0 (KrI K) :=
  h (fun l0 l1 l2 l3 X => AW G M_X3_takenTotal 4 [(0, .ref l0), (1, .int l1), (2, .int l2), (3, .int l3)] [] X 0 0 (KrI K)) (fun l0 l1 l2 l3 X h => by
    refine aw_iload_n 5 dX3_takenTotal_4 rfl 3 rfl rfl ?_
    refine aw_aload_n 6 dX3_takenTotal_5 rfl 0 rfl rfl ?_
    obtain ⟨g1, h⟩ := h
    refine aw_getI 9 dX3_takenTotal_6 fl_RX3_45 rfl g1 rfl ?_
    refine aw_icmp_ge 30 12 dX3_takenTotal_9 rfl rfl (fun c2 => ?_) (fun c2 => ?_)
    · replace h := h.1 c2
      refine aw_iload_n 31 dX3_takenTotal_30 rfl 2 rfl rfl ?_
      exact aw_ireturn (ty := .int) dX3_takenTotal_31 rfl rfl (leb rfl) (leb rfl) ⟨_, rfl, h⟩
    · replace h := h.2 c2
      refine aw_aload_n 13 dX3_takenTotal_12 rfl 0 rfl rfl ?_
      refine aw_iload_n 14 dX3_takenTotal_13 rfl 3 rfl rfl ?_
      refine aw_iload_n 15 dX3_takenTotal_14 rfl 1 rfl rfl ?_
      refine aw_callV (M' := M_X3_isTaken) 18 98 3 l0 [.int _, .int _] [] dX3_takenTotal_15 lk_RX3_98 mv_X3_isTaken mp_X3_isTaken rfl ⟨leb rfl, leb rfl⟩ rfl (ltb rfl) g1 rfl (leb rfl) (leb rfl) (leb rfl) rfl (am_X3_isTaken hG h) (kkI fun v4 X3 h => ?_) (kxN KrI.no)
      refine aw_widen (cc' := 0) (ss' := 0) (leb rfl) (leb rfl) ?_
      refine aw_if_eq 24 21 dX3_takenTotal_18 rfl rfl (fun c5 => ?_) (fun c5 => ?_)
      · replace h := h.1 c5
        refine aw_iinc 27 (v := 1) (lv' := [(3, _), (0, _), (1, _), (2, _)]) dX3_takenTotal_24 3 rfl kI_1 (ltb rfl) rfl rfl ?_
        refine aw_goto 4 dX3_takenTotal_27 rfl ?_
        exact aw_pick [1, 2, 3, 0] rfl h
      · replace h := h.2 c5
        refine aw_iinc 24 (v := 1) (lv' := [(2, _), (0, _), (1, _), (3, _)]) dX3_takenTotal_21 2 rfl kI_1 (ltb rfl) rfl rfl ?_
        refine aw_iinc 27 (v := 1) (lv' := [(3, _), (2, _), (0, _), (1, _)]) dX3_takenTotal_24 3 rfl kI_1 (ltb rfl) rfl rfl ?_
        refine aw_goto 4 dX3_takenTotal_27 rfl ?_
        exact aw_pick [2, 3, 1, 0] rfl h)
set_option maxRecDepth 20000 in
theorem am_X3_takenTotal {G : GG} (hG : G.1.stackTraces = false) {l0 : Nat} {l1 : Int32} {X : XH} {K : Int32 → XH → Prop} (h : w_X3_takenTotal l0 l1 X K) : AM G M_X3_takenTotal X [.ref l0, .int l1] (KrI K) := AM_of (by decide +kernel) rfl (leb rfl) hG (by
  show AW G M_X3_takenTotal 0 [(0, .ref l0), (1, .int l1)] [] X 0 0 _
  unfold w_X3_takenTotal at h
  refine aw_iconst 1 (v := 0) dX3_takenTotal_0 kI_0 rfl ?_
  refine aw_istore_n 2 (lv' := [(2, _), (0, _), (1, _)]) dX3_takenTotal_1 rfl (ltb rfl) rfl rfl ?_
  refine aw_iconst 3 (v := 0) dX3_takenTotal_2 kI_0 rfl ?_
  refine aw_istore_n 4 (lv' := [(3, _), (2, _), (0, _), (1, _)]) dX3_takenTotal_3 rfl (ltb rfl) rfl rfl ?_
  exact aw_pick [2, 3, 1, 0] rfl (aw_X3_takenTotal_4 hG  h))
set_option maxRecDepth 20000 in
theorem aw_X3_mostTakenTongue_4 {G : GG} (hG : G.1.stackTraces = false)  {l0 : Nat} {l1 : Int32} {l2 : Int32} {X : XH} {K : Int32 → XH → Prop}  (h : w_X3_mostTakenTongue_4  l0 l1 l2 X K) : AW G M_X3_mostTakenTongue 4 [(0, .ref l0), (1, .int l1), (2, .int l2)] [] X 0 0 (KrI K) :=
  h (fun l0 l1 l2 X => AW G M_X3_mostTakenTongue 4 [(0, .ref l0), (1, .int l1), (2, .int l2)] [] X 0 0 (KrI K)) (fun l0 l1 l2 X h => by
    refine aw_iload_n 5 dX3_mostTakenTongue_4 rfl 2 rfl rfl ?_
    refine aw_iconst 6 (v := 3) dX3_mostTakenTongue_5 kI_3 rfl ?_
    refine aw_icmp_ge 30 9 dX3_mostTakenTongue_6 rfl rfl (fun c1 => ?_) (fun c1 => ?_)
    · replace h := h.1 c1
      refine aw_iload_n 31 dX3_mostTakenTongue_30 rfl 1 rfl rfl ?_
      exact aw_ireturn (ty := .int) dX3_mostTakenTongue_31 rfl rfl (leb rfl) (leb rfl) ⟨_, rfl, h⟩
    · replace h := h.2 c1
      refine aw_aload_n 10 dX3_mostTakenTongue_9 rfl 0 rfl rfl ?_
      refine aw_iload_n 11 dX3_mostTakenTongue_10 rfl 2 rfl rfl ?_
      obtain ⟨g4, h⟩ := h
      refine aw_callV (M' := M_X3_takenTotal) 14 181 3 l0 [.int _] [] dX3_mostTakenTongue_11 lk_RX3_181 mv_X3_takenTotal mp_X3_takenTotal rfl ⟨leb rfl, leb rfl⟩ rfl (ltb rfl) g4 rfl (leb rfl) (leb rfl) (leb rfl) rfl (am_X3_takenTotal hG h) (kkI fun v3 X2 h => ?_) (kxN KrI.no)
      refine aw_widen (cc' := 0) (ss' := 0) (leb rfl) (leb rfl) ?_
      refine aw_aload_n 15 dX3_mostTakenTongue_14 rfl 0 rfl rfl ?_
      refine aw_iload_n 16 dX3_mostTakenTongue_15 rfl 1 rfl rfl ?_
      obtain ⟨g7, h⟩ := h
      refine aw_callV (M' := M_X3_takenTotal) 19 181 3 l0 [.int _] [.int _] dX3_mostTakenTongue_16 lk_RX3_181 mv_X3_takenTotal mp_X3_takenTotal rfl ⟨leb rfl, leb rfl⟩ rfl (ltb rfl) g7 rfl (leb rfl) (leb rfl) (leb rfl) rfl (am_X3_takenTotal hG h) (kkI fun v6 X5 h => ?_) (kxN KrI.no)
      refine aw_widen (cc' := 0) (ss' := 0) (leb rfl) (leb rfl) ?_
      refine aw_icmp_le 24 22 dX3_mostTakenTongue_19 rfl rfl (fun c8 => ?_) (fun c8 => ?_)
      · replace h := h.1 c8
        refine aw_iinc 27 (v := 1) (lv' := [(2, _), (0, _), (1, _)]) dX3_mostTakenTongue_24 2 rfl kI_1 (ltb rfl) rfl rfl ?_
        refine aw_goto 4 dX3_mostTakenTongue_27 rfl ?_
        exact aw_pick [1, 2, 0] rfl h
      · replace h := h.2 c8
        refine aw_iload_n 23 dX3_mostTakenTongue_22 rfl 2 rfl rfl ?_
        refine aw_istore_n 24 (lv' := [(1, _), (0, _), (2, _)]) dX3_mostTakenTongue_23 rfl (ltb rfl) rfl rfl ?_
        refine aw_iinc 27 (v := 1) (lv' := [(2, _), (1, _), (0, _)]) dX3_mostTakenTongue_24 2 rfl kI_1 (ltb rfl) rfl rfl ?_
        refine aw_goto 4 dX3_mostTakenTongue_27 rfl ?_
        exact aw_pick [2, 1, 0] rfl h)
set_option maxRecDepth 20000 in
theorem am_X3_mostTakenTongue {G : GG} (hG : G.1.stackTraces = false) {l0 : Nat} {X : XH} {K : Int32 → XH → Prop} (h : w_X3_mostTakenTongue l0 X K) : AM G M_X3_mostTakenTongue X [.ref l0] (KrI K) := AM_of (by decide +kernel) rfl (leb rfl) hG (by
  show AW G M_X3_mostTakenTongue 0 [(0, .ref l0)] [] X 0 0 _
  unfold w_X3_mostTakenTongue at h
  refine aw_iconst 1 (v := 0) dX3_mostTakenTongue_0 kI_0 rfl ?_
  refine aw_istore_n 2 (lv' := [(1, _), (0, _)]) dX3_mostTakenTongue_1 rfl (ltb rfl) rfl rfl ?_
  refine aw_iconst 3 (v := 1) dX3_mostTakenTongue_2 kI_1 rfl ?_
  refine aw_istore_n 4 (lv' := [(2, _), (1, _), (0, _)]) dX3_mostTakenTongue_3 rfl (ltb rfl) rfl rfl ?_
  exact aw_pick [2, 1, 0] rfl (aw_X3_mostTakenTongue_4 hG  h))
set_option maxRecDepth 20000 in
theorem am_X4_bestTongue {G : GG} (hG : G.1.stackTraces = false) {l0 : Nat} {X : XH} {K : Int32 → XH → Prop} (h : w_X4_bestTongue l0 X K) : AM G M_X4_bestTongue X [.ref l0] (KrI K) := AM_of (by decide +kernel) rfl (leb rfl) hG (by
  show AW G M_X4_bestTongue 0 [(0, .ref l0)] [] X 0 0 _
  unfold w_X4_bestTongue at h
  refine aw_aload_n 1 dX4_bestTongue_0 rfl 0 rfl rfl ?_
  obtain ⟨g1, h⟩ := h
  obtain ⟨g2, h⟩ := h
  refine aw_getR 4 dX4_bestTongue_1 fl_RX4_10 rfl g1 g2 rfl ?_
  obtain ⟨g5, h⟩ := h
  refine aw_callV (M' := M_X3_mostTakenTongue) 7 355 3 (hR X l0 0) [] [] dX4_bestTongue_4 lk_RX4_355 mv_X3_mostTakenTongue mp_X3_mostTakenTongue rfl ⟨leb rfl, leb rfl⟩ rfl (ltb rfl) g5 rfl (leb rfl) (leb rfl) (leb rfl) rfl (am_X3_mostTakenTongue hG h) (kkI fun v4 X3 h => ?_) (kxN KrI.no)
  refine aw_widen (cc' := 0) (ss' := 0) (leb rfl) (leb rfl) ?_
  exact aw_ireturn (ty := .int) dX4_bestTongue_7 rfl rfl (leb rfl) (leb rfl) ⟨_, rfl, h⟩)
set_option maxRecDepth 20000 in
theorem aw_X3_lipsBy_4 {G : GG} (hG : G.1.stackTraces = false)  {l0 : Nat} {l1 : Int32} {l2 : Int32} {l3 : Int32} {X : XH} {K : Int32 → XH → Prop}  (h : w_X3_lipsBy_4  l0 l1 l2 l3 X K) : AW G M_X3_lipsBy 4 [(0, .ref l0), (1, .int l1), (2, .int l2), (3, .int l3)] [] X 0 0 (KrI K) :=
  h (fun l0 l1 l2 l3 X => AW G M_X3_lipsBy 4 [(0, .ref l0), (1, .int l1), (2, .int l2), (3, .int l3)] [] X 0 0 (KrI K)) (fun l0 l1 l2 l3 X h => by
    refine aw_iload_n 5 dX3_lipsBy_4 rfl 3 rfl rfl ?_
    refine aw_aload_n 6 dX3_lipsBy_5 rfl 0 rfl rfl ?_
    obtain ⟨g1, h⟩ := h
    refine aw_getI 9 dX3_lipsBy_6 fl_RX3_45 rfl g1 rfl ?_
    refine aw_icmp_ge 35 12 dX3_lipsBy_9 rfl rfl (fun c2 => ?_) (fun c2 => ?_)
    · replace h := h.1 c2
      refine aw_iload_n 36 dX3_lipsBy_35 rfl 2 rfl rfl ?_
      exact aw_ireturn (ty := .int) dX3_lipsBy_36 rfl rfl (leb rfl) (leb rfl) ⟨_, rfl, h⟩
    · replace h := h.2 c2
      refine aw_aload_n 13 dX3_lipsBy_12 rfl 0 rfl rfl ?_
      refine aw_iload_n 14 dX3_lipsBy_13 rfl 3 rfl rfl ?_
      refine aw_callV (M' := M_X3_speakerAt) 17 77 3 l0 [.int _] [] dX3_lipsBy_14 lk_RX3_77 mv_X3_speakerAt mp_X3_speakerAt rfl ⟨leb rfl, leb rfl⟩ rfl (ltb rfl) g1 rfl (leb rfl) (leb rfl) (leb rfl) rfl (am_X3_speakerAt hG h) (kkI fun v4 X3 h => ?_) (kxN KrI.no)
      refine aw_widen (cc' := 0) (ss' := 0) (leb rfl) (leb rfl) ?_
      refine aw_iload_n 18 dX3_lipsBy_17 rfl 1 rfl rfl ?_
      refine aw_icmp_ne 29 21 dX3_lipsBy_18 rfl rfl (fun c5 => ?_) (fun c5 => ?_)
      · replace h := h.1 c5
        refine aw_iinc 32 (v := 1) (lv' := [(3, _), (0, _), (1, _), (2, _)]) dX3_lipsBy_29 3 rfl kI_1 (ltb rfl) rfl rfl ?_
        refine aw_goto 4 dX3_lipsBy_32 rfl ?_
        exact aw_pick [1, 2, 3, 0] rfl h
      · replace h := h.2 c5
        refine aw_iload_n 22 dX3_lipsBy_21 rfl 2 rfl rfl ?_
        refine aw_aload_n 23 dX3_lipsBy_22 rfl 0 rfl rfl ?_
        refine aw_iload_n 24 dX3_lipsBy_23 rfl 3 rfl rfl ?_
        obtain ⟨g8, h⟩ := h
        refine aw_callV (M' := M_X3_lipsAt) 27 102 3 l0 [.int _] [.int _] dX3_lipsBy_24 lk_RX3_102 mv_X3_lipsAt mp_X3_lipsAt rfl ⟨leb rfl, leb rfl⟩ rfl (ltb rfl) g8 rfl (leb rfl) (leb rfl) (leb rfl) rfl (am_X3_lipsAt hG h) (kkI fun v7 X6 h => ?_) (kxN KrI.no)
        refine aw_widen (cc' := 0) (ss' := 0) (leb rfl) (leb rfl) ?_
        refine aw_iadd 28 dX3_lipsBy_27 rfl ?_
        refine aw_istore_n 29 (lv' := [(2, _), (0, _), (1, _), (3, _)]) dX3_lipsBy_28 rfl (ltb rfl) rfl rfl ?_
        refine aw_iinc 32 (v := 1) (lv' := [(3, _), (2, _), (0, _), (1, _)]) dX3_lipsBy_29 3 rfl kI_1 (ltb rfl) rfl rfl ?_
        refine aw_goto 4 dX3_lipsBy_32 rfl ?_
        exact aw_pick [2, 3, 1, 0] rfl h)
set_option maxRecDepth 20000 in
theorem am_X3_lipsBy {G : GG} (hG : G.1.stackTraces = false) {l0 : Nat} {l1 : Int32} {X : XH} {K : Int32 → XH → Prop} (h : w_X3_lipsBy l0 l1 X K) : AM G M_X3_lipsBy X [.ref l0, .int l1] (KrI K) := AM_of (by decide +kernel) rfl (leb rfl) hG (by
  show AW G M_X3_lipsBy 0 [(0, .ref l0), (1, .int l1)] [] X 0 0 _
  unfold w_X3_lipsBy at h
  refine aw_iconst 1 (v := 0) dX3_lipsBy_0 kI_0 rfl ?_
  refine aw_istore_n 2 (lv' := [(2, _), (0, _), (1, _)]) dX3_lipsBy_1 rfl (ltb rfl) rfl rfl ?_
  refine aw_iconst 3 (v := 0) dX3_lipsBy_2 kI_0 rfl ?_
  refine aw_istore_n 4 (lv' := [(3, _), (2, _), (0, _), (1, _)]) dX3_lipsBy_3 rfl (ltb rfl) rfl rfl ?_
  exact aw_pick [2, 3, 1, 0] rfl (aw_X3_lipsBy_4 hG  h))
set_option maxRecDepth 20000 in
theorem aw_X3_mostLipsState_4 {G : GG} (hG : G.1.stackTraces = false)  {l0 : Nat} {l1 : Int32} {l2 : Int32} {X : XH} {K : Int32 → XH → Prop}  (h : w_X3_mostLipsState_4  l0 l1 l2 X K) : AW G M_X3_mostLipsState 4 [(0, .ref l0), (1, .int l1), (2, .int l2)] [] X 0 0 (KrI K) :=
  h (fun l0 l1 l2 X => AW G M_X3_mostLipsState 4 [(0, .ref l0), (1, .int l1), (2, .int l2)] [] X 0 0 (KrI K)) (fun l0 l1 l2 X h => by
    refine aw_iload_n 5 dX3_mostLipsState_4 rfl 2 rfl rfl ?_
    refine aw_iconst 6 (v := 5) dX3_mostLipsState_5 kI_5 rfl ?_
    refine aw_icmp_ge 30 9 dX3_mostLipsState_6 rfl rfl (fun c1 => ?_) (fun c1 => ?_)
    · replace h := h.1 c1
      refine aw_iload_n 31 dX3_mostLipsState_30 rfl 1 rfl rfl ?_
      exact aw_ireturn (ty := .int) dX3_mostLipsState_31 rfl rfl (leb rfl) (leb rfl) ⟨_, rfl, h⟩
    · replace h := h.2 c1
      refine aw_aload_n 10 dX3_mostLipsState_9 rfl 0 rfl rfl ?_
      refine aw_iload_n 11 dX3_mostLipsState_10 rfl 2 rfl rfl ?_
      obtain ⟨g4, h⟩ := h
      refine aw_callV (M' := M_X3_lipsBy) 14 145 3 l0 [.int _] [] dX3_mostLipsState_11 lk_RX3_145 mv_X3_lipsBy mp_X3_lipsBy rfl ⟨leb rfl, leb rfl⟩ rfl (ltb rfl) g4 rfl (leb rfl) (leb rfl) (leb rfl) rfl (am_X3_lipsBy hG h) (kkI fun v3 X2 h => ?_) (kxN KrI.no)
      refine aw_widen (cc' := 0) (ss' := 0) (leb rfl) (leb rfl) ?_
      refine aw_aload_n 15 dX3_mostLipsState_14 rfl 0 rfl rfl ?_
      refine aw_iload_n 16 dX3_mostLipsState_15 rfl 1 rfl rfl ?_
      obtain ⟨g7, h⟩ := h
      refine aw_callV (M' := M_X3_lipsBy) 19 145 3 l0 [.int _] [.int _] dX3_mostLipsState_16 lk_RX3_145 mv_X3_lipsBy mp_X3_lipsBy rfl ⟨leb rfl, leb rfl⟩ rfl (ltb rfl) g7 rfl (leb rfl) (leb rfl) (leb rfl) rfl (am_X3_lipsBy hG h) (kkI fun v6 X5 h => ?_) (kxN KrI.no)
      refine aw_widen (cc' := 0) (ss' := 0) (leb rfl) (leb rfl) ?_
      refine aw_icmp_le 24 22 dX3_mostLipsState_19 rfl rfl (fun c8 => ?_) (fun c8 => ?_)
      · replace h := h.1 c8
        refine aw_iinc 27 (v := 1) (lv' := [(2, _), (0, _), (1, _)]) dX3_mostLipsState_24 2 rfl kI_1 (ltb rfl) rfl rfl ?_
        refine aw_goto 4 dX3_mostLipsState_27 rfl ?_
        exact aw_pick [1, 2, 0] rfl h
      · replace h := h.2 c8
        refine aw_iload_n 23 dX3_mostLipsState_22 rfl 2 rfl rfl ?_
        refine aw_istore_n 24 (lv' := [(1, _), (0, _), (2, _)]) dX3_mostLipsState_23 rfl (ltb rfl) rfl rfl ?_
        refine aw_iinc 27 (v := 1) (lv' := [(2, _), (1, _), (0, _)]) dX3_mostLipsState_24 2 rfl kI_1 (ltb rfl) rfl rfl ?_
        refine aw_goto 4 dX3_mostLipsState_27 rfl ?_
        exact aw_pick [2, 1, 0] rfl h)
set_option maxRecDepth 20000 in
theorem am_X3_mostLipsState {G : GG} (hG : G.1.stackTraces = false) {l0 : Nat} {X : XH} {K : Int32 → XH → Prop} (h : w_X3_mostLipsState l0 X K) : AM G M_X3_mostLipsState X [.ref l0] (KrI K) := AM_of (by decide +kernel) rfl (leb rfl) hG (by
  show AW G M_X3_mostLipsState 0 [(0, .ref l0)] [] X 0 0 _
  unfold w_X3_mostLipsState at h
  refine aw_iconst 1 (v := 0) dX3_mostLipsState_0 kI_0 rfl ?_
  refine aw_istore_n 2 (lv' := [(1, _), (0, _)]) dX3_mostLipsState_1 rfl (ltb rfl) rfl rfl ?_
  refine aw_iconst 3 (v := 1) dX3_mostLipsState_2 kI_1 rfl ?_
  refine aw_istore_n 4 (lv' := [(2, _), (1, _), (0, _)]) dX3_mostLipsState_3 rfl (ltb rfl) rfl rfl ?_
  exact aw_pick [2, 1, 0] rfl (aw_X3_mostLipsState_4 hG  h))
set_option maxRecDepth 20000 in
theorem am_X4_loudestState {G : GG} (hG : G.1.stackTraces = false) {l0 : Nat} {X : XH} {K : Int32 → XH → Prop} (h : w_X4_loudestState l0 X K) : AM G M_X4_loudestState X [.ref l0] (KrI K) := AM_of (by decide +kernel) rfl (leb rfl) hG (by
  show AW G M_X4_loudestState 0 [(0, .ref l0)] [] X 0 0 _
  unfold w_X4_loudestState at h
  refine aw_aload_n 1 dX4_loudestState_0 rfl 0 rfl rfl ?_
  obtain ⟨g1, h⟩ := h
  obtain ⟨g2, h⟩ := h
  refine aw_getR 4 dX4_loudestState_1 fl_RX4_10 rfl g1 g2 rfl ?_
  obtain ⟨g5, h⟩ := h
  refine aw_callV (M' := M_X3_mostLipsState) 7 358 3 (hR X l0 0) [] [] dX4_loudestState_4 lk_RX4_358 mv_X3_mostLipsState mp_X3_mostLipsState rfl ⟨leb rfl, leb rfl⟩ rfl (ltb rfl) g5 rfl (leb rfl) (leb rfl) (leb rfl) rfl (am_X3_mostLipsState hG h) (kkI fun v4 X3 h => ?_) (kxN KrI.no)
  refine aw_widen (cc' := 0) (ss' := 0) (leb rfl) (leb rfl) ?_
  exact aw_ireturn (ty := .int) dX4_loudestState_7 rfl rfl (leb rfl) (leb rfl) ⟨_, rfl, h⟩)
set_option maxRecDepth 20000 in
theorem am_X4_roomFor {G : GG} (hG : G.1.stackTraces = false) {l0 : Nat} {l1 : Int32} {l2 : Int32} {X : XH} {K : Int32 → XH → Prop} {KX : String → XH → Prop} (h : w_X4_roomFor l0 l1 l2 X K KX) : AM G M_X4_roomFor X [.ref l0, .int l1, .int l2] (KxT (KrI K) KX) := AM_of (by decide +kernel) rfl (leb rfl) hG (by
  show AW G M_X4_roomFor 0 [(0, .ref l0), (1, .int l1), (2, .int l2)] [] X 0 0 _
  unfold w_X4_roomFor at h
  refine aw_aload_n 1 dX4_roomFor_0 rfl 0 rfl rfl ?_
  refine aw_iload_n 2 dX4_roomFor_1 rfl 1 rfl rfl ?_
  refine aw_iload_n 3 dX4_roomFor_2 rfl 2 rfl rfl ?_
  obtain ⟨g2, h⟩ := h
  refine aw_callV (M' := M_X4_checkTranslation) 6 115 4 l0 [.int _, .int _] [] dX4_roomFor_3 lk_RX4_115 mv_X4_checkTranslation mp_X4_checkTranslation rfl ⟨leb rfl, leb rfl⟩ rfl (ltb rfl) g2 rfl (leb rfl) (leb rfl) (leb rfl) rfl (am_X4_checkTranslation hG h) (kkT (kkV fun X1 h => ?_)) (kxT KrV.no fun E X h => at_out rfl (leb rfl) (leb rfl) (Or.inr ⟨_, rfl, h⟩))
  refine aw_widen (cc' := 2) (ss' := 12) (leb rfl) (leb rfl) ?_
  refine aw_aload_n 7 dX4_roomFor_6 rfl 0 rfl rfl ?_
  refine aw_iload_n 8 dX4_roomFor_7 rfl 1 rfl rfl ?_
  refine aw_iload_n 9 dX4_roomFor_8 rfl 2 rfl rfl ?_
  obtain ⟨g4, h⟩ := h
  refine aw_callV (M' := M_X4_checkTranslated) 12 286 4 l0 [.int _, .int _] [] dX4_roomFor_9 lk_RX4_286 mv_X4_checkTranslated mp_X4_checkTranslated rfl ⟨leb rfl, leb rfl⟩ rfl (ltb rfl) g4 rfl (leb rfl) (leb rfl) (leb rfl) rfl (am_X4_checkTranslated hG h) (kkT (kkV fun X3 h => ?_)) (kxT KrV.no fun E X h => at_out rfl (leb rfl) (leb rfl) (Or.inr ⟨_, rfl, h⟩))
  refine aw_widen (cc' := 3) (ss' := 18) (leb rfl) (leb rfl) ?_
  refine aw_aload_n 13 dX4_roomFor_12 rfl 0 rfl rfl ?_
  obtain ⟨g5, h⟩ := h
  obtain ⟨g6, h⟩ := h
  refine aw_getR 16 dX4_roomFor_13 fl_RX4_10 rfl g5 g6 rfl ?_
  refine aw_iload_n 17 dX4_roomFor_16 rfl 1 rfl rfl ?_
  refine aw_iload_n 18 dX4_roomFor_17 rfl 2 rfl rfl ?_
  obtain ⟨g9, h⟩ := h
  refine aw_callV (M' := M_X3_roomAt) 21 129 3 (hR X3 l0 0) [.int _, .int _] [] dX4_roomFor_18 lk_RX4_129 mv_X3_roomAt mp_X3_roomAt rfl ⟨leb rfl, leb rfl⟩ rfl (ltb rfl) g9 rfl (leb rfl) (leb rfl) (leb rfl) rfl (am_X3_roomAt hG h) (kkI fun v8 X7 h => ?_) (kxN KrI.no)
  refine aw_widen (cc' := 3) (ss' := 18) (leb rfl) (leb rfl) ?_
  exact aw_ireturn (ty := .int) dX4_roomFor_21 rfl rfl (leb rfl) (leb rfl) (Or.inl ⟨_, rfl, h⟩))
set_option maxRecDepth 20000 in
theorem am_L_roomFor {G : GG} (hG : G.1.stackTraces = false) {l0 : Nat} {l1 : Int32} {l2 : Int32} {X : XH} {K : Int32 → XH → Prop} (h : w_L_roomFor l0 l1 l2 X K) : AM G M_L_roomFor X [.ref l0, .int l1, .int l2] (KrI K) := AM_ofH (by decide +kernel) (0, 6, 7, 15) [(0, 6, 12, 19)] rfl (leb rfl) hG (by
  show AW G M_L_roomFor 0 [(0, .ref l0), (1, .int l1), (2, .int l2)] [] X 0 0 _
  unfold w_L_roomFor at h
  refine aw_aload_n 1 dL_roomFor_0 rfl 0 rfl rfl ?_
  refine aw_iload_n 2 dL_roomFor_1 rfl 1 rfl rfl ?_
  refine aw_iload_n 3 dL_roomFor_2 rfl 2 rfl rfl ?_
  obtain ⟨g3, h⟩ := h
  refine aw_callV (M' := M_X4_roomFor) 6 88 4 l0 [.int _, .int _] [] dL_roomFor_3 lk_RL_88 mv_X4_roomFor mp_X4_roomFor rfl ⟨leb rfl, leb rfl⟩ rfl (ltb rfl) g3 rfl (leb rfl) (leb rfl) (leb rfl) rfl (am_X4_roomFor hG h) (kkT (kkI fun v2 X1 h => ?_)) (kxT KrI.no fun E X1 h => ?_)
  · refine aw_widen (cc' := 3) (ss' := 18) (leb rfl) (leb rfl) ?_
    exact aw_ireturn (ty := .int) dL_roomFor_6 rfl rfl (leb rfl) (leb rfl) ⟨_, rfl, h⟩
  · obtain ⟨hE, h⟩ := h
    rcases hE with rfl | rfl
    · refine aw_atc (lv' := [(0, .ref _), (1, .int _), (2, .int _)]) [] (0, 6, 7, 15) [(0, 6, 12, 19)] rfl (fun z hz => nomatch hz) (by decide) (by decide) (tk3 (i := 40) (by decide +kernel) rfl) (by decide) 3 1 8 (Or.inl ⟨3, rfl, dL_roomFor_7, rfl⟩) (ltb rfl) rfl ?_
      refine aw_widen (cc' := 3) (ss' := 18) (leb rfl) (leb rfl) ?_
      replace h := h.1 rfl
      refine aw_sipush 11 (v := -902) dL_roomFor_8 kS_m902 rfl ?_
      exact aw_ireturn (ty := .int) dL_roomFor_11 rfl rfl (leb rfl) (leb rfl) ⟨_, rfl, h⟩
    · refine aw_atc (lv' := [(0, .ref _), (1, .int _), (2, .int _)]) [(0, 6, 7, 15)] (0, 6, 12, 19) [] rfl (by intro z hz; simp only [List.mem_cons, List.not_mem_nil, or_false] at hz; rcases hz with rfl <;> first | exact ⟨by decide, xcI, tk3 (i := 40) (by decide +kernel) rfl, by decide⟩) (by decide) (by decide) (tk3 (i := 42) (by decide +kernel) rfl) (by decide) 3 1 13 (Or.inl ⟨3, rfl, dL_roomFor_12, rfl⟩) (ltb rfl) rfl ?_
      refine aw_widen (cc' := 3) (ss' := 18) (leb rfl) (leb rfl) ?_
      replace h := h.2 rfl
      refine aw_sipush 16 (v := -904) dL_roomFor_13 kS_m904 rfl ?_
      exact aw_ireturn (ty := .int) dL_roomFor_16 rfl rfl (leb rfl) (leb rfl) ⟨_, rfl, h⟩)
set_option maxRecDepth 20000 in
theorem am_X4_reasonAgainst {G : GG} (hG : G.1.stackTraces = false) {l0 : Nat} {l1 : Int32} {l2 : Int32} {X : XH} {K : Int32 → XH → Prop} {KX : String → XH → Prop} (h : w_X4_reasonAgainst l0 l1 l2 X K KX) : AM G M_X4_reasonAgainst X [.ref l0, .int l1, .int l2] (KxT (KrI K) KX) := AM_of (by decide +kernel) rfl (leb rfl) hG (by
  show AW G M_X4_reasonAgainst 0 [(0, .ref l0), (1, .int l1), (2, .int l2)] [] X 0 0 _
  unfold w_X4_reasonAgainst at h
  refine aw_aload_n 1 dX4_reasonAgainst_0 rfl 0 rfl rfl ?_
  refine aw_iload_n 2 dX4_reasonAgainst_1 rfl 1 rfl rfl ?_
  refine aw_iload_n 3 dX4_reasonAgainst_2 rfl 2 rfl rfl ?_
  obtain ⟨g2, h⟩ := h
  refine aw_callV (M' := M_X4_checkTranslation) 6 115 4 l0 [.int _, .int _] [] dX4_reasonAgainst_3 lk_RX4_115 mv_X4_checkTranslation mp_X4_checkTranslation rfl ⟨leb rfl, leb rfl⟩ rfl (ltb rfl) g2 rfl (leb rfl) (leb rfl) (leb rfl) rfl (am_X4_checkTranslation hG h) (kkT (kkV fun X1 h => ?_)) (kxT KrV.no fun E X h => at_out rfl (leb rfl) (leb rfl) (Or.inr ⟨_, rfl, h⟩))
  refine aw_widen (cc' := 2) (ss' := 12) (leb rfl) (leb rfl) ?_
  refine aw_aload_n 7 dX4_reasonAgainst_6 rfl 0 rfl rfl ?_
  obtain ⟨g3, h⟩ := h
  obtain ⟨g4, h⟩ := h
  refine aw_getR 10 dX4_reasonAgainst_7 fl_RX4_10 rfl g3 g4 rfl ?_
  refine aw_iload_n 11 dX4_reasonAgainst_10 rfl 1 rfl rfl ?_
  refine aw_iload_n 12 dX4_reasonAgainst_11 rfl 2 rfl rfl ?_
  obtain ⟨g7, h⟩ := h
  refine aw_callV (M' := M_X3_reasonAt) 15 164 3 (hR X1 l0 0) [.int _, .int _] [] dX4_reasonAgainst_12 lk_RX4_164 mv_X3_reasonAt mp_X3_reasonAt rfl ⟨leb rfl, leb rfl⟩ rfl (ltb rfl) g7 rfl (leb rfl) (leb rfl) (leb rfl) rfl (am_X3_reasonAt hG h) (kkI fun v6 X5 h => ?_) (kxN KrI.no)
  refine aw_widen (cc' := 2) (ss' := 12) (leb rfl) (leb rfl) ?_
  exact aw_ireturn (ty := .int) dX4_reasonAgainst_15 rfl rfl (leb rfl) (leb rfl) (Or.inl ⟨_, rfl, h⟩))
set_option maxRecDepth 20000 in
theorem am_L_reasonAgainst {G : GG} (hG : G.1.stackTraces = false) {l0 : Nat} {l1 : Int32} {l2 : Int32} {X : XH} {K : Int32 → XH → Prop} (h : w_L_reasonAgainst l0 l1 l2 X K) : AM G M_L_reasonAgainst X [.ref l0, .int l1, .int l2] (KrI K) := AM_ofH (by decide +kernel) (0, 6, 7, 15) [] rfl (leb rfl) hG (by
  show AW G M_L_reasonAgainst 0 [(0, .ref l0), (1, .int l1), (2, .int l2)] [] X 0 0 _
  unfold w_L_reasonAgainst at h
  refine aw_aload_n 1 dL_reasonAgainst_0 rfl 0 rfl rfl ?_
  refine aw_iload_n 2 dL_reasonAgainst_1 rfl 1 rfl rfl ?_
  refine aw_iload_n 3 dL_reasonAgainst_2 rfl 2 rfl rfl ?_
  obtain ⟨g3, h⟩ := h
  refine aw_callV (M' := M_X4_reasonAgainst) 6 97 4 l0 [.int _, .int _] [] dL_reasonAgainst_3 lk_RL_97 mv_X4_reasonAgainst mp_X4_reasonAgainst rfl ⟨leb rfl, leb rfl⟩ rfl (ltb rfl) g3 rfl (leb rfl) (leb rfl) (leb rfl) rfl (am_X4_reasonAgainst hG h) (kkT (kkI fun v2 X1 h => ?_)) (kxT KrI.no fun E X1 h => ?_)
  · refine aw_widen (cc' := 2) (ss' := 12) (leb rfl) (leb rfl) ?_
    exact aw_ireturn (ty := .int) dL_reasonAgainst_6 rfl rfl (leb rfl) (leb rfl) ⟨_, rfl, h⟩
  · obtain ⟨hE, h⟩ := h
    rcases hE with rfl
    refine aw_atc (lv' := [(0, .ref _), (1, .int _), (2, .int _)]) [] (0, 6, 7, 15) [] rfl (fun z hz => nomatch hz) (by decide) (by decide) (tk3 (i := 40) (by decide +kernel) rfl) (by decide) 3 1 8 (Or.inl ⟨3, rfl, dL_reasonAgainst_7, rfl⟩) (ltb rfl) rfl ?_
    refine aw_widen (cc' := 2) (ss' := 12) (leb rfl) (leb rfl) ?_
    replace h := h rfl
    refine aw_bipush 10 (v := -2) dL_reasonAgainst_8 kB_m2 rfl ?_
    exact aw_ireturn (ty := .int) dL_reasonAgainst_10 rfl rfl (leb rfl) (leb rfl) ⟨_, rfl, h⟩)
set_option maxRecDepth 20000 in
theorem am_X4_sessionOf {G : GG} (hG : G.1.stackTraces = false) {l0 : Nat} {l1 : Int32} {l2 : Int32} {X : XH} {K : Int32 → XH → Prop} {KX : String → XH → Prop} (h : w_X4_sessionOf l0 l1 l2 X K KX) : AM G M_X4_sessionOf X [.ref l0, .int l1, .int l2] (KxT (KrI K) KX) := AM_of (by decide +kernel) rfl (leb rfl) hG (by
  show AW G M_X4_sessionOf 0 [(0, .ref l0), (1, .int l1), (2, .int l2)] [] X 0 0 _
  unfold w_X4_sessionOf at h
  refine aw_aload_n 1 dX4_sessionOf_0 rfl 0 rfl rfl ?_
  refine aw_iload_n 2 dX4_sessionOf_1 rfl 1 rfl rfl ?_
  refine aw_iload_n 3 dX4_sessionOf_2 rfl 2 rfl rfl ?_
  obtain ⟨g2, h⟩ := h
  refine aw_callV (M' := M_X4_checkTranslation) 6 115 4 l0 [.int _, .int _] [] dX4_sessionOf_3 lk_RX4_115 mv_X4_checkTranslation mp_X4_checkTranslation rfl ⟨leb rfl, leb rfl⟩ rfl (ltb rfl) g2 rfl (leb rfl) (leb rfl) (leb rfl) rfl (am_X4_checkTranslation hG h) (kkT (kkV fun X1 h => ?_)) (kxT KrV.no fun E X h => at_out rfl (leb rfl) (leb rfl) (Or.inr ⟨_, rfl, h⟩))
  refine aw_widen (cc' := 2) (ss' := 12) (leb rfl) (leb rfl) ?_
  refine aw_aload_n 7 dX4_sessionOf_6 rfl 0 rfl rfl ?_
  refine aw_iload_n 8 dX4_sessionOf_7 rfl 1 rfl rfl ?_
  refine aw_iload_n 9 dX4_sessionOf_8 rfl 2 rfl rfl ?_
  obtain ⟨g4, h⟩ := h
  refine aw_callV (M' := M_X4_checkTaken) 12 178 4 l0 [.int _, .int _] [] dX4_sessionOf_9 lk_RX4_178 mv_X4_checkTaken mp_X4_checkTaken rfl ⟨leb rfl, leb rfl⟩ rfl (ltb rfl) g4 rfl (leb rfl) (leb rfl) (leb rfl) rfl (am_X4_checkTaken hG h) (kkT (kkV fun X3 h => ?_)) (kxT KrV.no fun E X h => at_out rfl (leb rfl) (leb rfl) (Or.inr ⟨_, rfl, h⟩))
  refine aw_widen (cc' := 3) (ss' := 18) (leb rfl) (leb rfl) ?_
  refine aw_aload_n 13 dX4_sessionOf_12 rfl 0 rfl rfl ?_
  obtain ⟨g5, h⟩ := h
  obtain ⟨g6, h⟩ := h
  refine aw_getR 16 dX4_sessionOf_13 fl_RX4_10 rfl g5 g6 rfl ?_
  refine aw_iload_n 17 dX4_sessionOf_16 rfl 1 rfl rfl ?_
  refine aw_iload_n 18 dX4_sessionOf_17 rfl 2 rfl rfl ?_
  obtain ⟨g9, h⟩ := h
  refine aw_callV (M' := M_X3_takenIn) 21 181 3 (hR X3 l0 0) [.int _, .int _] [] dX4_sessionOf_18 lk_RX4_181 mv_X3_takenIn mp_X3_takenIn rfl ⟨leb rfl, leb rfl⟩ rfl (ltb rfl) g9 rfl (leb rfl) (leb rfl) (leb rfl) rfl (am_X3_takenIn hG h) (kkI fun v8 X7 h => ?_) (kxN KrI.no)
  refine aw_widen (cc' := 3) (ss' := 18) (leb rfl) (leb rfl) ?_
  exact aw_ireturn (ty := .int) dX4_sessionOf_21 rfl rfl (leb rfl) (leb rfl) (Or.inl ⟨_, rfl, h⟩))
set_option maxRecDepth 20000 in
theorem am_L_sessionOf {G : GG} (hG : G.1.stackTraces = false) {l0 : Nat} {l1 : Int32} {l2 : Int32} {X : XH} {K : Int32 → XH → Prop} (h : w_L_sessionOf l0 l1 l2 X K) : AM G M_L_sessionOf X [.ref l0, .int l1, .int l2] (KrI K) := AM_ofH (by decide +kernel) (0, 6, 7, 15) [(0, 6, 11, 19)] rfl (leb rfl) hG (by
  show AW G M_L_sessionOf 0 [(0, .ref l0), (1, .int l1), (2, .int l2)] [] X 0 0 _
  unfold w_L_sessionOf at h
  refine aw_aload_n 1 dL_sessionOf_0 rfl 0 rfl rfl ?_
  refine aw_iload_n 2 dL_sessionOf_1 rfl 1 rfl rfl ?_
  refine aw_iload_n 3 dL_sessionOf_2 rfl 2 rfl rfl ?_
  obtain ⟨g3, h⟩ := h
  refine aw_callV (M' := M_X4_sessionOf) 6 85 4 l0 [.int _, .int _] [] dL_sessionOf_3 lk_RL_85 mv_X4_sessionOf mp_X4_sessionOf rfl ⟨leb rfl, leb rfl⟩ rfl (ltb rfl) g3 rfl (leb rfl) (leb rfl) (leb rfl) rfl (am_X4_sessionOf hG h) (kkT (kkI fun v2 X1 h => ?_)) (kxT KrI.no fun E X1 h => ?_)
  · refine aw_widen (cc' := 3) (ss' := 18) (leb rfl) (leb rfl) ?_
    exact aw_ireturn (ty := .int) dL_sessionOf_6 rfl rfl (leb rfl) (leb rfl) ⟨_, rfl, h⟩
  · obtain ⟨hE, h⟩ := h
    rcases hE with rfl | rfl
    · refine aw_atc (lv' := [(0, .ref _), (1, .int _), (2, .int _)]) [] (0, 6, 7, 15) [(0, 6, 11, 19)] rfl (fun z hz => nomatch hz) (by decide) (by decide) (tk3 (i := 40) (by decide +kernel) rfl) (by decide) 3 1 8 (Or.inl ⟨3, rfl, dL_sessionOf_7, rfl⟩) (ltb rfl) rfl ?_
      refine aw_widen (cc' := 3) (ss' := 18) (leb rfl) (leb rfl) ?_
      replace h := h.1 rfl
      refine aw_bipush 10 (v := -2) dL_sessionOf_8 kB_m2 rfl ?_
      exact aw_ireturn (ty := .int) dL_sessionOf_10 rfl rfl (leb rfl) (leb rfl) ⟨_, rfl, h⟩
    · refine aw_atc (lv' := [(0, .ref _), (1, .int _), (2, .int _)]) [(0, 6, 7, 15)] (0, 6, 11, 19) [] rfl (by intro z hz; simp only [List.mem_cons, List.not_mem_nil, or_false] at hz; rcases hz with rfl <;> first | exact ⟨by decide, xcI, tk3 (i := 40) (by decide +kernel) rfl, by decide⟩) (by decide) (by decide) (tk3 (i := 42) (by decide +kernel) rfl) (by decide) 3 1 12 (Or.inl ⟨3, rfl, dL_sessionOf_11, rfl⟩) (ltb rfl) rfl ?_
      refine aw_widen (cc' := 3) (ss' := 18) (leb rfl) (leb rfl) ?_
      replace h := h.2 rfl
      refine aw_bipush 14 (v := -4) dL_sessionOf_12 kB_m4 rfl ?_
      exact aw_ireturn (ty := .int) dL_sessionOf_14 rfl rfl (leb rfl) (leb rfl) ⟨_, rfl, h⟩)
set_option maxRecDepth 20000 in
theorem am_X3_leastAnnexAt {G : GG} (hG : G.1.stackTraces = false) {l0 : Nat} {l1 : Int32} {l2 : Int32} {X : XH} {K : Int32 → XH → Prop} (h : w_X3_leastAnnexAt l0 l1 l2 X K) : AM G M_X3_leastAnnexAt X [.ref l0, .int l1, .int l2] (KrI K) := AM_of (by decide +kernel) rfl (leb rfl) hG (by
  show AW G M_X3_leastAnnexAt 0 [(0, .ref l0), (1, .int l1), (2, .int l2)] [] X 0 0 _
  unfold w_X3_leastAnnexAt at h
  refine aw_iconst 1 (v := 0) dX3_leastAnnexAt_0 kI_0 rfl ?_
  refine aw_aload_n 2 dX3_leastAnnexAt_1 rfl 0 rfl rfl ?_
  refine aw_iload_n 3 dX3_leastAnnexAt_2 rfl 1 rfl rfl ?_
  refine aw_iload_n 4 dX3_leastAnnexAt_3 rfl 2 rfl rfl ?_
  obtain ⟨g3, h⟩ := h
  refine aw_callV (M' := M_X3_roomAt) 7 117 3 l0 [.int _, .int _] [.int _] dX3_leastAnnexAt_4 lk_RX3_117 mv_X3_roomAt mp_X3_roomAt rfl ⟨leb rfl, leb rfl⟩ rfl (ltb rfl) g3 rfl (leb rfl) (leb rfl) (leb rfl) rfl (am_X3_roomAt hG h) (kkI fun v2 X1 h => ?_) (kxN KrI.no)
  refine aw_widen (cc' := 0) (ss' := 0) (leb rfl) (leb rfl) ?_
  refine aw_ineg 8 dX3_leastAnnexAt_7 rfl ?_
  refine aw_mmax 11 dX3_leastAnnexAt_8 mx_RX3_120 (leb rfl) (leb rfl) (leb rfl) (leb rfl) rfl ?_
  refine aw_istore_n 12 (lv' := [(3, _), (0, _), (1, _), (2, _)]) dX3_leastAnnexAt_11 rfl (ltb rfl) rfl rfl ?_
  refine aw_aload_n 13 dX3_leastAnnexAt_12 rfl 1 rfl rfl ?_
  refine aw_iload_n 14 dX3_leastAnnexAt_13 rfl 2 rfl rfl ?_
  refine aw_iload_n 15 dX3_leastAnnexAt_14 rfl 3 rfl rfl ?_
  obtain ⟨g6, h⟩ := h
  refine aw_callV (M' := M_X3_framesAt) 18 95 3 l0 [.int _, .int _] [] dX3_leastAnnexAt_15 lk_RX3_95 mv_X3_framesAt mp_X3_framesAt rfl ⟨leb rfl, leb rfl⟩ rfl (ltb rfl) g6 rfl (leb rfl) (leb rfl) (leb rfl) rfl (am_X3_framesAt hG h) (kkI fun v5 X4 h => ?_) (kxN KrI.no)
  refine aw_widen (cc' := 0) (ss' := 0) (leb rfl) (leb rfl) ?_
  refine aw_iload_n 19 dX3_leastAnnexAt_18 rfl 0 rfl rfl ?_
  refine aw_isub 20 dX3_leastAnnexAt_19 rfl ?_
  refine aw_iconst 21 (v := 1) dX3_leastAnnexAt_20 kI_1 rfl ?_
  refine aw_icmp_lt 28 24 dX3_leastAnnexAt_21 rfl rfl (fun c7 => ?_) (fun c7 => ?_)
  · replace h := h.1 c7
    refine aw_iconst 29 (v := -1) dX3_leastAnnexAt_28 kI_m1 rfl ?_
    exact aw_ireturn (ty := .int) dX3_leastAnnexAt_29 rfl rfl (leb rfl) (leb rfl) ⟨_, rfl, h⟩
  · replace h := h.2 c7
    refine aw_iload_n 25 dX3_leastAnnexAt_24 rfl 0 rfl rfl ?_
    refine aw_goto 29 dX3_leastAnnexAt_25 rfl ?_
    exact aw_ireturn (ty := .int) dX3_leastAnnexAt_29 rfl rfl (leb rfl) (leb rfl) ⟨_, rfl, h⟩)
set_option maxRecDepth 20000 in
theorem am_X4_leastAnnex {G : GG} (hG : G.1.stackTraces = false) {l0 : Nat} {l1 : Int32} {l2 : Int32} {X : XH} {K : Int32 → XH → Prop} {KX : String → XH → Prop} (h : w_X4_leastAnnex l0 l1 l2 X K KX) : AM G M_X4_leastAnnex X [.ref l0, .int l1, .int l2] (KxT (KrI K) KX) := AM_of (by decide +kernel) rfl (leb rfl) hG (by
  show AW G M_X4_leastAnnex 0 [(0, .ref l0), (1, .int l1), (2, .int l2)] [] X 0 0 _
  unfold w_X4_leastAnnex at h
  refine aw_aload_n 1 dX4_leastAnnex_0 rfl 0 rfl rfl ?_
  refine aw_iload_n 2 dX4_leastAnnex_1 rfl 1 rfl rfl ?_
  refine aw_iload_n 3 dX4_leastAnnex_2 rfl 2 rfl rfl ?_
  obtain ⟨g2, h⟩ := h
  refine aw_callV (M' := M_X4_checkTranslation) 6 115 4 l0 [.int _, .int _] [] dX4_leastAnnex_3 lk_RX4_115 mv_X4_checkTranslation mp_X4_checkTranslation rfl ⟨leb rfl, leb rfl⟩ rfl (ltb rfl) g2 rfl (leb rfl) (leb rfl) (leb rfl) rfl (am_X4_checkTranslation hG h) (kkT (kkV fun X1 h => ?_)) (kxT KrV.no fun E X h => at_out rfl (leb rfl) (leb rfl) (Or.inr ⟨_, rfl, h⟩))
  refine aw_widen (cc' := 2) (ss' := 12) (leb rfl) (leb rfl) ?_
  refine aw_aload_n 7 dX4_leastAnnex_6 rfl 0 rfl rfl ?_
  refine aw_iload_n 8 dX4_leastAnnex_7 rfl 1 rfl rfl ?_
  refine aw_iload_n 9 dX4_leastAnnex_8 rfl 2 rfl rfl ?_
  obtain ⟨g4, h⟩ := h
  refine aw_callV (M' := M_X4_checkTranslated) 12 286 4 l0 [.int _, .int _] [] dX4_leastAnnex_9 lk_RX4_286 mv_X4_checkTranslated mp_X4_checkTranslated rfl ⟨leb rfl, leb rfl⟩ rfl (ltb rfl) g4 rfl (leb rfl) (leb rfl) (leb rfl) rfl (am_X4_checkTranslated hG h) (kkT (kkV fun X3 h => ?_)) (kxT KrV.no fun E X h => at_out rfl (leb rfl) (leb rfl) (Or.inr ⟨_, rfl, h⟩))
  refine aw_widen (cc' := 3) (ss' := 18) (leb rfl) (leb rfl) ?_
  refine aw_aload_n 13 dX4_leastAnnex_12 rfl 0 rfl rfl ?_
  obtain ⟨g5, h⟩ := h
  obtain ⟨g6, h⟩ := h
  refine aw_getR 16 dX4_leastAnnex_13 fl_RX4_10 rfl g5 g6 rfl ?_
  refine aw_iload_n 17 dX4_leastAnnex_16 rfl 1 rfl rfl ?_
  refine aw_iload_n 18 dX4_leastAnnex_17 rfl 2 rfl rfl ?_
  obtain ⟨g9, h⟩ := h
  refine aw_callV (M' := M_X3_leastAnnexAt) 21 340 3 (hR X3 l0 0) [.int _, .int _] [] dX4_leastAnnex_18 lk_RX4_340 mv_X3_leastAnnexAt mp_X3_leastAnnexAt rfl ⟨leb rfl, leb rfl⟩ rfl (ltb rfl) g9 rfl (leb rfl) (leb rfl) (leb rfl) rfl (am_X3_leastAnnexAt hG h) (kkI fun v8 X7 h => ?_) (kxN KrI.no)
  refine aw_widen (cc' := 3) (ss' := 18) (leb rfl) (leb rfl) ?_
  refine aw_istore_n 22 (lv' := [(3, _), (0, _), (1, _), (2, _)]) dX4_leastAnnex_21 rfl (ltb rfl) rfl rfl ?_
  refine aw_iload_n 23 dX4_leastAnnex_22 rfl 0 rfl rfl ?_
  refine aw_iconst 24 (v := -1) dX4_leastAnnex_23 kI_m1 rfl ?_
  refine aw_icmp_ne 38 27 dX4_leastAnnex_24 rfl rfl (fun c10 => ?_) (fun c10 => ?_)
  · replace h := h.1 c10
    refine aw_iload_n 39 dX4_leastAnnex_38 rfl 0 rfl rfl ?_
    exact aw_ireturn (ty := .int) dX4_leastAnnex_39 rfl rfl (leb rfl) (leb rfl) (Or.inl ⟨_, rfl, h⟩)
  · replace h := h.2 c10
    exact aw_throw xcS 60 343 64 rfl th_xcS (by decide) (Or.inr ⟨dX4_leastAnnex_27, dX4_leastAnnex_30, dX4_leastAnnex_31, dX4_leastAnnex_34, dX4_leastAnnex_37⟩) rfl (ltb rfl) (leb rfl) (leb rfl) (leb rfl) (Or.inr ⟨_, rfl, h⟩))
end XWK3
