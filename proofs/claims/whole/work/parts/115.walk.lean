section WK
variable {p : Program} {l : Launch} {e : Env} {s : State} {mt : MethodId} {args : Array Value} {below : List Frame} {meth : Method} {c : Code}
abbrev rm_Mo_runJob : Room := { frames := 5, cells := 0, slots := 0, locals := 114 }
set_option maxHeartbeats 4000000 in
set_option maxRecDepth 100000 in
theorem t_Mo_runJob_316 {G : Gc} {P : Mm → Prop} (E : En G R_Mo b_Mo_runJob 3 p s mt args meth c) (hr : meth.sig.returnType = none) (m : Mm) (s0 : Int32) (s1 : Int32) (s2 : Nat) (H : Heap) (locs : List Loc) (ls : Array Slot) (h : wp_Mo_runJob_316 P m s0 s1 s2) (hp : pic G m H) (hS : va_S (fr G) s.heap H locs) (hl : lv_has ls 3 []) : W p l e rm_Mo_runJob s mt args below meth c H locs 0 0 (MQ below (PoV G P) args s 0 0 (fr G)) (F0 mt 316 ls [.int s0, .int s1, rn s2]) := by
  have hx := E.1
  have hb := E.2.1
  unfold wp_Mo_runJob_316 at h
  obtain ⟨g_1, g_2, h⟩ := h
  refine mp_iast (t0 := 1) E hp hS g_1 (by decide) rfl cw_30 rfl g_2 d_Mo_runJob_316 (fun m_3 em_3 H locs hp hS => ?_)
  replace h := h m_3 em_3
  exact mp_vret E hr hp hS h d_Mo_runJob_317
set_option maxHeartbeats 4000000 in
set_option maxRecDepth 100000 in
theorem t_Mo_runJob_257 {G : Gc} {P : Mm → Prop} (E : En G R_Mo b_Mo_runJob 3 p s mt args meth c) (hr : meth.sig.returnType = none) (m : Mm) (v0 : Nat) (v2 : Int32) (s0 : Int32) (s1 : Int32) (s2 : Nat) (H : Heap) (locs : List Loc) (ls : Array Slot) (h : wp_Mo_runJob_257 P m v0 v2 s0 s1 s2) (hp : pic G m H) (hS : va_S (fr G) s.heap H locs) (hl : lv_has ls 3 [(0, rn v0), (2, .int v2)]) : W p l e rm_Mo_runJob s mt args below meth c H locs 0 0 (MQ below (PoV G P) args s 0 0 (fr G)) (F0 mt 257 ls [.int s0, .int s1, rn s2]) := by
  have hx := E.1
  have hb := E.2.1
  unfold wp_Mo_runJob_257 at h
  obtain ⟨g_1, g_2, h⟩ := h
  refine mp_iast (t0 := 1) E hp hS g_1 (by decide) rfl cw_30 rfl g_2 d_Mo_runJob_257 (fun m_3 em_3 H locs hp hS => ?_)
  replace h := h m_3 em_3
  refine rr_aload_n hx hb d_Mo_runJob_258 rfl (lv_at hl 0 rfl) ?_
  obtain ⟨g_5, h⟩ := h
  refine rg_Mo_told E hp g_5 lk_337 d_Mo_runJob_259 (fun x_4 ex_4 => ?_)
  replace h := h x_4 ex_4
  refine lv_iload_n hx hb d_Mo_runJob_262 rfl (lv_at hl 1 rfl) ?_
  refine lv_iconst (v := 3) hx hb d_Mo_runJob_263 (by decide) ?_
  refine lv_iadd hx hb d_Mo_runJob_264 ?_
  refine lv_topi (fun x_6 ex_6 => ?_)
  replace h := h x_6 ex_6
  refine rr_aload_n hx hb d_Mo_runJob_265 rfl (lv_at hl 0 rfl) ?_
  obtain ⟨g_8, h⟩ := h
  refine rg_Mo_shown E hp g_8 lk_394 d_Mo_runJob_266 (fun x_7 ex_7 => ?_)
  replace h := h x_7 ex_7
  obtain ⟨g_9, g_10, h⟩ := h
  refine mp_iast (t0 := 1) E hp hS g_9 (by decide) rfl cw_30 rfl g_10 d_Mo_runJob_269 (fun m_11 em_11 H locs hp hS => ?_)
  replace h := h m_11 em_11
  refine rr_aload_n hx hb d_Mo_runJob_270 rfl (lv_at hl 0 rfl) ?_
  obtain ⟨g_13, h⟩ := h
  refine rg_Mo_told E hp g_13 lk_337 d_Mo_runJob_271 (fun x_12 ex_12 => ?_)
  replace h := h x_12 ex_12
  refine lv_iload_n hx hb d_Mo_runJob_274 rfl (lv_at hl 1 rfl) ?_
  refine lv_iconst (v := 4) hx hb d_Mo_runJob_275 (by decide) ?_
  refine lv_iadd hx hb d_Mo_runJob_276 ?_
  refine lv_topi (fun x_14 ex_14 => ?_)
  replace h := h x_14 ex_14
  refine rr_aload_n hx hb d_Mo_runJob_277 rfl (lv_at hl 0 rfl) ?_
  obtain ⟨g_16, h⟩ := h
  refine rg_Mo_steps E hp g_16 lk_439 d_Mo_runJob_278 (fun x_15 ex_15 => ?_)
  replace h := h x_15 ex_15
  obtain ⟨g_17, g_18, h⟩ := h
  refine mp_iast (t0 := 1) E hp hS g_17 (by decide) rfl cw_30 rfl g_18 d_Mo_runJob_281 (fun m_19 em_19 H locs hp hS => ?_)
  replace h := h m_19 em_19
  refine rr_aload_n hx hb d_Mo_runJob_282 rfl (lv_at hl 0 rfl) ?_
  obtain ⟨g_21, h⟩ := h
  refine rg_Mo_told E hp g_21 lk_337 d_Mo_runJob_283 (fun x_20 ex_20 => ?_)
  replace h := h x_20 ex_20
  refine lv_iload_n hx hb d_Mo_runJob_286 rfl (lv_at hl 1 rfl) ?_
  refine lv_iconst (v := 5) hx hb d_Mo_runJob_287 (by decide) ?_
  refine lv_iadd hx hb d_Mo_runJob_288 ?_
  refine lv_topi (fun x_22 ex_22 => ?_)
  replace h := h x_22 ex_22
  refine rr_aload_n hx hb d_Mo_runJob_289 rfl (lv_at hl 0 rfl) ?_
  obtain ⟨g_24, h⟩ := h
  refine rg_Mo_error E hp g_24 lk_392 d_Mo_runJob_290 (fun x_23 ex_23 => ?_)
  replace h := h x_23 ex_23
  refine lv_if_le (tgt := 315) hx hb d_Mo_runJob_293 (by decide) (fun g_25 => ?_) (fun g_25 => ?_)
  · replace h := h.1 g_25
    refine lv_iconst (v := 0) hx hb d_Mo_runJob_315 (by decide) ?_
    exact t_Mo_runJob_316 E hr m_19 0 x_22 x_20 _ _ _ h hp hS (lv_sub hl [] rfl)
  · replace h := h.2 g_25
    refine rr_aload_n hx hb d_Mo_runJob_296 rfl (lv_at hl 0 rfl) ?_
    obtain ⟨g_27, h⟩ := h
    refine rg_Mo_size E hp g_27 lk_336 d_Mo_runJob_297 (fun x_26 ex_26 => ?_)
    replace h := h x_26 ex_26
    refine rr_aload_n hx hb d_Mo_runJob_300 rfl (lv_at hl 0 rfl) ?_
    obtain ⟨g_29, h⟩ := h
    refine rg_Mo_job E hp g_29 lk_384 d_Mo_runJob_301 (fun x_28 ex_28 => ?_)
    replace h := h x_28 ex_28
    obtain ⟨g_31, g_32, h⟩ := h
    refine mp_iald (t0 := 1) E hp g_31 (by decide) rfl rfl g_32 d_Mo_runJob_304 (fun x_30 ex_30 => ?_)
    replace h := h x_30 ex_30
    refine rr_aload_n hx hb d_Mo_runJob_305 rfl (lv_at hl 0 rfl) ?_
    obtain ⟨g_34, h⟩ := h
    refine rg_Mo_at E hp g_34 lk_395 d_Mo_runJob_306 (fun x_33 ex_33 => ?_)
    replace h := h x_33 ex_33
    refine lv_isub hx hb d_Mo_runJob_309 ?_
    refine lv_topi (fun x_35 ex_35 => ?_)
    replace h := h x_35 ex_35
    refine lv_iconst (v := 1) hx hb d_Mo_runJob_310 (by decide) ?_
    refine lv_isub hx hb d_Mo_runJob_311 ?_
    refine lv_topi (fun x_36 ex_36 => ?_)
    replace h := h x_36 ex_36
    refine lv_goto (tgt := 316) hx hb d_Mo_runJob_312 (by decide) ?_
    exact t_Mo_runJob_316 E hr m_19 x_36 x_22 x_20 _ _ _ h hp hS (lv_sub hl [] rfl)
set_option maxHeartbeats 4000000 in
set_option maxRecDepth 100000 in
theorem t_Mo_runJob_222 {G : Gc} {P : Mm → Prop} (E : En G R_Mo b_Mo_runJob 3 p s mt args meth c) (hr : meth.sig.returnType = none) (m : Mm) (v0 : Nat) (v2 : Int32) (s0 : Int32) (s1 : Int32) (s2 : Nat) (H : Heap) (locs : List Loc) (ls : Array Slot) (h : wp_Mo_runJob_222 P m v0 v2 s0 s1 s2) (hp : pic G m H) (hS : va_S (fr G) s.heap H locs) (hl : lv_has ls 3 [(0, rn v0), (2, .int v2)]) : W p l e rm_Mo_runJob s mt args below meth c H locs 0 0 (MQ below (PoV G P) args s 0 0 (fr G)) (F0 mt 222 ls [.int s0, .int s1, rn s2]) := by
  have hx := E.1
  have hb := E.2.1
  unfold wp_Mo_runJob_222 at h
  obtain ⟨g_1, g_2, h⟩ := h
  refine mp_iast (t0 := 1) E hp hS g_1 (by decide) rfl cw_30 rfl g_2 d_Mo_runJob_222 (fun m_3 em_3 H locs hp hS => ?_)
  replace h := h m_3 em_3
  refine rr_aload_n hx hb d_Mo_runJob_223 rfl (lv_at hl 0 rfl) ?_
  obtain ⟨g_5, h⟩ := h
  refine rg_Mo_told E hp g_5 lk_337 d_Mo_runJob_224 (fun x_4 ex_4 => ?_)
  replace h := h x_4 ex_4
  refine lv_iload_n hx hb d_Mo_runJob_227 rfl (lv_at hl 1 rfl) ?_
  refine lv_iconst (v := 1) hx hb d_Mo_runJob_228 (by decide) ?_
  refine lv_iadd hx hb d_Mo_runJob_229 ?_
  refine lv_topi (fun x_6 ex_6 => ?_)
  replace h := h x_6 ex_6
  refine rr_aload_n hx hb d_Mo_runJob_230 rfl (lv_at hl 0 rfl) ?_
  obtain ⟨g_8, h⟩ := h
  refine rg_Mo_error E hp g_8 lk_392 d_Mo_runJob_231 (fun x_7 ex_7 => ?_)
  replace h := h x_7 ex_7
  obtain ⟨g_9, g_10, h⟩ := h
  refine mp_iast (t0 := 1) E hp hS g_9 (by decide) rfl cw_30 rfl g_10 d_Mo_runJob_234 (fun m_11 em_11 H locs hp hS => ?_)
  replace h := h m_11 em_11
  refine rr_aload_n hx hb d_Mo_runJob_235 rfl (lv_at hl 0 rfl) ?_
  obtain ⟨g_13, h⟩ := h
  refine rg_Mo_told E hp g_13 lk_337 d_Mo_runJob_236 (fun x_12 ex_12 => ?_)
  replace h := h x_12 ex_12
  refine lv_iload_n hx hb d_Mo_runJob_239 rfl (lv_at hl 1 rfl) ?_
  refine lv_iconst (v := 2) hx hb d_Mo_runJob_240 (by decide) ?_
  refine lv_iadd hx hb d_Mo_runJob_241 ?_
  refine lv_topi (fun x_14 ex_14 => ?_)
  replace h := h x_14 ex_14
  refine rr_aload_n hx hb d_Mo_runJob_242 rfl (lv_at hl 0 rfl) ?_
  obtain ⟨g_16, h⟩ := h
  refine rg_Mo_error E hp g_16 lk_392 d_Mo_runJob_243 (fun x_15 ex_15 => ?_)
  replace h := h x_15 ex_15
  refine lv_if_le (tgt := 256) hx hb d_Mo_runJob_246 (by decide) (fun g_17 => ?_) (fun g_17 => ?_)
  · replace h := h.1 g_17
    refine lv_iconst (v := 0) hx hb d_Mo_runJob_256 (by decide) ?_
    exact t_Mo_runJob_257 E hr m_11 v0 v2 0 x_14 x_12 _ _ _ h hp hS (lv_sub hl [0, 1] rfl)
  · replace h := h.2 g_17
    refine rr_aload_n hx hb d_Mo_runJob_249 rfl (lv_at hl 0 rfl) ?_
    obtain ⟨g_19, h⟩ := h
    refine rg_Mo_at E hp g_19 lk_395 d_Mo_runJob_250 (fun x_18 ex_18 => ?_)
    replace h := h x_18 ex_18
    refine lv_goto (tgt := 257) hx hb d_Mo_runJob_253 (by decide) ?_
    exact t_Mo_runJob_257 E hr m_11 v0 v2 x_18 x_14 x_12 _ _ _ h hp hS (lv_sub hl [0, 1] rfl)
set_option maxHeartbeats 4000000 in
set_option maxRecDepth 100000 in
theorem t_Mo_runJob_189 {G : Gc} {P : Mm → Prop} (E : En G R_Mo b_Mo_runJob 3 p s mt args meth c) (hr : meth.sig.returnType = none) (m : Mm) (v0 : Nat) (v1 : Int32) (H : Heap) (locs : List Loc) (ls : Array Slot) (h : wp_Mo_runJob_189 P m v0 v1) (hp : pic G m H) (hS : va_S (fr G) s.heap H locs) (hl : lv_has ls 3 [(0, rn v0), (1, .int v1)]) : W p l e rm_Mo_runJob s mt args below meth c H locs 0 0 (MQ below (PoV G P) args s 0 0 (fr G)) (F0 mt 189 ls []) := by
  have hx := E.1
  have hb := E.2.1
  unfold wp_Mo_runJob_189 at h
  refine lv_bipush (v := 6) hx hb d_Mo_runJob_189 (by decide) ?_
  refine rr_aload_n hx hb d_Mo_runJob_191 rfl (lv_at hl 0 rfl) ?_
  obtain ⟨g_2, h⟩ := h
  refine rg_Mo_job E hp g_2 lk_384 d_Mo_runJob_192 (fun x_1 ex_1 => ?_)
  replace h := h x_1 ex_1
  refine lv_imul hx hb d_Mo_runJob_195 ?_
  refine lv_topi (fun x_3 ex_3 => ?_)
  replace h := h x_3 ex_3
  refine lv_istore_n (lv' := [(2, .int x_3), (0, rn v0), (1, .int v1)]) hx hb d_Mo_runJob_196 rfl hl (by decide) rfl (fun ls hl => ?_)
  refine rr_aload_n hx hb d_Mo_runJob_197 rfl (lv_at hl 1 rfl) ?_
  obtain ⟨g_5, h⟩ := h
  refine rg_Mo_told E hp g_5 lk_337 d_Mo_runJob_198 (fun x_4 ex_4 => ?_)
  replace h := h x_4 ex_4
  refine lv_iload_n hx hb d_Mo_runJob_201 rfl (lv_at hl 0 rfl) ?_
  refine rr_aload_n hx hb d_Mo_runJob_202 rfl (lv_at hl 1 rfl) ?_
  obtain ⟨g_7, h⟩ := h
  refine rg_Mo_error E hp g_7 lk_392 d_Mo_runJob_203 (fun x_6 ex_6 => ?_)
  replace h := h x_6 ex_6
  refine lv_if_le (tgt := 213) hx hb d_Mo_runJob_206 (by decide) (fun g_8 => ?_) (fun g_8 => ?_)
  · replace h := h.1 g_8
    refine lv_iload_n hx hb d_Mo_runJob_213 rfl (lv_at hl 2 rfl) ?_
    refine lv_if_eq (tgt := 221) hx hb d_Mo_runJob_214 (by decide) (fun g_9 => ?_) (fun g_9 => ?_)
    · replace h := h.1 g_9
      refine lv_iconst (v := 1) hx hb d_Mo_runJob_221 (by decide) ?_
      exact t_Mo_runJob_222 E hr m v0 x_3 1 x_3 x_4 _ _ _ h hp hS (lv_sub hl [1, 0] rfl)
    · replace h := h.2 g_9
      refine lv_iconst (v := 3) hx hb d_Mo_runJob_217 (by decide) ?_
      refine lv_goto (tgt := 222) hx hb d_Mo_runJob_218 (by decide) ?_
      exact t_Mo_runJob_222 E hr m v0 x_3 3 x_3 x_4 _ _ _ h hp hS (lv_sub hl [1, 0] rfl)
  · replace h := h.2 g_8
    refine lv_iconst (v := 2) hx hb d_Mo_runJob_209 (by decide) ?_
    refine lv_goto (tgt := 222) hx hb d_Mo_runJob_210 (by decide) ?_
    exact t_Mo_runJob_222 E hr m v0 x_3 2 x_3 x_4 _ _ _ h hp hS (lv_sub hl [1, 0] rfl)
set_option maxHeartbeats 4000000 in
set_option maxRecDepth 100000 in
theorem t_Mo_runJob_186 {G : Gc} {P : Mm → Prop} (E : En G R_Mo b_Mo_runJob 3 p s mt args meth c) (hr : meth.sig.returnType = none) {K42 : Mm → Nat → Int32 → Prop} (hK42 : ∀ (m : Mm) (v0 : Nat) (v1 : Int32) (H : Heap) (locs : List Loc) (ls : Array Slot), K42 m v0 v1 → pic G m H → va_S (fr G) s.heap H locs → lv_has ls 3 [(0, rn v0), (1, .int v1)] → W p l e rm_Mo_runJob s mt args below meth c H locs 0 0 (MQ below (PoV G P) args s 0 0 (fr G)) (F0 mt 42 ls [])) (m : Mm) (v0 : Nat) (v1 : Int32) (H : Heap) (locs : List Loc) (ls : Array Slot) (h : wp_Mo_runJob_186 K42 P m v0 v1) (hp : pic G m H) (hS : va_S (fr G) s.heap H locs) (hl : lv_has ls 3 [(0, rn v0), (1, .int v1)]) : W p l e rm_Mo_runJob s mt args below meth c H locs 0 0 (MQ below (PoV G P) args s 0 0 (fr G)) (F0 mt 186 ls []) := by
  have hx := E.1
  have hb := E.2.1
  unfold wp_Mo_runJob_186 at h
  refine lv_goto (tgt := 42) hx hb d_Mo_runJob_186 (by decide) ?_
  exact hK42 m v0 v1 _ _ _ h hp hS (lv_sub hl [0, 1] rfl)
set_option maxHeartbeats 4000000 in
set_option maxRecDepth 100000 in
theorem t_Mo_runJob_183 {G : Gc} {P : Mm → Prop} (E : En G R_Mo b_Mo_runJob 3 p s mt args meth c) (hr : meth.sig.returnType = none) {K42 : Mm → Nat → Int32 → Prop} (hK42 : ∀ (m : Mm) (v0 : Nat) (v1 : Int32) (H : Heap) (locs : List Loc) (ls : Array Slot), K42 m v0 v1 → pic G m H → va_S (fr G) s.heap H locs → lv_has ls 3 [(0, rn v0), (1, .int v1)] → W p l e rm_Mo_runJob s mt args below meth c H locs 0 0 (MQ below (PoV G P) args s 0 0 (fr G)) (F0 mt 42 ls [])) (m : Mm) (v0 : Nat) (v1 : Int32) (s0 : Int32) (s1 : Nat) (H : Heap) (locs : List Loc) (ls : Array Slot) (h : wp_Mo_runJob_183 K42 P m v0 v1 s0 s1) (hp : pic G m H) (hS : va_S (fr G) s.heap H locs) (hl : lv_has ls 3 [(0, rn v0), (1, .int v1)]) : W p l e rm_Mo_runJob s mt args below meth c H locs 0 0 (MQ below (PoV G P) args s 0 0 (fr G)) (F0 mt 183 ls [.int s0, rn s1]) := by
  have hx := E.1
  have hb := E.2.1
  unfold wp_Mo_runJob_183 at h
  obtain ⟨g_1, h⟩ := h
  refine rp_Mo_at E hp hS g_1 lk_395 d_Mo_runJob_183 (fun m_2 em_2 H locs hp hS => ?_)
  replace h := h m_2 em_2
  exact t_Mo_runJob_186 E hr hK42 m_2 v0 v1 _ _ _ h hp hS (lv_sub hl [0, 1] rfl)
set_option maxHeartbeats 4000000 in
set_option maxRecDepth 100000 in
theorem t_Mo_runJob_118 {G : Gc} {P : Mm → Prop} (E : En G R_Mo b_Mo_runJob 3 p s mt args meth c) (hr : meth.sig.returnType = none) {K42 : Mm → Nat → Int32 → Prop} (hK42 : ∀ (m : Mm) (v0 : Nat) (v1 : Int32) (H : Heap) (locs : List Loc) (ls : Array Slot), K42 m v0 v1 → pic G m H → va_S (fr G) s.heap H locs → lv_has ls 3 [(0, rn v0), (1, .int v1)] → W p l e rm_Mo_runJob s mt args below meth c H locs 0 0 (MQ below (PoV G P) args s 0 0 (fr G)) (F0 mt 42 ls [])) (m : Mm) (v0 : Nat) (v1 : Int32) (H : Heap) (locs : List Loc) (ls : Array Slot) (h : wp_Mo_runJob_118 K42 P m v0 v1) (hp : pic G m H) (hS : va_S (fr G) s.heap H locs) (hl : lv_has ls 3 [(0, rn v0), (1, .int v1)]) : W p l e rm_Mo_runJob s mt args below meth c H locs 0 0 (MQ below (PoV G P) args s 0 0 (fr G)) (F0 mt 118 ls []) := by
  have hx := E.1
  have hb := E.2.1
  unfold wp_Mo_runJob_118 at h
  refine rr_aload_n hx hb d_Mo_runJob_118 rfl (lv_at hl 0 rfl) ?_
  refine lv_dup hx hb d_Mo_runJob_119 (rn_cat _) ?_
  obtain ⟨g_2, h⟩ := h
  refine rg_Mo_at E hp g_2 lk_395 d_Mo_runJob_120 (fun x_1 ex_1 => ?_)
  replace h := h x_1 ex_1
  refine lv_iconst (v := 1) hx hb d_Mo_runJob_123 (by decide) ?_
  refine lv_iadd hx hb d_Mo_runJob_124 ?_
  refine lv_topi (fun x_3 ex_3 => ?_)
  replace h := h x_3 ex_3
  obtain ⟨g_4, h⟩ := h
  refine rp_Mo_at E hp hS g_4 lk_395 d_Mo_runJob_125 (fun m_5 em_5 H locs hp hS => ?_)
  replace h := h m_5 em_5
  refine lv_goto (tgt := 186) hx hb d_Mo_runJob_128 (by decide) ?_
  exact t_Mo_runJob_186 E hr hK42 m_5 v0 v1 _ _ _ h hp hS (lv_sub hl [0, 1] rfl)
set_option maxHeartbeats 4000000 in
set_option maxRecDepth 100000 in
theorem t_Mo_runJob_42 {G : Gc} {P : Mm → Prop} (E : En G R_Mo b_Mo_runJob 3 p s mt args meth c) (hr : meth.sig.returnType = none) : ∀ (n : Nat) (m : Mm) (v0 : Nat) (v1 : Int32) (H : Heap) (locs : List Loc) (ls : Array Slot) (_ : wp_Mo_runJob_42 P n m v0 v1) (_ : pic G m H) (_ : va_S (fr G) s.heap H locs) (_ : lv_has ls 3 [(0, rn v0), (1, .int v1)]), W p l e rm_Mo_runJob s mt args below meth c H locs 0 0 (MQ below (PoV G P) args s 0 0 (fr G)) (F0 mt 42 ls []) := by
  intro n
  induction n with
  | zero => intro m v0 v1 H locs ls h hp hS hl; exact h.elim
  | succ n ih =>
    intro m v0 v1 H locs ls h hp hS hl
    have hx := E.1
    have hb := E.2.1
    unfold wp_Mo_runJob_42 at h
    refine rr_aload_n hx hb d_Mo_runJob_42 rfl (lv_at hl 0 rfl) ?_
    obtain ⟨g_2, h⟩ := h
    refine rg_Mo_at E hp g_2 lk_395 d_Mo_runJob_43 (fun x_1 ex_1 => ?_)
    replace h := h x_1 ex_1
    refine rr_aload_n hx hb d_Mo_runJob_46 rfl (lv_at hl 0 rfl) ?_
    obtain ⟨g_4, h⟩ := h
    refine rg_Mo_size E hp g_4 lk_336 d_Mo_runJob_47 (fun x_3 ex_3 => ?_)
    replace h := h x_3 ex_3
    refine rr_aload_n hx hb d_Mo_runJob_50 rfl (lv_at hl 0 rfl) ?_
    obtain ⟨g_6, h⟩ := h
    refine rg_Mo_job E hp g_6 lk_384 d_Mo_runJob_51 (fun x_5 ex_5 => ?_)
    replace h := h x_5 ex_5
    obtain ⟨g_8, g_9, h⟩ := h
    refine mp_iald (t0 := 1) E hp g_8 (by decide) rfl rfl g_9 d_Mo_runJob_54 (fun x_7 ex_7 => ?_)
    replace h := h x_7 ex_7
    refine lv_icmp_ge (tgt := 189) hx hb d_Mo_runJob_55 (by decide) (fun g_10 => ?_) (fun g_10 => ?_)
    · replace h := h.1 g_10
      exact t_Mo_runJob_189 E hr m v0 v1 _ _ _ h hp hS (lv_sub hl [0, 1] rfl)
    · replace h := h.2 g_10
      refine rr_aload_n hx hb d_Mo_runJob_58 rfl (lv_at hl 0 rfl) ?_
      obtain ⟨g_12, h⟩ := h
      refine rg_Mo_error E hp g_12 lk_392 d_Mo_runJob_59 (fun x_11 ex_11 => ?_)
      replace h := h x_11 ex_11
      refine lv_if_ne (tgt := 189) hx hb d_Mo_runJob_62 (by decide) (fun g_13 => ?_) (fun g_13 => ?_)
      · replace h := h.2 g_13
        exact t_Mo_runJob_189 E hr m v0 v1 _ _ _ h hp hS (lv_sub hl [0, 1] rfl)
      · replace h := h.1 g_13
        refine rr_aload_n hx hb d_Mo_runJob_65 rfl (lv_at hl 0 rfl) ?_
        obtain ⟨g_15, h⟩ := h
        refine rg_Mo_done E hp g_15 lk_424 d_Mo_runJob_66 (fun x_14 ex_14 => ?_)
        replace h := h x_14 ex_14
        refine lv_if_ne (tgt := 189) hx hb d_Mo_runJob_69 (by decide) (fun g_16 => ?_) (fun g_16 => ?_)
        · replace h := h.2 g_16
          exact t_Mo_runJob_189 E hr m v0 v1 _ _ _ h hp hS (lv_sub hl [0, 1] rfl)
        · replace h := h.1 g_16
          refine lv_iload_n hx hb d_Mo_runJob_72 rfl (lv_at hl 1 rfl) ?_
          refine lv_if_ne (tgt := 189) hx hb d_Mo_runJob_73 (by decide) (fun g_17 => ?_) (fun g_17 => ?_)
          · replace h := h.2 g_17
            exact t_Mo_runJob_189 E hr m v0 v1 _ _ _ h hp hS (lv_sub hl [0, 1] rfl)
          · replace h := h.1 g_17
            refine rr_aload_n hx hb d_Mo_runJob_76 rfl (lv_at hl 0 rfl) ?_
            refine rr_aload_n hx hb d_Mo_runJob_77 rfl (lv_at hl 0 rfl) ?_
            obtain ⟨g_19, h⟩ := h
            refine rg_Mo_at E hp g_19 lk_395 d_Mo_runJob_78 (fun x_18 ex_18 => ?_)
            replace h := h x_18 ex_18
            obtain ⟨g_22, h⟩ := h
            refine mc_i hS (mc_runV (As := [.int x_18]) (rest := []) E (c_Mo_sign l G m v0 x_18 _ h) wd_Mo_sign ⟨lk_385, lk_386, lk_387⟩ rfl rfl ⟨Nat.le_of_ble_eq_true rfl, Nat.le_of_ble_eq_true rfl⟩ hp hS g_22 (by decide) rfl rfl rfl hl.1 rfl (lv_room (Nat.le_of_ble_eq_true rfl)) d_Mo_runJob_81 ⟨Nat.le_of_ble_eq_true rfl, Nat.le_of_ble_eq_true rfl⟩) (fun r_21 m_20 h H locs hp hS => ?_)
            try dsimp only at h
            refine lv_istore_n (lv' := [(2, .int r_21), (0, rn v0), (1, .int v1)]) hx hb d_Mo_runJob_84 rfl hl (by decide) rfl (fun ls hl => ?_)
            refine lv_iload_n hx hb d_Mo_runJob_85 rfl (lv_at hl 0 rfl) ?_
            refine lv_bipush (v := 37) hx hb d_Mo_runJob_86 (by decide) ?_
            refine lv_icmp_ne (tgt := 106) hx hb d_Mo_runJob_88 (by decide) (fun g_23 => ?_) (fun g_23 => ?_)
            · replace h := h.2 g_23
              refine lv_iload_n hx hb d_Mo_runJob_106 rfl (lv_at hl 0 rfl) ?_
              refine lv_bipush (v := 32) hx hb d_Mo_runJob_107 (by decide) ?_
              refine lv_icmp_eq (tgt := 118) hx hb d_Mo_runJob_109 (by decide) (fun g_24 => ?_) (fun g_24 => ?_)
              · replace h := h.1 g_24
                exact t_Mo_runJob_118 E hr ih m_20 v0 v1 _ _ _ h hp hS (lv_sub hl [1, 2] rfl)
              · replace h := h.2 g_24
                refine lv_iload_n hx hb d_Mo_runJob_112 rfl (lv_at hl 0 rfl) ?_
                refine lv_bipush (v := 10) hx hb d_Mo_runJob_113 (by decide) ?_
                refine lv_icmp_ne (tgt := 131) hx hb d_Mo_runJob_115 (by decide) (fun g_25 => ?_) (fun g_25 => ?_)
                · replace h := h.2 g_25
                  refine rr_aload_n hx hb d_Mo_runJob_131 rfl (lv_at hl 1 rfl) ?_
                  obtain ⟨g_27, h⟩ := h
                  refine rg_Mo_steps E hp g_27 lk_439 d_Mo_runJob_132 (fun x_26 ex_26 => ?_)
                  replace h := h x_26 ex_26
                  refine rr_aload_n hx hb d_Mo_runJob_135 rfl (lv_at hl 1 rfl) ?_
                  obtain ⟨g_29, h⟩ := h
                  refine rg_Mo_most E hp g_29 lk_333 d_Mo_runJob_136 (fun x_28 ex_28 => ?_)
                  replace h := h x_28 ex_28
                  refine lv_icmp_ne (tgt := 147) hx hb d_Mo_runJob_139 (by decide) (fun g_30 => ?_) (fun g_30 => ?_)
                  · replace h := h.2 g_30
                    refine rr_aload_n hx hb d_Mo_runJob_147 rfl (lv_at hl 1 rfl) ?_
                    refine lv_dup hx hb d_Mo_runJob_148 (rn_cat _) ?_
                    obtain ⟨g_32, h⟩ := h
                    refine rg_Mo_steps E hp g_32 lk_439 d_Mo_runJob_149 (fun x_31 ex_31 => ?_)
                    replace h := h x_31 ex_31
                    refine lv_iconst (v := 1) hx hb d_Mo_runJob_152 (by decide) ?_
                    refine lv_iadd hx hb d_Mo_runJob_153 ?_
                    refine lv_topi (fun x_33 ex_33 => ?_)
                    replace h := h x_33 ex_33
                    obtain ⟨g_34, h⟩ := h
                    refine rp_Mo_steps E hp hS g_34 lk_439 d_Mo_runJob_154 (fun m_35 em_35 H locs hp hS => ?_)
                    replace h := h m_35 em_35
                    refine rr_aload_n hx hb d_Mo_runJob_157 rfl (lv_at hl 1 rfl) ?_
                    refine lv_iload_n hx hb d_Mo_runJob_158 rfl (lv_at hl 0 rfl) ?_
                    obtain ⟨g_38, h⟩ := h
                    refine mc_v hS (mc_runV (As := [.int r_21]) (rest := []) E (c_Mo_act l G m_35 v0 r_21 _ h) wd_Mo_act ⟨lk_440, lk_441, lk_442⟩ rfl rfl ⟨Nat.le_of_ble_eq_true rfl, Nat.le_of_ble_eq_true rfl⟩ hp hS g_38 (by decide) rfl rfl rfl hl.1 rfl (lv_room (Nat.le_of_ble_eq_true rfl)) d_Mo_runJob_159 ⟨Nat.le_of_ble_eq_true rfl, Nat.le_of_ble_eq_true rfl⟩) (fun m_36 h H locs hp hS => ?_)
                    try dsimp only at h
                    refine rr_aload_n hx hb d_Mo_runJob_162 rfl (lv_at hl 1 rfl) ?_
                    refine rr_aload_n hx hb d_Mo_runJob_163 rfl (lv_at hl 1 rfl) ?_
                    obtain ⟨g_40, h⟩ := h
                    refine rg_Mo_error E hp g_40 lk_392 d_Mo_runJob_164 (fun x_39 ex_39 => ?_)
                    replace h := h x_39 ex_39
                    refine lv_if_ne (tgt := 179) hx hb d_Mo_runJob_167 (by decide) (fun g_41 => ?_) (fun g_41 => ?_)
                    · replace h := h.2 g_41
                      refine rr_aload_n hx hb d_Mo_runJob_179 rfl (lv_at hl 1 rfl) ?_
                      obtain ⟨g_43, h⟩ := h
                      refine rg_Mo_at E hp g_43 lk_395 d_Mo_runJob_180 (fun x_42 ex_42 => ?_)
                      replace h := h x_42 ex_42
                      exact t_Mo_runJob_183 E hr ih m_36 v0 v1 x_42 v0 _ _ _ h hp hS (lv_sub hl [1, 2] rfl)
                    · replace h := h.1 g_41
                      refine rr_aload_n hx hb d_Mo_runJob_170 rfl (lv_at hl 1 rfl) ?_
                      obtain ⟨g_45, h⟩ := h
                      refine rg_Mo_at E hp g_45 lk_395 d_Mo_runJob_171 (fun x_44 ex_44 => ?_)
                      replace h := h x_44 ex_44
                      refine lv_iconst (v := 1) hx hb d_Mo_runJob_174 (by decide) ?_
                      refine lv_iadd hx hb d_Mo_runJob_175 ?_
                      refine lv_topi (fun x_46 ex_46 => ?_)
                      replace h := h x_46 ex_46
                      refine lv_goto (tgt := 183) hx hb d_Mo_runJob_176 (by decide) ?_
                      exact t_Mo_runJob_183 E hr ih m_36 v0 v1 x_46 v0 _ _ _ h hp hS (lv_sub hl [1, 2] rfl)
                  · replace h := h.1 g_30
                    refine lv_iconst (v := 1) hx hb d_Mo_runJob_142 (by decide) ?_
                    refine lv_istore_n (lv' := [(1, .int 1), (2, .int r_21), (0, rn v0)]) hx hb d_Mo_runJob_143 rfl hl (by decide) (by simp [rn_cat]) (fun ls hl => ?_)
                    refine lv_goto (tgt := 186) hx hb d_Mo_runJob_144 (by decide) ?_
                    exact t_Mo_runJob_186 E hr ih m_20 v0 1 _ _ _ h hp hS (lv_sub hl [2, 0] rfl)
                · replace h := h.1 g_25
                  exact t_Mo_runJob_118 E hr ih m_20 v0 v1 _ _ _ h hp hS (lv_sub hl [1, 2] rfl)
            · replace h := h.1 g_23
              refine rr_aload_n hx hb d_Mo_runJob_91 rfl (lv_at hl 1 rfl) ?_
              refine rr_aload_n hx hb d_Mo_runJob_92 rfl (lv_at hl 1 rfl) ?_
              refine rr_aload_n hx hb d_Mo_runJob_93 rfl (lv_at hl 1 rfl) ?_
              obtain ⟨g_48, h⟩ := h
              refine rg_Mo_at E hp g_48 lk_395 d_Mo_runJob_94 (fun x_47 ex_47 => ?_)
              replace h := h x_47 ex_47
              obtain ⟨g_51, h⟩ := h
              refine mc_i hS (mc_runV (As := [.int x_47]) (rest := [rn v0]) E (c_Mo_behindRemark l G m_20 v0 x_47 _ h) wd_Mo_behindRemark ⟨lk_388, lk_389, lk_390⟩ rfl rfl ⟨Nat.le_of_ble_eq_true rfl, Nat.le_of_ble_eq_true rfl⟩ hp hS g_51 (by decide) rfl rfl rfl hl.1 rfl (lv_room (by simp [rn_cat, cat_int, cat_long, cat_ref, cat_null])) d_Mo_runJob_97 ⟨Nat.le_of_ble_eq_true rfl, Nat.le_of_ble_eq_true rfl⟩) (fun r_50 m_49 h H locs hp hS => ?_)
              try dsimp only at h
              obtain ⟨g_52, h⟩ := h
              refine rp_Mo_at E hp hS g_52 lk_395 d_Mo_runJob_100 (fun m_53 em_53 H locs hp hS => ?_)
              replace h := h m_53 em_53
              refine lv_goto (tgt := 186) hx hb d_Mo_runJob_103 (by decide) ?_
              exact t_Mo_runJob_186 E hr ih m_53 v0 v1 _ _ _ h hp hS (lv_sub hl [1, 2] rfl)
set_option maxHeartbeats 4000000 in
set_option maxRecDepth 100000 in
theorem t_Mo_runJob_0 {G : Gc} {P : Mm → Prop} (E : En G R_Mo b_Mo_runJob 3 p s mt args meth c) (hr : meth.sig.returnType = none) (m : Mm) (v0 : Nat) (H : Heap) (locs : List Loc) (ls : Array Slot) (h : wp_Mo_runJob_0 P m v0) (hp : pic G m H) (hS : va_S (fr G) s.heap H locs) (hl : lv_has ls 3 [(0, rn v0)]) : W p l e rm_Mo_runJob s mt args below meth c H locs 0 0 (MQ below (PoV G P) args s 0 0 (fr G)) (F0 mt 0 ls []) := by
  have hx := E.1
  have hb := E.2.1
  unfold wp_Mo_runJob_0 at h
  refine rr_aload_n hx hb d_Mo_runJob_0 rfl (lv_at hl 0 rfl) ?_
  refine lv_iconst (v := 0) hx hb d_Mo_runJob_1 (by decide) ?_
  obtain ⟨g_1, h⟩ := h
  refine rp_Mo_at E hp hS g_1 lk_395 d_Mo_runJob_2 (fun m_2 em_2 H locs hp hS => ?_)
  replace h := h m_2 em_2
  refine rr_aload_n hx hb d_Mo_runJob_5 rfl (lv_at hl 0 rfl) ?_
  refine lv_iconst (v := 0) hx hb d_Mo_runJob_6 (by decide) ?_
  obtain ⟨g_3, h⟩ := h
  refine rp_Mo_steps E hp hS g_3 lk_439 d_Mo_runJob_7 (fun m_4 em_4 H locs hp hS => ?_)
  replace h := h m_4 em_4
  refine rr_aload_n hx hb d_Mo_runJob_10 rfl (lv_at hl 0 rfl) ?_
  refine lv_iconst (v := 0) hx hb d_Mo_runJob_11 (by decide) ?_
  obtain ⟨g_5, h⟩ := h
  refine rp_Mo_high E hp hS g_5 lk_391 d_Mo_runJob_12 (fun m_6 em_6 H locs hp hS => ?_)
  replace h := h m_6 em_6
  refine rr_aload_n hx hb d_Mo_runJob_15 rfl (lv_at hl 0 rfl) ?_
  refine lv_iconst (v := 0) hx hb d_Mo_runJob_16 (by decide) ?_
  obtain ⟨g_7, h⟩ := h
  refine rp_Mo_marks E hp hS g_7 lk_393 d_Mo_runJob_17 (fun m_8 em_8 H locs hp hS => ?_)
  replace h := h m_8 em_8
  refine rr_aload_n hx hb d_Mo_runJob_20 rfl (lv_at hl 0 rfl) ?_
  refine lv_iconst (v := 0) hx hb d_Mo_runJob_21 (by decide) ?_
  obtain ⟨g_9, h⟩ := h
  refine rp_Mo_shown E hp hS g_9 lk_394 d_Mo_runJob_22 (fun m_10 em_10 H locs hp hS => ?_)
  replace h := h m_10 em_10
  refine rr_aload_n hx hb d_Mo_runJob_25 rfl (lv_at hl 0 rfl) ?_
  refine lv_iconst (v := 0) hx hb d_Mo_runJob_26 (by decide) ?_
  obtain ⟨g_11, h⟩ := h
  refine rp_Mo_loops E hp hS g_11 lk_399 d_Mo_runJob_27 (fun m_12 em_12 H locs hp hS => ?_)
  replace h := h m_12 em_12
  refine rr_aload_n hx hb d_Mo_runJob_30 rfl (lv_at hl 0 rfl) ?_
  refine lv_iconst (v := 0) hx hb d_Mo_runJob_31 (by decide) ?_
  obtain ⟨g_13, h⟩ := h
  refine rp_Mo_error E hp hS g_13 lk_392 d_Mo_runJob_32 (fun m_14 em_14 H locs hp hS => ?_)
  replace h := h m_14 em_14
  refine rr_aload_n hx hb d_Mo_runJob_35 rfl (lv_at hl 0 rfl) ?_
  refine lv_iconst (v := 0) hx hb d_Mo_runJob_36 (by decide) ?_
  obtain ⟨g_15, h⟩ := h
  refine rp_Mo_done E hp hS g_15 lk_424 (by decide) d_Mo_runJob_37 (fun m_16 em_16 H locs hp hS => ?_)
  replace h := h m_16 em_16
  refine lv_iconst (v := 0) hx hb d_Mo_runJob_40 (by decide) ?_
  refine lv_istore_n (lv' := [(1, .int 0), (0, rn v0)]) hx hb d_Mo_runJob_41 rfl hl (by decide) (by simp [rn_cat]) (fun ls hl => ?_)
  obtain ⟨n_17, h⟩ := h
  exact t_Mo_runJob_42 E hr n_17 m_16 v0 0 _ _ _ h hp hS (lv_sub hl [1, 0] rfl)
set_option maxHeartbeats 4000000 in
set_option maxRecDepth 100000 in
theorem c_Mo_runJob (l : Launch) (G : Gc) (m : Mm) (v0 : Nat) (P : Mm → Prop) (h : wp_Mo_runJob m v0 P) : Met l y_Mo_runJob (Cond.code y_Mo_runJob b_Mo_runJob 3 none :: lw_good) rm_Mo_runJob (Pre9 G m [rn v0]) (PoV G P) 0 0 (fr G) := by
  refine Met.ofW (cc := b_Mo_runJob) (maxL := 3) (ret := none) (by decide) rfl ?_
  intro p e s mt args below meth c s₁ B hml hv
  obtain ⟨rfl, hp, hC⟩ := hv
  have hts := atoms_spec (ws := Cond.code y_Mo_runJob b_Mo_runJob 3 none :: lw_good) B.pre
  have E : En G R_Mo b_Mo_runJob 3 p s mt _ meth c := ⟨B.exec, B.bytes, hml, findClass_of_methodNamed B.named, fun w hw => hts w (List.mem_cons_of_mem _ hw), hC, B.notSynchronized⟩
  have hr := B.returns
  have hl := lv_entry [rn v0] (n := 3) (by simp [lg_sl, rn_cat, cat_int, cat_long, cat_ref, cat_null])
  rw [lg_entry_eq]
  generalize (lg_sl [rn v0] ++ List.replicate (3 - (lg_sl [rn v0]).length) Slot.unset).toArray = ls at hl ⊢
  have hl : lv_has ls 3 [(0, rn v0)] := by simpa [lv_args, rn_cat, cat_int, cat_long, cat_ref, cat_null] using hl
  exact t_Mo_runJob_0 E hr m v0 _ _ _ h hp va_S.rf (lv_sub hl [0] rfl)
end WK
