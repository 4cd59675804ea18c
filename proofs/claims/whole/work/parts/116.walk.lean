section WK
variable {p : Program} {l : Launch} {e : Env} {s : State} {mt : MethodId} {args : Array Value} {below : List Frame} {meth : Method} {c : Code}
abbrev rm_Mo_run : Room := { frames := 6, cells := 0, slots := 0, locals := 136 }
set_option maxHeartbeats 4000000 in
set_option maxRecDepth 100000 in
theorem t_Mo_run_254 {G : Gc} {P : Int32 → Mm → Prop} (E : En G R_Mo b_Mo_run 4 p s mt args meth c) (hr : meth.sig.returnType = some .int) {K19 : Mm → Nat → Int32 → Int32 → Prop} (hK19 : ∀ (m : Mm) (v0 : Nat) (v1 : Int32) (v2 : Int32) (H : Heap) (locs : List Loc) (ls : Array Slot), K19 m v0 v1 v2 → pic G m H → va_S (fr G) s.heap H locs → lv_has ls 4 [(0, rn v0), (1, .int v1), (2, .int v2)] → W p l e rm_Mo_run s mt args below meth c H locs 0 0 (MQ below (PoI G P) args s 0 0 (fr G)) (F0 mt 19 ls [])) (m : Mm) (v0 : Nat) (v1 : Int32) (v2 : Int32) (H : Heap) (locs : List Loc) (ls : Array Slot) (h : wp_Mo_run_254 K19 P m v0 v1 v2) (hp : pic G m H) (hS : va_S (fr G) s.heap H locs) (hl : lv_has ls 4 [(0, rn v0), (1, .int v1), (2, .int v2)]) : W p l e rm_Mo_run s mt args below meth c H locs 0 0 (MQ below (PoI G P) args s 0 0 (fr G)) (F0 mt 254 ls []) := by
  have hx := E.1
  have hb := E.2.1
  unfold wp_Mo_run_254 at h
  obtain ⟨x_1, ex_1⟩ : ∃ y : Int32, y = v2 + 1 := ⟨_, rfl⟩
  replace h := h x_1 ex_1
  refine lv_iinc (v := x_1) (lv' := [(2, .int x_1), (0, rn v0), (1, .int v1)]) hx hb d_Mo_run_254 hl (k := 2) rfl (by rw [ex_1]; rfl) (by decide) rfl (fun ls hl => ?_)
  refine lv_goto (tgt := 19) hx hb d_Mo_run_257 (by decide) ?_
  exact hK19 m v0 v1 x_1 _ _ _ h hp hS (lv_sub hl [1, 2, 0] rfl)
set_option maxHeartbeats 4000000 in
set_option maxRecDepth 100000 in
theorem t_Mo_run_247 {G : Gc} {P : Int32 → Mm → Prop} (E : En G R_Mo b_Mo_run 4 p s mt args meth c) (hr : meth.sig.returnType = some .int) {K19 : Mm → Nat → Int32 → Int32 → Prop} {K188 : Mm → Nat → Int32 → Int32 → Int32 → Prop} (hK19 : ∀ (m : Mm) (v0 : Nat) (v1 : Int32) (v2 : Int32) (H : Heap) (locs : List Loc) (ls : Array Slot), K19 m v0 v1 v2 → pic G m H → va_S (fr G) s.heap H locs → lv_has ls 4 [(0, rn v0), (1, .int v1), (2, .int v2)] → W p l e rm_Mo_run s mt args below meth c H locs 0 0 (MQ below (PoI G P) args s 0 0 (fr G)) (F0 mt 19 ls [])) (hK188 : ∀ (m : Mm) (v0 : Nat) (v1 : Int32) (v2 : Int32) (v3 : Int32) (H : Heap) (locs : List Loc) (ls : Array Slot), K188 m v0 v1 v2 v3 → pic G m H → va_S (fr G) s.heap H locs → lv_has ls 4 [(0, rn v0), (1, .int v1), (2, .int v2), (3, .int v3)] → W p l e rm_Mo_run s mt args below meth c H locs 0 0 (MQ below (PoI G P) args s 0 0 (fr G)) (F0 mt 188 ls [])) (m : Mm) (v0 : Nat) (v1 : Int32) (v2 : Int32) (v3 : Int32) (s0 : Int32) (s1 : Int32) (s2 : Nat) (H : Heap) (locs : List Loc) (ls : Array Slot) (h : wp_Mo_run_247 K19 K188 P m v0 v1 v2 v3 s0 s1 s2) (hp : pic G m H) (hS : va_S (fr G) s.heap H locs) (hl : lv_has ls 4 [(0, rn v0), (1, .int v1), (2, .int v2), (3, .int v3)]) : W p l e rm_Mo_run s mt args below meth c H locs 0 0 (MQ below (PoI G P) args s 0 0 (fr G)) (F0 mt 247 ls [.int s0, .int s1, rn s2]) := by
  have hx := E.1
  have hb := E.2.1
  unfold wp_Mo_run_247 at h
  obtain ⟨g_1, g_2, h⟩ := h
  refine mp_iast (t0 := 1) E hp hS g_1 (by decide) rfl cw_44 rfl g_2 d_Mo_run_247 (fun m_3 em_3 H locs hp hS => ?_)
  replace h := h m_3 em_3
  obtain ⟨x_4, ex_4⟩ : ∃ y : Int32, y = v3 + 1 := ⟨_, rfl⟩
  replace h := h x_4 ex_4
  refine lv_iinc (v := x_4) (lv' := [(3, .int x_4), (0, rn v0), (1, .int v1), (2, .int v2)]) hx hb d_Mo_run_248 hl (k := 3) rfl (by rw [ex_4]; rfl) (by decide) rfl (fun ls hl => ?_)
  refine lv_goto (tgt := 188) hx hb d_Mo_run_251 (by decide) ?_
  exact hK188 m_3 v0 v1 v2 x_4 _ _ _ h hp hS (lv_sub hl [1, 2, 3, 0] rfl)
set_option maxHeartbeats 4000000 in
set_option maxRecDepth 100000 in
theorem t_Mo_run_222 {G : Gc} {P : Int32 → Mm → Prop} (E : En G R_Mo b_Mo_run 4 p s mt args meth c) (hr : meth.sig.returnType = some .int) {K19 : Mm → Nat → Int32 → Int32 → Prop} {K188 : Mm → Nat → Int32 → Int32 → Int32 → Prop} (hK19 : ∀ (m : Mm) (v0 : Nat) (v1 : Int32) (v2 : Int32) (H : Heap) (locs : List Loc) (ls : Array Slot), K19 m v0 v1 v2 → pic G m H → va_S (fr G) s.heap H locs → lv_has ls 4 [(0, rn v0), (1, .int v1), (2, .int v2)] → W p l e rm_Mo_run s mt args below meth c H locs 0 0 (MQ below (PoI G P) args s 0 0 (fr G)) (F0 mt 19 ls [])) (hK188 : ∀ (m : Mm) (v0 : Nat) (v1 : Int32) (v2 : Int32) (v3 : Int32) (H : Heap) (locs : List Loc) (ls : Array Slot), K188 m v0 v1 v2 v3 → pic G m H → va_S (fr G) s.heap H locs → lv_has ls 4 [(0, rn v0), (1, .int v1), (2, .int v2), (3, .int v3)] → W p l e rm_Mo_run s mt args below meth c H locs 0 0 (MQ below (PoI G P) args s 0 0 (fr G)) (F0 mt 188 ls [])) (m : Mm) (v0 : Nat) (v1 : Int32) (v2 : Int32) (v3 : Int32) (s0 : Int32) (s1 : Int32) (s2 : Nat) (H : Heap) (locs : List Loc) (ls : Array Slot) (h : wp_Mo_run_222 K19 K188 P m v0 v1 v2 v3 s0 s1 s2) (hp : pic G m H) (hS : va_S (fr G) s.heap H locs) (hl : lv_has ls 4 [(0, rn v0), (1, .int v1), (2, .int v2), (3, .int v3)]) : W p l e rm_Mo_run s mt args below meth c H locs 0 0 (MQ below (PoI G P) args s 0 0 (fr G)) (F0 mt 222 ls [.int s0, .int s1, rn s2]) := by
  have hx := E.1
  have hb := E.2.1
  unfold wp_Mo_run_222 at h
  obtain ⟨g_1, g_2, h⟩ := h
  refine mp_zast (t0 := 5) E hp hS g_1 (by decide) rfl cw_40 rfl g_2 d_Mo_run_222 (fun m_3 em_3 H locs hp hS => ?_)
  replace h := h m_3 em_3
  refine rr_aload_n hx hb d_Mo_run_223 rfl (lv_at hl 0 rfl) ?_
  obtain ⟨g_5, h⟩ := h
  refine rg_Mo_filters E hp g_5 lk_348 d_Mo_run_224 (fun x_4 ex_4 => ?_)
  replace h := h x_4 ex_4
  refine lv_iload_n hx hb d_Mo_run_227 rfl (lv_at hl 3 rfl) ?_
  refine rr_aload_n hx hb d_Mo_run_228 rfl (lv_at hl 0 rfl) ?_
  obtain ⟨g_7, h⟩ := h
  refine rg_Mo_own E hp g_7 lk_351 d_Mo_run_229 (fun x_6 ex_6 => ?_)
  replace h := h x_6 ex_6
  refine lv_iload_n hx hb d_Mo_run_232 rfl (lv_at hl 3 rfl) ?_
  obtain ⟨g_9, g_10, h⟩ := h
  refine mp_zald (t0 := 5) E hp g_9 (by decide) rfl rfl g_10 d_Mo_run_233 (fun x_8 ex_8 => ?_)
  replace h := h x_8 ex_8
  refine lv_if_eq (tgt := 241) hx hb d_Mo_run_234 (by decide) (fun g_11 => ?_) (fun g_11 => ?_)
  · replace h := h.1 g_11
    refine rr_aload_n hx hb d_Mo_run_241 rfl (lv_at hl 0 rfl) ?_
    obtain ⟨g_13, h⟩ := h
    refine rg_Mo_filtersWas E hp g_13 lk_350 d_Mo_run_242 (fun x_12 ex_12 => ?_)
    replace h := h x_12 ex_12
    refine lv_iload_n hx hb d_Mo_run_245 rfl (lv_at hl 3 rfl) ?_
    obtain ⟨g_15, g_16, h⟩ := h
    refine mp_iald (t0 := 1) E hp g_15 (by decide) rfl rfl g_16 d_Mo_run_246 (fun x_14 ex_14 => ?_)
    replace h := h x_14 ex_14
    exact t_Mo_run_247 E hr hK19 hK188 m_3 v0 v1 v2 v3 x_14 v3 x_4 _ _ _ h hp hS (lv_sub hl [0, 1, 2, 3] rfl)
  · replace h := h.2 g_11
    refine lv_iconst (v := 0) hx hb d_Mo_run_237 (by decide) ?_
    refine lv_goto (tgt := 247) hx hb d_Mo_run_238 (by decide) ?_
    exact t_Mo_run_247 E hr hK19 hK188 m_3 v0 v1 v2 v3 0 v3 x_4 _ _ _ h hp hS (lv_sub hl [0, 1, 2, 3] rfl)
set_option maxHeartbeats 4000000 in
set_option maxRecDepth 100000 in
theorem t_Mo_run_221 {G : Gc} {P : Int32 → Mm → Prop} (E : En G R_Mo b_Mo_run 4 p s mt args meth c) (hr : meth.sig.returnType = some .int) {K19 : Mm → Nat → Int32 → Int32 → Prop} {K188 : Mm → Nat → Int32 → Int32 → Int32 → Prop} (hK19 : ∀ (m : Mm) (v0 : Nat) (v1 : Int32) (v2 : Int32) (H : Heap) (locs : List Loc) (ls : Array Slot), K19 m v0 v1 v2 → pic G m H → va_S (fr G) s.heap H locs → lv_has ls 4 [(0, rn v0), (1, .int v1), (2, .int v2)] → W p l e rm_Mo_run s mt args below meth c H locs 0 0 (MQ below (PoI G P) args s 0 0 (fr G)) (F0 mt 19 ls [])) (hK188 : ∀ (m : Mm) (v0 : Nat) (v1 : Int32) (v2 : Int32) (v3 : Int32) (H : Heap) (locs : List Loc) (ls : Array Slot), K188 m v0 v1 v2 v3 → pic G m H → va_S (fr G) s.heap H locs → lv_has ls 4 [(0, rn v0), (1, .int v1), (2, .int v2), (3, .int v3)] → W p l e rm_Mo_run s mt args below meth c H locs 0 0 (MQ below (PoI G P) args s 0 0 (fr G)) (F0 mt 188 ls [])) (m : Mm) (v0 : Nat) (v1 : Int32) (v2 : Int32) (v3 : Int32) (s0 : Int32) (s1 : Nat) (H : Heap) (locs : List Loc) (ls : Array Slot) (h : wp_Mo_run_221 K19 K188 P m v0 v1 v2 v3 s0 s1) (hp : pic G m H) (hS : va_S (fr G) s.heap H locs) (hl : lv_has ls 4 [(0, rn v0), (1, .int v1), (2, .int v2), (3, .int v3)]) : W p l e rm_Mo_run s mt args below meth c H locs 0 0 (MQ below (PoI G P) args s 0 0 (fr G)) (F0 mt 221 ls [.int s0, rn s1]) := by
  have hx := E.1
  have hb := E.2.1
  unfold wp_Mo_run_221 at h
  refine lv_iconst (v := 0) hx hb d_Mo_run_221 (by decide) ?_
  exact t_Mo_run_222 E hr hK19 hK188 m v0 v1 v2 v3 0 s0 s1 _ _ _ h hp hS (lv_sub hl [0, 1, 2, 3] rfl)
set_option maxHeartbeats 4000000 in
set_option maxRecDepth 100000 in
theorem t_Mo_run_188 {G : Gc} {P : Int32 → Mm → Prop} (E : En G R_Mo b_Mo_run 4 p s mt args meth c) (hr : meth.sig.returnType = some .int) {K19 : Mm → Nat → Int32 → Int32 → Prop} (hK19 : ∀ (m : Mm) (v0 : Nat) (v1 : Int32) (v2 : Int32) (H : Heap) (locs : List Loc) (ls : Array Slot), K19 m v0 v1 v2 → pic G m H → va_S (fr G) s.heap H locs → lv_has ls 4 [(0, rn v0), (1, .int v1), (2, .int v2)] → W p l e rm_Mo_run s mt args below meth c H locs 0 0 (MQ below (PoI G P) args s 0 0 (fr G)) (F0 mt 19 ls [])) : ∀ (n : Nat) (m : Mm) (v0 : Nat) (v1 : Int32) (v2 : Int32) (v3 : Int32) (H : Heap) (locs : List Loc) (ls : Array Slot) (_ : wp_Mo_run_188 K19 P n m v0 v1 v2 v3) (_ : pic G m H) (_ : va_S (fr G) s.heap H locs) (_ : lv_has ls 4 [(0, rn v0), (1, .int v1), (2, .int v2), (3, .int v3)]), W p l e rm_Mo_run s mt args below meth c H locs 0 0 (MQ below (PoI G P) args s 0 0 (fr G)) (F0 mt 188 ls []) := by
  intro n
  induction n with
  | zero => intro m v0 v1 v2 v3 H locs ls h hp hS hl; exact h.elim
  | succ n ih =>
    intro m v0 v1 v2 v3 H locs ls h hp hS hl
    have hx := E.1
    have hb := E.2.1
    unfold wp_Mo_run_188 at h
    refine lv_iload_n hx hb d_Mo_run_188 rfl (lv_at hl 3 rfl) ?_
    refine lv_bipush (v := 8) hx hb d_Mo_run_189 (by decide) ?_
    refine lv_icmp_ge (tgt := 254) hx hb d_Mo_run_191 (by decide) (fun g_1 => ?_) (fun g_1 => ?_)
    · replace h := h.1 g_1
      exact t_Mo_run_254 E hr hK19 m v0 v1 v2 _ _ _ h hp hS (lv_sub hl [0, 1, 2] rfl)
    · replace h := h.2 g_1
      refine rr_aload_n hx hb d_Mo_run_194 rfl (lv_at hl 0 rfl) ?_
      obtain ⟨g_3, h⟩ := h
      refine rg_Mo_open E hp g_3 lk_330 d_Mo_run_195 (fun x_2 ex_2 => ?_)
      replace h := h x_2 ex_2
      refine lv_iload_n hx hb d_Mo_run_198 rfl (lv_at hl 3 rfl) ?_
      refine rr_aload_n hx hb d_Mo_run_199 rfl (lv_at hl 0 rfl) ?_
      obtain ⟨g_5, h⟩ := h
      refine rg_Mo_open E hp g_5 lk_330 d_Mo_run_200 (fun x_4 ex_4 => ?_)
      replace h := h x_4 ex_4
      refine lv_iload_n hx hb d_Mo_run_203 rfl (lv_at hl 3 rfl) ?_
      obtain ⟨g_7, g_8, h⟩ := h
      refine mp_zald (t0 := 5) E hp g_7 (by decide) rfl rfl g_8 d_Mo_run_204 (fun x_6 ex_6 => ?_)
      replace h := h x_6 ex_6
      refine lv_if_eq (tgt := 221) hx hb d_Mo_run_205 (by decide) (fun g_9 => ?_) (fun g_9 => ?_)
      · replace h := h.1 g_9
        exact t_Mo_run_221 E hr hK19 ih m v0 v1 v2 v3 v3 x_2 _ _ _ h hp hS (lv_sub hl [0, 1, 2, 3] rfl)
      · replace h := h.2 g_9
        refine rr_aload_n hx hb d_Mo_run_208 rfl (lv_at hl 0 rfl) ?_
        obtain ⟨g_11, h⟩ := h
        refine rg_Mo_own E hp g_11 lk_351 d_Mo_run_209 (fun x_10 ex_10 => ?_)
        replace h := h x_10 ex_10
        refine lv_iload_n hx hb d_Mo_run_212 rfl (lv_at hl 3 rfl) ?_
        obtain ⟨g_13, g_14, h⟩ := h
        refine mp_zald (t0 := 5) E hp g_13 (by decide) rfl rfl g_14 d_Mo_run_213 (fun x_12 ex_12 => ?_)
        replace h := h x_12 ex_12
        refine lv_if_ne (tgt := 221) hx hb d_Mo_run_214 (by decide) (fun g_15 => ?_) (fun g_15 => ?_)
        · replace h := h.2 g_15
          exact t_Mo_run_221 E hr hK19 ih m v0 v1 v2 v3 v3 x_2 _ _ _ h hp hS (lv_sub hl [0, 1, 2, 3] rfl)
        · replace h := h.1 g_15
          refine lv_iconst (v := 1) hx hb d_Mo_run_217 (by decide) ?_
          refine lv_goto (tgt := 222) hx hb d_Mo_run_218 (by decide) ?_
          exact t_Mo_run_222 E hr hK19 ih m v0 v1 v2 v3 1 v3 x_2 _ _ _ h hp hS (lv_sub hl [0, 1, 2, 3] rfl)
set_option maxHeartbeats 4000000 in
set_option maxRecDepth 100000 in
theorem t_Mo_run_162 {G : Gc} {P : Int32 → Mm → Prop} (E : En G R_Mo b_Mo_run 4 p s mt args meth c) (hr : meth.sig.returnType = some .int) {K19 : Mm → Nat → Int32 → Int32 → Prop} (hK19 : ∀ (m : Mm) (v0 : Nat) (v1 : Int32) (v2 : Int32) (H : Heap) (locs : List Loc) (ls : Array Slot), K19 m v0 v1 v2 → pic G m H → va_S (fr G) s.heap H locs → lv_has ls 4 [(0, rn v0), (1, .int v1), (2, .int v2)] → W p l e rm_Mo_run s mt args below meth c H locs 0 0 (MQ below (PoI G P) args s 0 0 (fr G)) (F0 mt 19 ls [])) : ∀ (n : Nat) (m : Mm) (v0 : Nat) (v1 : Int32) (v2 : Int32) (v3 : Int32) (H : Heap) (locs : List Loc) (ls : Array Slot) (_ : wp_Mo_run_162 K19 P n m v0 v1 v2 v3) (_ : pic G m H) (_ : va_S (fr G) s.heap H locs) (_ : lv_has ls 4 [(0, rn v0), (1, .int v1), (2, .int v2), (3, .int v3)]), W p l e rm_Mo_run s mt args below meth c H locs 0 0 (MQ below (PoI G P) args s 0 0 (fr G)) (F0 mt 162 ls []) := by
  intro n
  induction n with
  | zero => intro m v0 v1 v2 v3 H locs ls h hp hS hl; exact h.elim
  | succ n ih =>
    intro m v0 v1 v2 v3 H locs ls h hp hS hl
    have hx := E.1
    have hb := E.2.1
    unfold wp_Mo_run_162 at h
    refine lv_iload_n hx hb d_Mo_run_162 rfl (lv_at hl 3 rfl) ?_
    refine lv_bipush (v := 40) hx hb d_Mo_run_163 (by decide) ?_
    refine lv_icmp_ge (tgt := 186) hx hb d_Mo_run_165 (by decide) (fun g_1 => ?_) (fun g_1 => ?_)
    · replace h := h.1 g_1
      refine lv_iconst (v := 1) hx hb d_Mo_run_186 (by decide) ?_
      refine lv_istore_n (lv' := [(3, .int 1), (0, rn v0), (1, .int v1), (2, .int v2)]) hx hb d_Mo_run_187 rfl hl (by decide) rfl (fun ls hl => ?_)
      obtain ⟨n_2, h⟩ := h
      exact t_Mo_run_188 E hr hK19 n_2 m v0 v1 v2 1 _ _ _ h hp hS (lv_sub hl [1, 2, 3, 0] rfl)
    · replace h := h.2 g_1
      refine rr_aload_n hx hb d_Mo_run_168 rfl (lv_at hl 0 rfl) ?_
      obtain ⟨g_4, h⟩ := h
      refine rg_Mo_resource E hp g_4 lk_332 d_Mo_run_169 (fun x_3 ex_3 => ?_)
      replace h := h x_3 ex_3
      refine lv_iload_n hx hb d_Mo_run_172 rfl (lv_at hl 3 rfl) ?_
      refine rr_aload_n hx hb d_Mo_run_173 rfl (lv_at hl 0 rfl) ?_
      obtain ⟨g_6, h⟩ := h
      refine rg_Mo_resourceWas E hp g_6 lk_341 d_Mo_run_174 (fun x_5 ex_5 => ?_)
      replace h := h x_5 ex_5
      refine lv_iload_n hx hb d_Mo_run_177 rfl (lv_at hl 3 rfl) ?_
      obtain ⟨g_8, g_9, h⟩ := h
      refine mp_iald (t0 := 1) E hp g_8 (by decide) rfl rfl g_9 d_Mo_run_178 (fun x_7 ex_7 => ?_)
      replace h := h x_7 ex_7
      obtain ⟨g_10, g_11, h⟩ := h
      refine mp_iast (t0 := 1) E hp hS g_10 (by decide) rfl cw_33 rfl g_11 d_Mo_run_179 (fun m_12 em_12 H locs hp hS => ?_)
      replace h := h m_12 em_12
      obtain ⟨x_13, ex_13⟩ : ∃ y : Int32, y = v3 + 1 := ⟨_, rfl⟩
      replace h := h x_13 ex_13
      refine lv_iinc (v := x_13) (lv' := [(3, .int x_13), (0, rn v0), (1, .int v1), (2, .int v2)]) hx hb d_Mo_run_180 hl (k := 3) rfl (by rw [ex_13]; rfl) (by decide) rfl (fun ls hl => ?_)
      refine lv_goto (tgt := 162) hx hb d_Mo_run_183 (by decide) ?_
      exact ih m_12 v0 v1 v2 x_13 _ _ _ h hp hS (lv_sub hl [1, 2, 3, 0] rfl)
set_option maxHeartbeats 4000000 in
set_option maxRecDepth 100000 in
theorem t_Mo_run_137 {G : Gc} {P : Int32 → Mm → Prop} (E : En G R_Mo b_Mo_run 4 p s mt args meth c) (hr : meth.sig.returnType = some .int) {K19 : Mm → Nat → Int32 → Int32 → Prop} (hK19 : ∀ (m : Mm) (v0 : Nat) (v1 : Int32) (v2 : Int32) (H : Heap) (locs : List Loc) (ls : Array Slot), K19 m v0 v1 v2 → pic G m H → va_S (fr G) s.heap H locs → lv_has ls 4 [(0, rn v0), (1, .int v1), (2, .int v2)] → W p l e rm_Mo_run s mt args below meth c H locs 0 0 (MQ below (PoI G P) args s 0 0 (fr G)) (F0 mt 19 ls [])) : ∀ (n : Nat) (m : Mm) (v0 : Nat) (v1 : Int32) (v2 : Int32) (v3 : Int32) (H : Heap) (locs : List Loc) (ls : Array Slot) (_ : wp_Mo_run_137 K19 P n m v0 v1 v2 v3) (_ : pic G m H) (_ : va_S (fr G) s.heap H locs) (_ : lv_has ls 4 [(0, rn v0), (1, .int v1), (2, .int v2), (3, .int v3)]), W p l e rm_Mo_run s mt args below meth c H locs 0 0 (MQ below (PoI G P) args s 0 0 (fr G)) (F0 mt 137 ls []) := by
  intro n
  induction n with
  | zero => intro m v0 v1 v2 v3 H locs ls h hp hS hl; exact h.elim
  | succ n ih =>
    intro m v0 v1 v2 v3 H locs ls h hp hS hl
    have hx := E.1
    have hb := E.2.1
    unfold wp_Mo_run_137 at h
    refine lv_iload_n hx hb d_Mo_run_137 rfl (lv_at hl 3 rfl) ?_
    refine lv_iconst (v := 4) hx hb d_Mo_run_138 (by decide) ?_
    refine lv_icmp_ge (tgt := 160) hx hb d_Mo_run_139 (by decide) (fun g_1 => ?_) (fun g_1 => ?_)
    · replace h := h.1 g_1
      refine lv_iconst (v := 0) hx hb d_Mo_run_160 (by decide) ?_
      refine lv_istore_n (lv' := [(3, .int 0), (0, rn v0), (1, .int v1), (2, .int v2)]) hx hb d_Mo_run_161 rfl hl (by decide) rfl (fun ls hl => ?_)
      obtain ⟨n_2, h⟩ := h
      exact t_Mo_run_162 E hr hK19 n_2 m v0 v1 v2 0 _ _ _ h hp hS (lv_sub hl [1, 2, 3, 0] rfl)
    · replace h := h.2 g_1
      refine rr_aload_n hx hb d_Mo_run_142 rfl (lv_at hl 0 rfl) ?_
      obtain ⟨g_4, h⟩ := h
      refine rg_Mo_setting E hp g_4 lk_339 d_Mo_run_143 (fun x_3 ex_3 => ?_)
      replace h := h x_3 ex_3
      refine lv_iload_n hx hb d_Mo_run_146 rfl (lv_at hl 3 rfl) ?_
      refine rr_aload_n hx hb d_Mo_run_147 rfl (lv_at hl 0 rfl) ?_
      obtain ⟨g_6, h⟩ := h
      refine rg_Mo_settingWas E hp g_6 lk_340 d_Mo_run_148 (fun x_5 ex_5 => ?_)
      replace h := h x_5 ex_5
      refine lv_iload_n hx hb d_Mo_run_151 rfl (lv_at hl 3 rfl) ?_
      obtain ⟨g_8, g_9, h⟩ := h
      refine mp_iald (t0 := 1) E hp g_8 (by decide) rfl rfl g_9 d_Mo_run_152 (fun x_7 ex_7 => ?_)
      replace h := h x_7 ex_7
      obtain ⟨g_10, g_11, h⟩ := h
      refine mp_iast (t0 := 1) E hp hS g_10 (by decide) rfl cw_32 rfl g_11 d_Mo_run_153 (fun m_12 em_12 H locs hp hS => ?_)
      replace h := h m_12 em_12
      obtain ⟨x_13, ex_13⟩ : ∃ y : Int32, y = v3 + 1 := ⟨_, rfl⟩
      replace h := h x_13 ex_13
      refine lv_iinc (v := x_13) (lv' := [(3, .int x_13), (0, rn v0), (1, .int v1), (2, .int v2)]) hx hb d_Mo_run_154 hl (k := 3) rfl (by rw [ex_13]; rfl) (by decide) rfl (fun ls hl => ?_)
      refine lv_goto (tgt := 137) hx hb d_Mo_run_157 (by decide) ?_
      exact ih m_12 v0 v1 v2 x_13 _ _ _ h hp hS (lv_sub hl [1, 2, 3, 0] rfl)
set_option maxHeartbeats 4000000 in
set_option maxRecDepth 100000 in
theorem t_Mo_run_92 {G : Gc} {P : Int32 → Mm → Prop} (E : En G R_Mo b_Mo_run 4 p s mt args meth c) (hr : meth.sig.returnType = some .int) {K19 : Mm → Nat → Int32 → Int32 → Prop} (hK19 : ∀ (m : Mm) (v0 : Nat) (v1 : Int32) (v2 : Int32) (H : Heap) (locs : List Loc) (ls : Array Slot), K19 m v0 v1 v2 → pic G m H → va_S (fr G) s.heap H locs → lv_has ls 4 [(0, rn v0), (1, .int v1), (2, .int v2)] → W p l e rm_Mo_run s mt args below meth c H locs 0 0 (MQ below (PoI G P) args s 0 0 (fr G)) (F0 mt 19 ls [])) : ∀ (n : Nat) (m : Mm) (v0 : Nat) (v1 : Int32) (v2 : Int32) (v3 : Int32) (H : Heap) (locs : List Loc) (ls : Array Slot) (_ : wp_Mo_run_92 K19 P n m v0 v1 v2 v3) (_ : pic G m H) (_ : va_S (fr G) s.heap H locs) (_ : lv_has ls 4 [(0, rn v0), (1, .int v1), (2, .int v2), (3, .int v3)]), W p l e rm_Mo_run s mt args below meth c H locs 0 0 (MQ below (PoI G P) args s 0 0 (fr G)) (F0 mt 92 ls []) := by
  intro n
  induction n with
  | zero => intro m v0 v1 v2 v3 H locs ls h hp hS hl; exact h.elim
  | succ n ih =>
    intro m v0 v1 v2 v3 H locs ls h hp hS hl
    have hx := E.1
    have hb := E.2.1
    unfold wp_Mo_run_92 at h
    refine lv_iload_n hx hb d_Mo_run_92 rfl (lv_at hl 3 rfl) ?_
    refine lv_bipush (v := 8) hx hb d_Mo_run_93 (by decide) ?_
    refine lv_icmp_ge (tgt := 123) hx hb d_Mo_run_95 (by decide) (fun g_1 => ?_) (fun g_1 => ?_)
    · replace h := h.1 g_1
      refine rr_aload_n hx hb d_Mo_run_123 rfl (lv_at hl 0 rfl) ?_
      refine lv_iload_n hx hb d_Mo_run_124 rfl (lv_at hl 2 rfl) ?_
      obtain ⟨g_2, h⟩ := h
      refine rp_Mo_job E hp hS g_2 lk_384 d_Mo_run_125 (fun m_3 em_3 H locs hp hS => ?_)
      replace h := h m_3 em_3
      refine rr_aload_n hx hb d_Mo_run_128 rfl (lv_at hl 0 rfl) ?_
      obtain ⟨g_6, h⟩ := h
      refine mc_v hS (mc_runV (As := []) (rest := []) E (c_Mo_runJob l G m_3 v0 _ h) wd_Mo_runJob ⟨lk_443, lk_444, lk_445⟩ rfl rfl ⟨Nat.le_of_ble_eq_true rfl, Nat.le_of_ble_eq_true rfl⟩ hp hS g_6 (by decide) rfl rfl rfl hl.1 rfl (lv_room (Nat.le_of_ble_eq_true rfl)) d_Mo_run_129 ⟨Nat.le_of_ble_eq_true rfl, Nat.le_of_ble_eq_true rfl⟩) (fun m_4 h H locs hp hS => ?_)
      try dsimp only at h
      obtain ⟨x_7, ex_7⟩ : ∃ y : Int32, y = v1 + 1 := ⟨_, rfl⟩
      replace h := h x_7 ex_7
      refine lv_iinc (v := x_7) (lv' := [(1, .int x_7), (0, rn v0), (2, .int v2), (3, .int v3)]) hx hb d_Mo_run_132 hl (k := 1) rfl (by rw [ex_7]; rfl) (by decide) (by simp [rn_cat]) (fun ls hl => ?_)
      refine lv_iconst (v := 0) hx hb d_Mo_run_135 (by decide) ?_
      refine lv_istore_n (lv' := [(3, .int 0), (1, .int x_7), (0, rn v0), (2, .int v2)]) hx hb d_Mo_run_136 rfl hl (by decide) rfl (fun ls hl => ?_)
      obtain ⟨n_8, h⟩ := h
      exact t_Mo_run_137 E hr hK19 n_8 m_4 v0 x_7 v2 0 _ _ _ h hp hS (lv_sub hl [2, 1, 3, 0] rfl)
    · replace h := h.2 g_1
      refine rr_aload_n hx hb d_Mo_run_98 rfl (lv_at hl 0 rfl) ?_
      obtain ⟨g_10, h⟩ := h
      refine rg_Mo_own E hp g_10 lk_351 d_Mo_run_99 (fun x_9 ex_9 => ?_)
      replace h := h x_9 ex_9
      refine lv_iload_n hx hb d_Mo_run_102 rfl (lv_at hl 3 rfl) ?_
      refine lv_iconst (v := 0) hx hb d_Mo_run_103 (by decide) ?_
      obtain ⟨g_11, g_12, h⟩ := h
      refine mp_zast (t0 := 5) E hp hS g_11 (by decide) rfl cw_47 rfl g_12 d_Mo_run_104 (fun m_13 em_13 H locs hp hS => ?_)
      replace h := h m_13 em_13
      refine rr_aload_n hx hb d_Mo_run_105 rfl (lv_at hl 0 rfl) ?_
      obtain ⟨g_15, h⟩ := h
      refine rg_Mo_filtersWas E hp g_15 lk_350 d_Mo_run_106 (fun x_14 ex_14 => ?_)
      replace h := h x_14 ex_14
      refine lv_iload_n hx hb d_Mo_run_109 rfl (lv_at hl 3 rfl) ?_
      refine rr_aload_n hx hb d_Mo_run_110 rfl (lv_at hl 0 rfl) ?_
      obtain ⟨g_17, h⟩ := h
      refine rg_Mo_filters E hp g_17 lk_348 d_Mo_run_111 (fun x_16 ex_16 => ?_)
      replace h := h x_16 ex_16
      refine lv_iload_n hx hb d_Mo_run_114 rfl (lv_at hl 3 rfl) ?_
      obtain ⟨g_19, g_20, h⟩ := h
      refine mp_iald (t0 := 1) E hp g_19 (by decide) rfl rfl g_20 d_Mo_run_115 (fun x_18 ex_18 => ?_)
      replace h := h x_18 ex_18
      obtain ⟨g_21, g_22, h⟩ := h
      refine mp_iast (t0 := 1) E hp hS g_21 (by decide) rfl cw_46 rfl g_22 d_Mo_run_116 (fun m_23 em_23 H locs hp hS => ?_)
      replace h := h m_23 em_23
      obtain ⟨x_24, ex_24⟩ : ∃ y : Int32, y = v3 + 1 := ⟨_, rfl⟩
      replace h := h x_24 ex_24
      refine lv_iinc (v := x_24) (lv' := [(3, .int x_24), (0, rn v0), (1, .int v1), (2, .int v2)]) hx hb d_Mo_run_117 hl (k := 3) rfl (by rw [ex_24]; rfl) (by decide) rfl (fun ls hl => ?_)
      refine lv_goto (tgt := 92) hx hb d_Mo_run_120 (by decide) ?_
      exact ih m_23 v0 v1 v2 x_24 _ _ _ h hp hS (lv_sub hl [1, 2, 3, 0] rfl)
set_option maxHeartbeats 4000000 in
set_option maxRecDepth 100000 in
theorem t_Mo_run_66 {G : Gc} {P : Int32 → Mm → Prop} (E : En G R_Mo b_Mo_run 4 p s mt args meth c) (hr : meth.sig.returnType = some .int) {K19 : Mm → Nat → Int32 → Int32 → Prop} (hK19 : ∀ (m : Mm) (v0 : Nat) (v1 : Int32) (v2 : Int32) (H : Heap) (locs : List Loc) (ls : Array Slot), K19 m v0 v1 v2 → pic G m H → va_S (fr G) s.heap H locs → lv_has ls 4 [(0, rn v0), (1, .int v1), (2, .int v2)] → W p l e rm_Mo_run s mt args below meth c H locs 0 0 (MQ below (PoI G P) args s 0 0 (fr G)) (F0 mt 19 ls [])) : ∀ (n : Nat) (m : Mm) (v0 : Nat) (v1 : Int32) (v2 : Int32) (v3 : Int32) (H : Heap) (locs : List Loc) (ls : Array Slot) (_ : wp_Mo_run_66 K19 P n m v0 v1 v2 v3) (_ : pic G m H) (_ : va_S (fr G) s.heap H locs) (_ : lv_has ls 4 [(0, rn v0), (1, .int v1), (2, .int v2), (3, .int v3)]), W p l e rm_Mo_run s mt args below meth c H locs 0 0 (MQ below (PoI G P) args s 0 0 (fr G)) (F0 mt 66 ls []) := by
  intro n
  induction n with
  | zero => intro m v0 v1 v2 v3 H locs ls h hp hS hl; exact h.elim
  | succ n ih =>
    intro m v0 v1 v2 v3 H locs ls h hp hS hl
    have hx := E.1
    have hb := E.2.1
    unfold wp_Mo_run_66 at h
    refine lv_iload_n hx hb d_Mo_run_66 rfl (lv_at hl 3 rfl) ?_
    refine lv_bipush (v := 40) hx hb d_Mo_run_67 (by decide) ?_
    refine lv_icmp_ge (tgt := 90) hx hb d_Mo_run_69 (by decide) (fun g_1 => ?_) (fun g_1 => ?_)
    · replace h := h.1 g_1
      refine lv_iconst (v := 1) hx hb d_Mo_run_90 (by decide) ?_
      refine lv_istore_n (lv' := [(3, .int 1), (0, rn v0), (1, .int v1), (2, .int v2)]) hx hb d_Mo_run_91 rfl hl (by decide) rfl (fun ls hl => ?_)
      obtain ⟨n_2, h⟩ := h
      exact t_Mo_run_92 E hr hK19 n_2 m v0 v1 v2 1 _ _ _ h hp hS (lv_sub hl [1, 2, 3, 0] rfl)
    · replace h := h.2 g_1
      refine rr_aload_n hx hb d_Mo_run_72 rfl (lv_at hl 0 rfl) ?_
      obtain ⟨g_4, h⟩ := h
      refine rg_Mo_resourceWas E hp g_4 lk_341 d_Mo_run_73 (fun x_3 ex_3 => ?_)
      replace h := h x_3 ex_3
      refine lv_iload_n hx hb d_Mo_run_76 rfl (lv_at hl 3 rfl) ?_
      refine rr_aload_n hx hb d_Mo_run_77 rfl (lv_at hl 0 rfl) ?_
      obtain ⟨g_6, h⟩ := h
      refine rg_Mo_resource E hp g_6 lk_332 d_Mo_run_78 (fun x_5 ex_5 => ?_)
      replace h := h x_5 ex_5
      refine lv_iload_n hx hb d_Mo_run_81 rfl (lv_at hl 3 rfl) ?_
      obtain ⟨g_8, g_9, h⟩ := h
      refine mp_iald (t0 := 1) E hp g_8 (by decide) rfl rfl g_9 d_Mo_run_82 (fun x_7 ex_7 => ?_)
      replace h := h x_7 ex_7
      obtain ⟨g_10, g_11, h⟩ := h
      refine mp_iast (t0 := 1) E hp hS g_10 (by decide) rfl cw_35 rfl g_11 d_Mo_run_83 (fun m_12 em_12 H locs hp hS => ?_)
      replace h := h m_12 em_12
      obtain ⟨x_13, ex_13⟩ : ∃ y : Int32, y = v3 + 1 := ⟨_, rfl⟩
      replace h := h x_13 ex_13
      refine lv_iinc (v := x_13) (lv' := [(3, .int x_13), (0, rn v0), (1, .int v1), (2, .int v2)]) hx hb d_Mo_run_84 hl (k := 3) rfl (by rw [ex_13]; rfl) (by decide) rfl (fun ls hl => ?_)
      refine lv_goto (tgt := 66) hx hb d_Mo_run_87 (by decide) ?_
      exact ih m_12 v0 v1 v2 x_13 _ _ _ h hp hS (lv_sub hl [1, 2, 3, 0] rfl)
set_option maxHeartbeats 4000000 in
set_option maxRecDepth 100000 in
theorem t_Mo_run_41 {G : Gc} {P : Int32 → Mm → Prop} (E : En G R_Mo b_Mo_run 4 p s mt args meth c) (hr : meth.sig.returnType = some .int) {K19 : Mm → Nat → Int32 → Int32 → Prop} (hK19 : ∀ (m : Mm) (v0 : Nat) (v1 : Int32) (v2 : Int32) (H : Heap) (locs : List Loc) (ls : Array Slot), K19 m v0 v1 v2 → pic G m H → va_S (fr G) s.heap H locs → lv_has ls 4 [(0, rn v0), (1, .int v1), (2, .int v2)] → W p l e rm_Mo_run s mt args below meth c H locs 0 0 (MQ below (PoI G P) args s 0 0 (fr G)) (F0 mt 19 ls [])) : ∀ (n : Nat) (m : Mm) (v0 : Nat) (v1 : Int32) (v2 : Int32) (v3 : Int32) (H : Heap) (locs : List Loc) (ls : Array Slot) (_ : wp_Mo_run_41 K19 P n m v0 v1 v2 v3) (_ : pic G m H) (_ : va_S (fr G) s.heap H locs) (_ : lv_has ls 4 [(0, rn v0), (1, .int v1), (2, .int v2), (3, .int v3)]), W p l e rm_Mo_run s mt args below meth c H locs 0 0 (MQ below (PoI G P) args s 0 0 (fr G)) (F0 mt 41 ls []) := by
  intro n
  induction n with
  | zero => intro m v0 v1 v2 v3 H locs ls h hp hS hl; exact h.elim
  | succ n ih =>
    intro m v0 v1 v2 v3 H locs ls h hp hS hl
    have hx := E.1
    have hb := E.2.1
    unfold wp_Mo_run_41 at h
    refine lv_iload_n hx hb d_Mo_run_41 rfl (lv_at hl 3 rfl) ?_
    refine lv_iconst (v := 4) hx hb d_Mo_run_42 (by decide) ?_
    refine lv_icmp_ge (tgt := 64) hx hb d_Mo_run_43 (by decide) (fun g_1 => ?_) (fun g_1 => ?_)
    · replace h := h.1 g_1
      refine lv_iconst (v := 0) hx hb d_Mo_run_64 (by decide) ?_
      refine lv_istore_n (lv' := [(3, .int 0), (0, rn v0), (1, .int v1), (2, .int v2)]) hx hb d_Mo_run_65 rfl hl (by decide) rfl (fun ls hl => ?_)
      obtain ⟨n_2, h⟩ := h
      exact t_Mo_run_66 E hr hK19 n_2 m v0 v1 v2 0 _ _ _ h hp hS (lv_sub hl [1, 2, 3, 0] rfl)
    · replace h := h.2 g_1
      refine rr_aload_n hx hb d_Mo_run_46 rfl (lv_at hl 0 rfl) ?_
      obtain ⟨g_4, h⟩ := h
      refine rg_Mo_settingWas E hp g_4 lk_340 d_Mo_run_47 (fun x_3 ex_3 => ?_)
      replace h := h x_3 ex_3
      refine lv_iload_n hx hb d_Mo_run_50 rfl (lv_at hl 3 rfl) ?_
      refine rr_aload_n hx hb d_Mo_run_51 rfl (lv_at hl 0 rfl) ?_
      obtain ⟨g_6, h⟩ := h
      refine rg_Mo_setting E hp g_6 lk_339 d_Mo_run_52 (fun x_5 ex_5 => ?_)
      replace h := h x_5 ex_5
      refine lv_iload_n hx hb d_Mo_run_55 rfl (lv_at hl 3 rfl) ?_
      obtain ⟨g_8, g_9, h⟩ := h
      refine mp_iald (t0 := 1) E hp g_8 (by decide) rfl rfl g_9 d_Mo_run_56 (fun x_7 ex_7 => ?_)
      replace h := h x_7 ex_7
      obtain ⟨g_10, g_11, h⟩ := h
      refine mp_iast (t0 := 1) E hp hS g_10 (by decide) rfl cw_34 rfl g_11 d_Mo_run_57 (fun m_12 em_12 H locs hp hS => ?_)
      replace h := h m_12 em_12
      obtain ⟨x_13, ex_13⟩ : ∃ y : Int32, y = v3 + 1 := ⟨_, rfl⟩
      replace h := h x_13 ex_13
      refine lv_iinc (v := x_13) (lv' := [(3, .int x_13), (0, rn v0), (1, .int v1), (2, .int v2)]) hx hb d_Mo_run_58 hl (k := 3) rfl (by rw [ex_13]; rfl) (by decide) rfl (fun ls hl => ?_)
      refine lv_goto (tgt := 41) hx hb d_Mo_run_61 (by decide) ?_
      exact ih m_12 v0 v1 v2 x_13 _ _ _ h hp hS (lv_sub hl [1, 2, 3, 0] rfl)
set_option maxHeartbeats 4000000 in
set_option maxRecDepth 100000 in
theorem t_Mo_run_19 {G : Gc} {P : Int32 → Mm → Prop} (E : En G R_Mo b_Mo_run 4 p s mt args meth c) (hr : meth.sig.returnType = some .int) : ∀ (n : Nat) (m : Mm) (v0 : Nat) (v1 : Int32) (v2 : Int32) (H : Heap) (locs : List Loc) (ls : Array Slot) (_ : wp_Mo_run_19 P n m v0 v1 v2) (_ : pic G m H) (_ : va_S (fr G) s.heap H locs) (_ : lv_has ls 4 [(0, rn v0), (1, .int v1), (2, .int v2)]), W p l e rm_Mo_run s mt args below meth c H locs 0 0 (MQ below (PoI G P) args s 0 0 (fr G)) (F0 mt 19 ls []) := by
  intro n
  induction n with
  | zero => intro m v0 v1 v2 H locs ls h hp hS hl; exact h.elim
  | succ n ih =>
    intro m v0 v1 v2 H locs ls h hp hS hl
    have hx := E.1
    have hb := E.2.1
    unfold wp_Mo_run_19 at h
    refine lv_iload_n hx hb d_Mo_run_19 rfl (lv_at hl 2 rfl) ?_
    refine rr_aload_n hx hb d_Mo_run_20 rfl (lv_at hl 0 rfl) ?_
    obtain ⟨g_2, h⟩ := h
    refine rg_Mo_jobs E hp g_2 lk_357 d_Mo_run_21 (fun x_1 ex_1 => ?_)
    replace h := h x_1 ex_1
    refine lv_icmp_ge (tgt := 260) hx hb d_Mo_run_24 (by decide) (fun g_3 => ?_) (fun g_3 => ?_)
    · replace h := h.1 g_3
      refine lv_iload_n hx hb d_Mo_run_260 rfl (lv_at hl 1 rfl) ?_
      exact mp_iret E hr hp hS h d_Mo_run_261
    · replace h := h.2 g_3
      refine rr_aload_n hx hb d_Mo_run_27 rfl (lv_at hl 0 rfl) ?_
      obtain ⟨g_5, h⟩ := h
      refine rg_Mo_told E hp g_5 lk_337 d_Mo_run_28 (fun x_4 ex_4 => ?_)
      replace h := h x_4 ex_4
      refine lv_bipush (v := 6) hx hb d_Mo_run_31 (by decide) ?_
      refine lv_iload_n hx hb d_Mo_run_33 rfl (lv_at hl 2 rfl) ?_
      refine lv_imul hx hb d_Mo_run_34 ?_
      refine lv_topi (fun x_6 ex_6 => ?_)
      replace h := h x_6 ex_6
      obtain ⟨g_8, g_9, h⟩ := h
      refine mp_iald (t0 := 1) E hp g_8 (by decide) rfl rfl g_9 d_Mo_run_35 (fun x_7 ex_7 => ?_)
      replace h := h x_7 ex_7
      refine lv_if_ne (tgt := 254) hx hb d_Mo_run_36 (by decide) (fun g_10 => ?_) (fun g_10 => ?_)
      · replace h := h.2 g_10
        exact t_Mo_run_254 E hr ih m v0 v1 v2 _ _ _ h hp hS (lv_sub hl [0, 1, 2] rfl)
      · replace h := h.1 g_10
        refine lv_iconst (v := 0) hx hb d_Mo_run_39 (by decide) ?_
        refine lv_istore_n (lv' := [(3, .int 0), (0, rn v0), (1, .int v1), (2, .int v2)]) hx hb d_Mo_run_40 rfl hl (by decide) rfl (fun ls hl => ?_)
        obtain ⟨n_11, h⟩ := h
        exact t_Mo_run_41 E hr ih n_11 m v0 v1 v2 0 _ _ _ h hp hS (lv_sub hl [1, 2, 3, 0] rfl)
set_option maxHeartbeats 4000000 in
set_option maxRecDepth 100000 in
theorem t_Mo_run_0 {G : Gc} {P : Int32 → Mm → Prop} (E : En G R_Mo b_Mo_run 4 p s mt args meth c) (hr : meth.sig.returnType = some .int) (m : Mm) (v0 : Nat) (H : Heap) (locs : List Loc) (ls : Array Slot) (h : wp_Mo_run_0 P m v0) (hp : pic G m H) (hS : va_S (fr G) s.heap H locs) (hl : lv_has ls 4 [(0, rn v0)]) : W p l e rm_Mo_run s mt args below meth c H locs 0 0 (MQ below (PoI G P) args s 0 0 (fr G)) (F0 mt 0 ls []) := by
  have hx := E.1
  have hb := E.2.1
  unfold wp_Mo_run_0 at h
  refine rr_aload_n hx hb d_Mo_run_0 rfl (lv_at hl 0 rfl) ?_
  refine lv_iconst (v := 0) hx hb d_Mo_run_1 (by decide) ?_
  obtain ⟨g_1, h⟩ := h
  refine rp_Mo_code E hp hS g_1 lk_356 d_Mo_run_2 (fun m_2 em_2 H locs hp hS => ?_)
  replace h := h m_2 em_2
  refine rr_aload_n hx hb d_Mo_run_5 rfl (lv_at hl 0 rfl) ?_
  obtain ⟨g_4, h⟩ := h
  refine rg_Mo_fails E hp g_4 lk_383 d_Mo_run_6 (fun x_3 ex_3 => ?_)
  replace h := h x_3 ex_3
  refine lv_if_eq (tgt := 15) hx hb d_Mo_run_9 (by decide) (fun g_5 => ?_) (fun g_5 => ?_)
  · replace h := h.1 g_5
    refine lv_iconst (v := 0) hx hb d_Mo_run_15 (by decide) ?_
    refine lv_istore_n (lv' := [(1, .int 0), (0, rn v0)]) hx hb d_Mo_run_16 rfl hl (by decide) (by simp [rn_cat]) (fun ls hl => ?_)
    refine lv_iconst (v := 0) hx hb d_Mo_run_17 (by decide) ?_
    refine lv_istore_n (lv' := [(2, .int 0), (1, .int 0), (0, rn v0)]) hx hb d_Mo_run_18 rfl hl (by decide) rfl (fun ls hl => ?_)
    obtain ⟨n_6, h⟩ := h
    exact t_Mo_run_19 E hr n_6 m_2 v0 0 0 _ _ _ h hp hS (lv_sub hl [2, 1, 0] rfl)
  · replace h := h.2 g_5
    refine lv_bipush (v := (-3)) hx hb d_Mo_run_12 (by decide) ?_
    exact mp_iret E hr hp hS h d_Mo_run_14
set_option maxHeartbeats 4000000 in
set_option maxRecDepth 100000 in
theorem c_Mo_run (l : Launch) (G : Gc) (m : Mm) (v0 : Nat) (P : Int32 → Mm → Prop) (h : wp_Mo_run m v0 P) : Met l y_Mo_run (Cond.code y_Mo_run b_Mo_run 4 (some .int) :: lw_good) rm_Mo_run (Pre9 G m [rn v0]) (PoI G P) 0 0 (fr G) := by
  refine Met.ofW (cc := b_Mo_run) (maxL := 4) (ret := (some .int)) (by decide) rfl ?_
  intro p e s mt args below meth c s₁ B hml hv
  obtain ⟨rfl, hp, hC⟩ := hv
  have hts := atoms_spec (ws := Cond.code y_Mo_run b_Mo_run 4 (some .int) :: lw_good) B.pre
  have E : En G R_Mo b_Mo_run 4 p s mt _ meth c := ⟨B.exec, B.bytes, hml, findClass_of_methodNamed B.named, fun w hw => hts w (List.mem_cons_of_mem _ hw), hC, B.notSynchronized⟩
  have hr := B.returns
  have hl := lv_entry [rn v0] (n := 4) (by simp [lg_sl, rn_cat, cat_int, cat_long, cat_ref, cat_null])
  rw [lg_entry_eq]
  generalize (lg_sl [rn v0] ++ List.replicate (4 - (lg_sl [rn v0]).length) Slot.unset).toArray = ls at hl ⊢
  have hl : lv_has ls 4 [(0, rn v0)] := by simpa [lv_args, rn_cat, cat_int, cat_long, cat_ref, cat_null] using hl
  exact t_Mo_run_0 E hr m v0 _ _ _ h hp va_S.rf (lv_sub hl [0] rfl)
abbrev rm_Law_cell : Room := { frames := 0, cells := 0, slots := 0, locals := 0 }
set_option maxHeartbeats 4000000 in
set_option maxRecDepth 100000 in
theorem t_Law_cell_0 {G : Gc} {P : Int32 → Mm → Prop} (E : En G R_Law b_Law_cell 2 p s mt args meth c) (hr : meth.sig.returnType = some .int) (m : Mm) (v1 : Int32) (H : Heap) (locs : List Loc) (ls : Array Slot) (h : wp_Law_cell_0 G.2.2.2.2.1 G.2.2.2.2.2 P m v1) (hp : pic G m H) (hS : va_S (fr G) s.heap H locs) (hl : lv_has ls 2 [(0, .ref (G.2.2.1 99)), (1, .int v1)]) : W p l e rm_Law_cell s mt args below meth c H locs 0 0 (MQ below (PoI G P) args s 0 0 (fr G)) (F0 mt 0 ls []) := by
  have hx := E.1
  have hb := E.2.1
  unfold wp_Law_cell_0 at h
  refine lv_iload_n hx hb d_Law_cell_0 rfl (lv_at hl 1 rfl) ?_
  refine lv_aload_n hx hb d_Law_cell_1 rfl (lv_at hl 0 rfl) ?_
  refine rx_len E hS d_Law_cell_2 (fun x_1 ex_1 => ?_)
  replace h := h x_1 ex_1
  refine lv_icmp_ge (tgt := 12) hx hb d_Law_cell_3 (by decide) (fun g_3 => ?_) (fun g_3 => ?_)
  · replace h := h.1 g_3
    refine lv_iconst (v := 0) hx hb d_Law_cell_12 (by decide) ?_
    exact mp_iret E hr hp hS h d_Law_cell_13
  · replace h := h.2 g_3
    refine lv_aload_n hx hb d_Law_cell_6 rfl (lv_at hl 0 rfl) ?_
    refine lv_iload_n hx hb d_Law_cell_7 rfl (lv_at hl 1 rfl) ?_
    obtain ⟨g_6, h⟩ := h
    refine rx_ld E hS g_6 d_Law_cell_8 (fun x_4 ex_4 => ?_)
    replace h := h x_4 ex_4
    refine lv_goto (tgt := 13) hx hb d_Law_cell_9 (by decide) ?_
    exact mp_iret E hr hp hS h d_Law_cell_13
set_option maxHeartbeats 4000000 in
set_option maxRecDepth 100000 in
theorem c_Law_cell (l : Launch) (G : Gc) (m : Mm) (v1 : Int32) (P : Int32 → Mm → Prop) (h : wp_Law_cell G.2.2.2.2.1 G.2.2.2.2.2 m v1 P) : Met l y_Law_cell (Cond.code y_Law_cell b_Law_cell 2 (some .int) :: lw_good) rm_Law_cell (Pre9 G m [.ref (G.2.2.1 99), .int v1]) (PoI G P) 0 0 (fr G) := by
  refine Met.ofW (cc := b_Law_cell) (maxL := 2) (ret := (some .int)) (by decide) rfl ?_
  intro p e s mt args below meth c s₁ B hml hv
  obtain ⟨rfl, hp, hC⟩ := hv
  have hts := atoms_spec (ws := Cond.code y_Law_cell b_Law_cell 2 (some .int) :: lw_good) B.pre
  have E : En G R_Law b_Law_cell 2 p s mt _ meth c := ⟨B.exec, B.bytes, hml, findClass_of_methodNamed B.named, fun w hw => hts w (List.mem_cons_of_mem _ hw), hC, B.notSynchronized⟩
  have hr := B.returns
  have hl := lv_entry [.ref (G.2.2.1 99), .int v1] (n := 2) (by simp [lg_sl, rn_cat, cat_int, cat_long, cat_ref, cat_null])
  rw [lg_entry_eq]
  generalize (lg_sl [.ref (G.2.2.1 99), .int v1] ++ List.replicate (2 - (lg_sl [.ref (G.2.2.1 99), .int v1]).length) Slot.unset).toArray = ls at hl ⊢
  have hl : lv_has ls 2 [(0, .ref (G.2.2.1 99)), (1, .int v1)] := by simpa [lv_args, rn_cat, cat_int, cat_long, cat_ref, cat_null] using hl
  exact t_Law_cell_0 E hr m v1 _ _ _ h hp va_S.rf (lv_sub hl [0, 1] rfl)
end WK
