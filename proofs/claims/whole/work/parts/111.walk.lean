section WK
variable {p : Program} {l : Launch} {e : Env} {s : State} {mt : MethodId} {args : Array Value} {below : List Frame} {meth : Method} {c : Code}
abbrev rm_Mo_opened : Room := { frames := 1, cells := 0, slots := 0, locals := 22 }
set_option maxHeartbeats 4000000 in
set_option maxRecDepth 100000 in
theorem t_Mo_opened_170 {G : Gc} {P : Int32 → Mm → Prop} (E : En G R_Mo b_Mo_opened 6 p s mt args meth c) (hr : meth.sig.returnType = some .int) (m : Mm) (v0 : Nat) (v1 : Int32) (v2 : Int32) (v4 : Int32) (s0 : Int32) (s1 : Int32) (s2 : Nat) (H : Heap) (locs : List Loc) (ls : Array Slot) (h : wp_Mo_opened_170 P m v0 v1 v2 v4 s0 s1 s2) (hp : pic G m H) (hS : va_S (fr G) s.heap H locs) (hl : lv_has ls 6 [(0, rn v0), (1, .int v1), (2, .int v2), (4, .int v4)]) : W p l e rm_Mo_opened s mt args below meth c H locs 0 0 (MQ below (PoI G P) args s 0 0 (fr G)) (F0 mt 170 ls [.int s0, .int s1, rn s2]) := by
  have hx := E.1
  have hb := E.2.1
  unfold wp_Mo_opened_170 at h
  obtain ⟨g_1, g_2, h⟩ := h
  refine mp_iast (t0 := 1) E hp hS g_1 (by decide) rfl cw_37 rfl g_2 d_Mo_opened_170 (fun m_3 em_3 H locs hp hS => ?_)
  replace h := h m_3 em_3
  refine rr_aload_n hx hb d_Mo_opened_171 rfl (lv_at hl 0 rfl) ?_
  obtain ⟨g_5, h⟩ := h
  refine rg_Mo_there E hp g_5 lk_342 d_Mo_opened_172 (fun x_4 ex_4 => ?_)
  replace h := h x_4 ex_4
  refine lv_iload_n hx hb d_Mo_opened_175 rfl (lv_at hl 1 rfl) ?_
  refine lv_iconst (v := 1) hx hb d_Mo_opened_176 (by decide) ?_
  obtain ⟨g_6, g_7, h⟩ := h
  refine mp_zast (t0 := 5) E hp hS g_6 (by decide) rfl cw_36 rfl g_7 d_Mo_opened_177 (fun m_8 em_8 H locs hp hS => ?_)
  replace h := h m_8 em_8
  refine rr_aload_n hx hb d_Mo_opened_178 rfl (lv_at hl 0 rfl) ?_
  obtain ⟨g_10, h⟩ := h
  refine rg_Mo_open E hp g_10 lk_330 d_Mo_opened_179 (fun x_9 ex_9 => ?_)
  replace h := h x_9 ex_9
  refine lv_iload hx hb d_Mo_opened_182 (lv_at hl 3 rfl) ?_
  refine lv_iconst (v := 1) hx hb d_Mo_opened_184 (by decide) ?_
  obtain ⟨g_11, g_12, h⟩ := h
  refine mp_zast (t0 := 5) E hp hS g_11 (by decide) rfl cw_40 rfl g_12 d_Mo_opened_185 (fun m_13 em_13 H locs hp hS => ?_)
  replace h := h m_13 em_13
  refine rr_aload_n hx hb d_Mo_opened_186 rfl (lv_at hl 0 rfl) ?_
  obtain ⟨g_15, h⟩ := h
  refine rg_Mo_name E hp g_15 lk_346 d_Mo_opened_187 (fun x_14 ex_14 => ?_)
  replace h := h x_14 ex_14
  refine lv_iload hx hb d_Mo_opened_190 (lv_at hl 3 rfl) ?_
  refine lv_iload_n hx hb d_Mo_opened_192 rfl (lv_at hl 1 rfl) ?_
  obtain ⟨g_16, g_17, h⟩ := h
  refine mp_iast (t0 := 1) E hp hS g_16 (by decide) rfl cw_41 rfl g_17 d_Mo_opened_193 (fun m_18 em_18 H locs hp hS => ?_)
  replace h := h m_18 em_18
  refine rr_aload_n hx hb d_Mo_opened_194 rfl (lv_at hl 0 rfl) ?_
  obtain ⟨g_20, h⟩ := h
  refine rg_Mo_mode E hp g_20 lk_331 d_Mo_opened_195 (fun x_19 ex_19 => ?_)
  replace h := h x_19 ex_19
  refine lv_iload hx hb d_Mo_opened_198 (lv_at hl 3 rfl) ?_
  refine lv_iload_n hx hb d_Mo_opened_200 rfl (lv_at hl 2 rfl) ?_
  obtain ⟨g_21, g_22, h⟩ := h
  refine mp_iast (t0 := 1) E hp hS g_21 (by decide) rfl cw_42 rfl g_22 d_Mo_opened_201 (fun m_23 em_23 H locs hp hS => ?_)
  replace h := h m_23 em_23
  refine rr_aload_n hx hb d_Mo_opened_202 rfl (lv_at hl 0 rfl) ?_
  obtain ⟨g_25, h⟩ := h
  refine rg_Mo_place E hp g_25 lk_347 d_Mo_opened_203 (fun x_24 ex_24 => ?_)
  replace h := h x_24 ex_24
  refine lv_iload hx hb d_Mo_opened_206 (lv_at hl 3 rfl) ?_
  refine lv_iconst (v := 0) hx hb d_Mo_opened_208 (by decide) ?_
  obtain ⟨g_26, g_27, h⟩ := h
  refine mp_iast (t0 := 1) E hp hS g_26 (by decide) rfl cw_43 rfl g_27 d_Mo_opened_209 (fun m_28 em_28 H locs hp hS => ?_)
  replace h := h m_28 em_28
  refine rr_aload_n hx hb d_Mo_opened_210 rfl (lv_at hl 0 rfl) ?_
  obtain ⟨g_30, h⟩ := h
  refine rg_Mo_filters E hp g_30 lk_348 d_Mo_opened_211 (fun x_29 ex_29 => ?_)
  replace h := h x_29 ex_29
  refine lv_iload hx hb d_Mo_opened_214 (lv_at hl 3 rfl) ?_
  refine lv_iconst (v := 0) hx hb d_Mo_opened_216 (by decide) ?_
  obtain ⟨g_31, g_32, h⟩ := h
  refine mp_iast (t0 := 1) E hp hS g_31 (by decide) rfl cw_44 rfl g_32 d_Mo_opened_217 (fun m_33 em_33 H locs hp hS => ?_)
  replace h := h m_33 em_33
  refine lv_iload hx hb d_Mo_opened_218 (lv_at hl 3 rfl) ?_
  exact mp_iret E hr hp hS h d_Mo_opened_220
set_option maxHeartbeats 4000000 in
set_option maxRecDepth 100000 in
theorem t_Mo_opened_160 {G : Gc} {P : Int32 → Mm → Prop} (E : En G R_Mo b_Mo_opened 6 p s mt args meth c) (hr : meth.sig.returnType = some .int) (m : Mm) (v0 : Nat) (v1 : Int32) (v2 : Int32) (v4 : Int32) (s0 : Int32) (s1 : Nat) (H : Heap) (locs : List Loc) (ls : Array Slot) (h : wp_Mo_opened_160 P m v0 v1 v2 v4 s0 s1) (hp : pic G m H) (hS : va_S (fr G) s.heap H locs) (hl : lv_has ls 6 [(0, rn v0), (1, .int v1), (2, .int v2), (4, .int v4)]) : W p l e rm_Mo_opened s mt args below meth c H locs 0 0 (MQ below (PoI G P) args s 0 0 (fr G)) (F0 mt 160 ls [.int s0, rn s1]) := by
  have hx := E.1
  have hb := E.2.1
  unfold wp_Mo_opened_160 at h
  refine lv_iconst (v := 0) hx hb d_Mo_opened_160 (by decide) ?_
  refine lv_goto (tgt := 170) hx hb d_Mo_opened_161 (by decide) ?_
  exact t_Mo_opened_170 E hr m v0 v1 v2 v4 0 s0 s1 _ _ _ h hp hS (lv_sub hl [0, 1, 2, 3] rfl)
set_option maxHeartbeats 4000000 in
set_option maxRecDepth 100000 in
theorem t_Mo_opened_119 {G : Gc} {P : Int32 → Mm → Prop} (E : En G R_Mo b_Mo_opened 6 p s mt args meth c) (hr : meth.sig.returnType = some .int) {K50 : Mm → Nat → Int32 → Int32 → Int32 → Int32 → Int32 → Prop} (hK50 : ∀ (m : Mm) (v0 : Nat) (v1 : Int32) (v2 : Int32) (v3 : Int32) (v4 : Int32) (v5 : Int32) (H : Heap) (locs : List Loc) (ls : Array Slot), K50 m v0 v1 v2 v3 v4 v5 → pic G m H → va_S (fr G) s.heap H locs → lv_has ls 6 [(0, rn v0), (1, .int v1), (2, .int v2), (3, .int v3), (4, .int v4), (5, .int v5)] → W p l e rm_Mo_opened s mt args below meth c H locs 0 0 (MQ below (PoI G P) args s 0 0 (fr G)) (F0 mt 50 ls [])) (m : Mm) (v0 : Nat) (v1 : Int32) (v2 : Int32) (v4 : Int32) (v5 : Int32) (s0 : Int32) (H : Heap) (locs : List Loc) (ls : Array Slot) (h : wp_Mo_opened_119 K50 P m v0 v1 v2 v4 v5 s0) (hp : pic G m H) (hS : va_S (fr G) s.heap H locs) (hl : lv_has ls 6 [(0, rn v0), (1, .int v1), (2, .int v2), (4, .int v4), (5, .int v5)]) : W p l e rm_Mo_opened s mt args below meth c H locs 0 0 (MQ below (PoI G P) args s 0 0 (fr G)) (F0 mt 119 ls [.int s0]) := by
  have hx := E.1
  have hb := E.2.1
  unfold wp_Mo_opened_119 at h
  refine lv_istore_n (lv' := [(3, .int s0), (0, rn v0), (1, .int v1), (2, .int v2), (4, .int v4), (5, .int v5)]) hx hb d_Mo_opened_119 rfl hl (by decide) rfl (fun ls hl => ?_)
  obtain ⟨x_1, ex_1⟩ : ∃ y : Int32, y = v5 + (-1) := ⟨_, rfl⟩
  replace h := h x_1 ex_1
  refine lv_iinc (v := x_1) (lv' := [(5, .int x_1), (3, .int s0), (0, rn v0), (1, .int v1), (2, .int v2), (4, .int v4)]) hx hb d_Mo_opened_120 hl (k := 5) rfl (by rw [ex_1]; rfl) (by decide) rfl (fun ls hl => ?_)
  refine lv_goto (tgt := 50) hx hb d_Mo_opened_123 (by decide) ?_
  exact hK50 m v0 v1 v2 s0 v4 x_1 _ _ _ h hp hS (lv_sub hl [2, 3, 4, 1, 5, 0] rfl)
set_option maxHeartbeats 4000000 in
set_option maxRecDepth 100000 in
theorem t_Mo_opened_118 {G : Gc} {P : Int32 → Mm → Prop} (E : En G R_Mo b_Mo_opened 6 p s mt args meth c) (hr : meth.sig.returnType = some .int) {K50 : Mm → Nat → Int32 → Int32 → Int32 → Int32 → Int32 → Prop} (hK50 : ∀ (m : Mm) (v0 : Nat) (v1 : Int32) (v2 : Int32) (v3 : Int32) (v4 : Int32) (v5 : Int32) (H : Heap) (locs : List Loc) (ls : Array Slot), K50 m v0 v1 v2 v3 v4 v5 → pic G m H → va_S (fr G) s.heap H locs → lv_has ls 6 [(0, rn v0), (1, .int v1), (2, .int v2), (3, .int v3), (4, .int v4), (5, .int v5)] → W p l e rm_Mo_opened s mt args below meth c H locs 0 0 (MQ below (PoI G P) args s 0 0 (fr G)) (F0 mt 50 ls [])) (m : Mm) (v0 : Nat) (v1 : Int32) (v2 : Int32) (v4 : Int32) (v5 : Int32) (H : Heap) (locs : List Loc) (ls : Array Slot) (h : wp_Mo_opened_118 K50 P m v0 v1 v2 v4 v5) (hp : pic G m H) (hS : va_S (fr G) s.heap H locs) (hl : lv_has ls 6 [(0, rn v0), (1, .int v1), (2, .int v2), (4, .int v4), (5, .int v5)]) : W p l e rm_Mo_opened s mt args below meth c H locs 0 0 (MQ below (PoI G P) args s 0 0 (fr G)) (F0 mt 118 ls []) := by
  have hx := E.1
  have hb := E.2.1
  unfold wp_Mo_opened_118 at h
  refine lv_iconst (v := 0) hx hb d_Mo_opened_118 (by decide) ?_
  exact t_Mo_opened_119 E hr hK50 m v0 v1 v2 v4 v5 0 _ _ _ h hp hS (lv_sub hl [0, 1, 2, 3, 4] rfl)
set_option maxHeartbeats 4000000 in
set_option maxRecDepth 100000 in
theorem t_Mo_opened_114 {G : Gc} {P : Int32 → Mm → Prop} (E : En G R_Mo b_Mo_opened 6 p s mt args meth c) (hr : meth.sig.returnType = some .int) {K50 : Mm → Nat → Int32 → Int32 → Int32 → Int32 → Int32 → Prop} (hK50 : ∀ (m : Mm) (v0 : Nat) (v1 : Int32) (v2 : Int32) (v3 : Int32) (v4 : Int32) (v5 : Int32) (H : Heap) (locs : List Loc) (ls : Array Slot), K50 m v0 v1 v2 v3 v4 v5 → pic G m H → va_S (fr G) s.heap H locs → lv_has ls 6 [(0, rn v0), (1, .int v1), (2, .int v2), (3, .int v3), (4, .int v4), (5, .int v5)] → W p l e rm_Mo_opened s mt args below meth c H locs 0 0 (MQ below (PoI G P) args s 0 0 (fr G)) (F0 mt 50 ls [])) (m : Mm) (v0 : Nat) (v1 : Int32) (v2 : Int32) (v4 : Int32) (v5 : Int32) (H : Heap) (locs : List Loc) (ls : Array Slot) (h : wp_Mo_opened_114 K50 P m v0 v1 v2 v4 v5) (hp : pic G m H) (hS : va_S (fr G) s.heap H locs) (hl : lv_has ls 6 [(0, rn v0), (1, .int v1), (2, .int v2), (4, .int v4), (5, .int v5)]) : W p l e rm_Mo_opened s mt args below meth c H locs 0 0 (MQ below (PoI G P) args s 0 0 (fr G)) (F0 mt 114 ls []) := by
  have hx := E.1
  have hb := E.2.1
  unfold wp_Mo_opened_114 at h
  refine lv_iconst (v := 1) hx hb d_Mo_opened_114 (by decide) ?_
  refine lv_goto (tgt := 119) hx hb d_Mo_opened_115 (by decide) ?_
  exact t_Mo_opened_119 E hr hK50 m v0 v1 v2 v4 v5 1 _ _ _ h hp hS (lv_sub hl [0, 1, 2, 3, 4] rfl)
set_option maxHeartbeats 4000000 in
set_option maxRecDepth 100000 in
theorem t_Mo_opened_73 {G : Gc} {P : Int32 → Mm → Prop} (E : En G R_Mo b_Mo_opened 6 p s mt args meth c) (hr : meth.sig.returnType = some .int) {K50 : Mm → Nat → Int32 → Int32 → Int32 → Int32 → Int32 → Prop} (hK50 : ∀ (m : Mm) (v0 : Nat) (v1 : Int32) (v2 : Int32) (v3 : Int32) (v4 : Int32) (v5 : Int32) (H : Heap) (locs : List Loc) (ls : Array Slot), K50 m v0 v1 v2 v3 v4 v5 → pic G m H → va_S (fr G) s.heap H locs → lv_has ls 6 [(0, rn v0), (1, .int v1), (2, .int v2), (3, .int v3), (4, .int v4), (5, .int v5)] → W p l e rm_Mo_opened s mt args below meth c H locs 0 0 (MQ below (PoI G P) args s 0 0 (fr G)) (F0 mt 50 ls [])) (m : Mm) (v0 : Nat) (v1 : Int32) (v2 : Int32) (v3 : Int32) (v5 : Int32) (s0 : Int32) (H : Heap) (locs : List Loc) (ls : Array Slot) (h : wp_Mo_opened_73 K50 P m v0 v1 v2 v3 v5 s0) (hp : pic G m H) (hS : va_S (fr G) s.heap H locs) (hl : lv_has ls 6 [(0, rn v0), (1, .int v1), (2, .int v2), (3, .int v3), (5, .int v5)]) : W p l e rm_Mo_opened s mt args below meth c H locs 0 0 (MQ below (PoI G P) args s 0 0 (fr G)) (F0 mt 73 ls [.int s0]) := by
  have hx := E.1
  have hb := E.2.1
  unfold wp_Mo_opened_73 at h
  refine lv_istore (lv' := [(4, .int s0), (0, rn v0), (1, .int v1), (2, .int v2), (3, .int v3), (5, .int v5)]) hx hb d_Mo_opened_73 hl (by decide) rfl (fun ls hl => ?_)
  refine lv_iload_n hx hb d_Mo_opened_75 rfl (lv_at hl 4 rfl) ?_
  refine lv_if_eq (tgt := 118) hx hb d_Mo_opened_76 (by decide) (fun g_1 => ?_) (fun g_1 => ?_)
  · replace h := h.1 g_1
    exact t_Mo_opened_118 E hr hK50 m v0 v1 v2 s0 v5 _ _ _ h hp hS (lv_sub hl [1, 2, 3, 0, 5] rfl)
  · replace h := h.2 g_1
    refine rr_aload_n hx hb d_Mo_opened_79 rfl (lv_at hl 1 rfl) ?_
    obtain ⟨g_3, h⟩ := h
    refine rg_Mo_open E hp g_3 lk_330 d_Mo_opened_80 (fun x_2 ex_2 => ?_)
    replace h := h x_2 ex_2
    refine lv_iload hx hb d_Mo_opened_83 (lv_at hl 5 rfl) ?_
    obtain ⟨g_5, g_6, h⟩ := h
    refine mp_zald (t0 := 5) E hp g_5 (by decide) rfl rfl g_6 d_Mo_opened_85 (fun x_4 ex_4 => ?_)
    replace h := h x_4 ex_4
    refine lv_if_eq (tgt := 114) hx hb d_Mo_opened_86 (by decide) (fun g_7 => ?_) (fun g_7 => ?_)
    · replace h := h.1 g_7
      exact t_Mo_opened_114 E hr hK50 m v0 v1 v2 s0 v5 _ _ _ h hp hS (lv_sub hl [1, 2, 3, 0, 5] rfl)
    · replace h := h.2 g_7
      refine rr_aload_n hx hb d_Mo_opened_89 rfl (lv_at hl 1 rfl) ?_
      obtain ⟨g_9, h⟩ := h
      refine rg_Mo_name E hp g_9 lk_346 d_Mo_opened_90 (fun x_8 ex_8 => ?_)
      replace h := h x_8 ex_8
      refine lv_iload hx hb d_Mo_opened_93 (lv_at hl 5 rfl) ?_
      obtain ⟨g_11, g_12, h⟩ := h
      refine mp_iald (t0 := 1) E hp g_11 (by decide) rfl rfl g_12 d_Mo_opened_95 (fun x_10 ex_10 => ?_)
      replace h := h x_10 ex_10
      refine lv_iload_n hx hb d_Mo_opened_96 rfl (lv_at hl 2 rfl) ?_
      refine lv_icmp_ne (tgt := 114) hx hb d_Mo_opened_97 (by decide) (fun g_13 => ?_) (fun g_13 => ?_)
      · replace h := h.2 g_13
        exact t_Mo_opened_114 E hr hK50 m v0 v1 v2 s0 v5 _ _ _ h hp hS (lv_sub hl [1, 2, 3, 0, 5] rfl)
      · replace h := h.1 g_13
        refine lv_iload_n hx hb d_Mo_opened_100 rfl (lv_at hl 3 rfl) ?_
        refine lv_if_gt (tgt := 118) hx hb d_Mo_opened_101 (by decide) (fun g_14 => ?_) (fun g_14 => ?_)
        · replace h := h.1 g_14
          exact t_Mo_opened_118 E hr hK50 m v0 v1 v2 s0 v5 _ _ _ h hp hS (lv_sub hl [1, 2, 3, 0, 5] rfl)
        · replace h := h.2 g_14
          refine rr_aload_n hx hb d_Mo_opened_104 rfl (lv_at hl 1 rfl) ?_
          obtain ⟨g_16, h⟩ := h
          refine rg_Mo_mode E hp g_16 lk_331 d_Mo_opened_105 (fun x_15 ex_15 => ?_)
          replace h := h x_15 ex_15
          refine lv_iload hx hb d_Mo_opened_108 (lv_at hl 5 rfl) ?_
          obtain ⟨g_18, g_19, h⟩ := h
          refine mp_iald (t0 := 1) E hp g_18 (by decide) rfl rfl g_19 d_Mo_opened_110 (fun x_17 ex_17 => ?_)
          replace h := h x_17 ex_17
          refine lv_if_gt (tgt := 118) hx hb d_Mo_opened_111 (by decide) (fun g_20 => ?_) (fun g_20 => ?_)
          · replace h := h.1 g_20
            exact t_Mo_opened_118 E hr hK50 m v0 v1 v2 s0 v5 _ _ _ h hp hS (lv_sub hl [1, 2, 3, 0, 5] rfl)
          · replace h := h.2 g_20
            exact t_Mo_opened_114 E hr hK50 m v0 v1 v2 s0 v5 _ _ _ h hp hS (lv_sub hl [1, 2, 3, 0, 5] rfl)
set_option maxHeartbeats 4000000 in
set_option maxRecDepth 100000 in
theorem t_Mo_opened_50 {G : Gc} {P : Int32 → Mm → Prop} (E : En G R_Mo b_Mo_opened 6 p s mt args meth c) (hr : meth.sig.returnType = some .int) : ∀ (n : Nat) (m : Mm) (v0 : Nat) (v1 : Int32) (v2 : Int32) (v3 : Int32) (v4 : Int32) (v5 : Int32) (H : Heap) (locs : List Loc) (ls : Array Slot) (_ : wp_Mo_opened_50 P n m v0 v1 v2 v3 v4 v5) (_ : pic G m H) (_ : va_S (fr G) s.heap H locs) (_ : lv_has ls 6 [(0, rn v0), (1, .int v1), (2, .int v2), (3, .int v3), (4, .int v4), (5, .int v5)]), W p l e rm_Mo_opened s mt args below meth c H locs 0 0 (MQ below (PoI G P) args s 0 0 (fr G)) (F0 mt 50 ls []) := by
  intro n
  induction n with
  | zero => intro m v0 v1 v2 v3 v4 v5 H locs ls h hp hS hl; exact h.elim
  | succ n ih =>
    intro m v0 v1 v2 v3 v4 v5 H locs ls h hp hS hl
    have hx := E.1
    have hb := E.2.1
    unfold wp_Mo_opened_50 at h
    refine lv_iload hx hb d_Mo_opened_50 (lv_at hl 5 rfl) ?_
    refine lv_iconst (v := 1) hx hb d_Mo_opened_52 (by decide) ?_
    refine lv_icmp_le (tgt := 126) hx hb d_Mo_opened_53 (by decide) (fun g_1 => ?_) (fun g_1 => ?_)
    · replace h := h.1 g_1
      refine lv_iload_n hx hb d_Mo_opened_126 rfl (lv_at hl 3 rfl) ?_
      refine lv_if_ne (tgt := 133) hx hb d_Mo_opened_127 (by decide) (fun g_2 => ?_) (fun g_2 => ?_)
      · replace h := h.2 g_2
        refine lv_iload hx hb d_Mo_opened_133 (lv_at hl 4 rfl) ?_
        refine lv_if_ge (tgt := 141) hx hb d_Mo_opened_135 (by decide) (fun g_3 => ?_) (fun g_3 => ?_)
        · replace h := h.1 g_3
          refine rr_aload_n hx hb d_Mo_opened_141 rfl (lv_at hl 0 rfl) ?_
          obtain ⟨g_5, h⟩ := h
          refine rg_Mo_length E hp g_5 lk_343 d_Mo_opened_142 (fun x_4 ex_4 => ?_)
          replace h := h x_4 ex_4
          refine lv_iload_n hx hb d_Mo_opened_145 rfl (lv_at hl 1 rfl) ?_
          refine lv_iload_n hx hb d_Mo_opened_146 rfl (lv_at hl 2 rfl) ?_
          refine lv_iconst (v := 1) hx hb d_Mo_opened_147 (by decide) ?_
          refine lv_icmp_eq (tgt := 160) hx hb d_Mo_opened_148 (by decide) (fun g_6 => ?_) (fun g_6 => ?_)
          · replace h := h.1 g_6
            exact t_Mo_opened_160 E hr m v0 v1 v2 v4 v1 x_4 _ _ _ h hp hS (lv_sub hl [0, 1, 2, 4] rfl)
          · replace h := h.2 g_6
            refine rr_aload_n hx hb d_Mo_opened_151 rfl (lv_at hl 0 rfl) ?_
            obtain ⟨g_8, h⟩ := h
            refine rg_Mo_there E hp g_8 lk_342 d_Mo_opened_152 (fun x_7 ex_7 => ?_)
            replace h := h x_7 ex_7
            refine lv_iload_n hx hb d_Mo_opened_155 rfl (lv_at hl 1 rfl) ?_
            obtain ⟨g_10, g_11, h⟩ := h
            refine mp_zald (t0 := 5) E hp g_10 (by decide) rfl rfl g_11 d_Mo_opened_156 (fun x_9 ex_9 => ?_)
            replace h := h x_9 ex_9
            refine lv_if_ne (tgt := 164) hx hb d_Mo_opened_157 (by decide) (fun g_12 => ?_) (fun g_12 => ?_)
            · replace h := h.2 g_12
              refine rr_aload_n hx hb d_Mo_opened_164 rfl (lv_at hl 0 rfl) ?_
              obtain ⟨g_14, h⟩ := h
              refine rg_Mo_length E hp g_14 lk_343 d_Mo_opened_165 (fun x_13 ex_13 => ?_)
              replace h := h x_13 ex_13
              refine lv_iload_n hx hb d_Mo_opened_168 rfl (lv_at hl 1 rfl) ?_
              obtain ⟨g_16, g_17, h⟩ := h
              refine mp_iald (t0 := 1) E hp g_16 (by decide) rfl rfl g_17 d_Mo_opened_169 (fun x_15 ex_15 => ?_)
              replace h := h x_15 ex_15
              exact t_Mo_opened_170 E hr m v0 v1 v2 v4 x_15 v1 x_4 _ _ _ h hp hS (lv_sub hl [0, 1, 2, 4] rfl)
            · replace h := h.1 g_12
              exact t_Mo_opened_160 E hr m v0 v1 v2 v4 v1 x_4 _ _ _ h hp hS (lv_sub hl [0, 1, 2, 4] rfl)
        · replace h := h.2 g_3
          refine lv_bipush (v := (-4)) hx hb d_Mo_opened_138 (by decide) ?_
          exact mp_iret E hr hp hS h d_Mo_opened_140
      · replace h := h.1 g_2
        refine lv_bipush (v := (-3)) hx hb d_Mo_opened_130 (by decide) ?_
        exact mp_iret E hr hp hS h d_Mo_opened_132
    · replace h := h.2 g_1
      refine rr_aload_n hx hb d_Mo_opened_56 rfl (lv_at hl 0 rfl) ?_
      obtain ⟨g_19, h⟩ := h
      refine rg_Mo_open E hp g_19 lk_330 d_Mo_opened_57 (fun x_18 ex_18 => ?_)
      replace h := h x_18 ex_18
      refine lv_iload hx hb d_Mo_opened_60 (lv_at hl 5 rfl) ?_
      obtain ⟨g_21, g_22, h⟩ := h
      refine mp_zald (t0 := 5) E hp g_21 (by decide) rfl rfl g_22 d_Mo_opened_62 (fun x_20 ex_20 => ?_)
      replace h := h x_20 ex_20
      refine lv_if_eq (tgt := 71) hx hb d_Mo_opened_63 (by decide) (fun g_23 => ?_) (fun g_23 => ?_)
      · replace h := h.1 g_23
        refine lv_iload hx hb d_Mo_opened_71 (lv_at hl 5 rfl) ?_
        exact t_Mo_opened_73 E hr ih m v0 v1 v2 v3 v5 v5 _ _ _ h hp hS (lv_sub hl [0, 1, 2, 3, 5] rfl)
      · replace h := h.2 g_23
        refine lv_iload hx hb d_Mo_opened_66 (lv_at hl 4 rfl) ?_
        refine lv_goto (tgt := 73) hx hb d_Mo_opened_68 (by decide) ?_
        exact t_Mo_opened_73 E hr ih m v0 v1 v2 v3 v5 v4 _ _ _ h hp hS (lv_sub hl [0, 1, 2, 3, 5] rfl)
set_option maxHeartbeats 4000000 in
set_option maxRecDepth 100000 in
theorem t_Mo_opened_42 {G : Gc} {P : Int32 → Mm → Prop} (E : En G R_Mo b_Mo_opened 6 p s mt args meth c) (hr : meth.sig.returnType = some .int) (m : Mm) (v0 : Nat) (v1 : Int32) (v2 : Int32) (s0 : Int32) (H : Heap) (locs : List Loc) (ls : Array Slot) (h : wp_Mo_opened_42 P m v0 v1 v2 s0) (hp : pic G m H) (hS : va_S (fr G) s.heap H locs) (hl : lv_has ls 6 [(0, rn v0), (1, .int v1), (2, .int v2)]) : W p l e rm_Mo_opened s mt args below meth c H locs 0 0 (MQ below (PoI G P) args s 0 0 (fr G)) (F0 mt 42 ls [.int s0]) := by
  have hx := E.1
  have hb := E.2.1
  unfold wp_Mo_opened_42 at h
  refine lv_istore_n (lv' := [(3, .int s0), (0, rn v0), (1, .int v1), (2, .int v2)]) hx hb d_Mo_opened_42 rfl hl (by decide) rfl (fun ls hl => ?_)
  refine lv_iconst (v := (-1)) hx hb d_Mo_opened_43 (by decide) ?_
  refine lv_istore (lv' := [(4, .int (-1)), (3, .int s0), (0, rn v0), (1, .int v1), (2, .int v2)]) hx hb d_Mo_opened_44 hl (by decide) rfl (fun ls hl => ?_)
  refine lv_bipush (v := 7) hx hb d_Mo_opened_46 (by decide) ?_
  refine lv_istore (lv' := [(5, .int 7), (4, .int (-1)), (3, .int s0), (0, rn v0), (1, .int v1), (2, .int v2)]) hx hb d_Mo_opened_48 hl (by decide) rfl (fun ls hl => ?_)
  obtain ⟨n_1, h⟩ := h
  exact t_Mo_opened_50 E hr n_1 m v0 v1 v2 s0 (-1) 7 _ _ _ h hp hS (lv_sub hl [3, 4, 5, 2, 1, 0] rfl)
set_option maxHeartbeats 4000000 in
set_option maxRecDepth 100000 in
theorem t_Mo_opened_37 {G : Gc} {P : Int32 → Mm → Prop} (E : En G R_Mo b_Mo_opened 6 p s mt args meth c) (hr : meth.sig.returnType = some .int) (m : Mm) (v0 : Nat) (v1 : Int32) (v2 : Int32) (H : Heap) (locs : List Loc) (ls : Array Slot) (h : wp_Mo_opened_37 P m v0 v1 v2) (hp : pic G m H) (hS : va_S (fr G) s.heap H locs) (hl : lv_has ls 6 [(0, rn v0), (1, .int v1), (2, .int v2)]) : W p l e rm_Mo_opened s mt args below meth c H locs 0 0 (MQ below (PoI G P) args s 0 0 (fr G)) (F0 mt 37 ls []) := by
  have hx := E.1
  have hb := E.2.1
  unfold wp_Mo_opened_37 at h
  refine lv_iconst (v := 1) hx hb d_Mo_opened_37 (by decide) ?_
  refine lv_goto (tgt := 42) hx hb d_Mo_opened_38 (by decide) ?_
  exact t_Mo_opened_42 E hr m v0 v1 v2 1 _ _ _ h hp hS (lv_sub hl [0, 1, 2] rfl)
set_option maxHeartbeats 4000000 in
set_option maxRecDepth 100000 in
theorem t_Mo_opened_0 {G : Gc} {P : Int32 → Mm → Prop} (E : En G R_Mo b_Mo_opened 6 p s mt args meth c) (hr : meth.sig.returnType = some .int) (m : Mm) (v0 : Nat) (v1 : Int32) (v2 : Int32) (H : Heap) (locs : List Loc) (ls : Array Slot) (h : wp_Mo_opened_0 P m v0 v1 v2) (hp : pic G m H) (hS : va_S (fr G) s.heap H locs) (hl : lv_has ls 6 [(0, rn v0), (1, .int v1), (2, .int v2)]) : W p l e rm_Mo_opened s mt args below meth c H locs 0 0 (MQ below (PoI G P) args s 0 0 (fr G)) (F0 mt 0 ls []) := by
  have hx := E.1
  have hb := E.2.1
  unfold wp_Mo_opened_0 at h
  refine lv_iload_n hx hb d_Mo_opened_0 rfl (lv_at hl 1 rfl) ?_
  refine lv_iconst (v := 0) hx hb d_Mo_opened_1 (by decide) ?_
  refine lv_bipush (v := 9) hx hb d_Mo_opened_2 (by decide) ?_
  refine mc_i hS (mc_runS (As := [.int v1, .int 0, .int 9]) (rest := []) E (c_Mo_in l G m v1 0 9 _ h) wd_Mo_in ⟨lk_361, lk_362⟩ rfl rfl ⟨Nat.le_of_ble_eq_true rfl, Nat.le_of_ble_eq_true rfl⟩ hp hS rfl hl.1 rfl (lv_room (Nat.le_of_ble_eq_true rfl)) d_Mo_opened_4 ⟨Nat.le_of_ble_eq_true rfl, Nat.le_of_ble_eq_true rfl⟩) (fun r_2 m_1 h H locs hp hS => ?_)
  try dsimp only at h
  refine lv_if_ne (tgt := 12) hx hb d_Mo_opened_7 (by decide) (fun g_3 => ?_) (fun g_3 => ?_)
  · replace h := h.2 g_3
    refine lv_iload_n hx hb d_Mo_opened_12 rfl (lv_at hl 2 rfl) ?_
    refine lv_iconst (v := 0) hx hb d_Mo_opened_13 (by decide) ?_
    refine lv_iconst (v := 2) hx hb d_Mo_opened_14 (by decide) ?_
    refine mc_i hS (mc_runS (As := [.int v2, .int 0, .int 2]) (rest := []) E (c_Mo_in l G m_1 v2 0 2 _ h) wd_Mo_in ⟨lk_361, lk_362⟩ rfl rfl ⟨Nat.le_of_ble_eq_true rfl, Nat.le_of_ble_eq_true rfl⟩ hp hS rfl hl.1 rfl (lv_room (Nat.le_of_ble_eq_true rfl)) d_Mo_opened_15 ⟨Nat.le_of_ble_eq_true rfl, Nat.le_of_ble_eq_true rfl⟩) (fun r_5 m_4 h H locs hp hS => ?_)
    try dsimp only at h
    refine lv_if_ne (tgt := 24) hx hb d_Mo_opened_18 (by decide) (fun g_6 => ?_) (fun g_6 => ?_)
    · replace h := h.2 g_6
      refine lv_iload_n hx hb d_Mo_opened_24 rfl (lv_at hl 2 rfl) ?_
      refine lv_if_gt (tgt := 37) hx hb d_Mo_opened_25 (by decide) (fun g_7 => ?_) (fun g_7 => ?_)
      · replace h := h.1 g_7
        exact t_Mo_opened_37 E hr m_4 v0 v1 v2 _ _ _ h hp hS (lv_sub hl [0, 1, 2] rfl)
      · replace h := h.2 g_7
        refine rr_aload_n hx hb d_Mo_opened_28 rfl (lv_at hl 0 rfl) ?_
        obtain ⟨g_9, h⟩ := h
        refine rg_Mo_there E hp g_9 lk_342 d_Mo_opened_29 (fun x_8 ex_8 => ?_)
        replace h := h x_8 ex_8
        refine lv_iload_n hx hb d_Mo_opened_32 rfl (lv_at hl 1 rfl) ?_
        obtain ⟨g_11, g_12, h⟩ := h
        refine mp_zald (t0 := 5) E hp g_11 (by decide) rfl rfl g_12 d_Mo_opened_33 (fun x_10 ex_10 => ?_)
        replace h := h x_10 ex_10
        refine lv_if_eq (tgt := 41) hx hb d_Mo_opened_34 (by decide) (fun g_13 => ?_) (fun g_13 => ?_)
        · replace h := h.1 g_13
          refine lv_iconst (v := 0) hx hb d_Mo_opened_41 (by decide) ?_
          exact t_Mo_opened_42 E hr m_4 v0 v1 v2 0 _ _ _ h hp hS (lv_sub hl [0, 1, 2] rfl)
        · replace h := h.2 g_13
          exact t_Mo_opened_37 E hr m_4 v0 v1 v2 _ _ _ h hp hS (lv_sub hl [0, 1, 2] rfl)
    · replace h := h.1 g_6
      refine lv_bipush (v := (-2)) hx hb d_Mo_opened_21 (by decide) ?_
      exact mp_iret E hr hp hS h d_Mo_opened_23
  · replace h := h.1 g_3
    refine lv_iconst (v := (-1)) hx hb d_Mo_opened_10 (by decide) ?_
    exact mp_iret E hr hp hS h d_Mo_opened_11
set_option maxHeartbeats 4000000 in
set_option maxRecDepth 100000 in
theorem c_Mo_opened (l : Launch) (G : Gc) (m : Mm) (v0 : Nat) (v1 : Int32) (v2 : Int32) (P : Int32 → Mm → Prop) (h : wp_Mo_opened m v0 v1 v2 P) : Met l y_Mo_opened (Cond.code y_Mo_opened b_Mo_opened 6 (some .int) :: lw_good) rm_Mo_opened (Pre9 G m [rn v0, .int v1, .int v2]) (PoI G P) 0 0 (fr G) := by
  refine Met.ofW (cc := b_Mo_opened) (maxL := 6) (ret := (some .int)) (by decide) rfl ?_
  intro p e s mt args below meth c s₁ B hml hv
  obtain ⟨rfl, hp, hC⟩ := hv
  have hts := atoms_spec (ws := Cond.code y_Mo_opened b_Mo_opened 6 (some .int) :: lw_good) B.pre
  have E : En G R_Mo b_Mo_opened 6 p s mt _ meth c := ⟨B.exec, B.bytes, hml, findClass_of_methodNamed B.named, fun w hw => hts w (List.mem_cons_of_mem _ hw), hC, B.notSynchronized⟩
  have hr := B.returns
  have hl := lv_entry [rn v0, .int v1, .int v2] (n := 6) (by simp [lg_sl, rn_cat, cat_int, cat_long, cat_ref, cat_null])
  rw [lg_entry_eq]
  generalize (lg_sl [rn v0, .int v1, .int v2] ++ List.replicate (6 - (lg_sl [rn v0, .int v1, .int v2]).length) Slot.unset).toArray = ls at hl ⊢
  have hl : lv_has ls 6 [(0, rn v0), (1, .int v1), (2, .int v2)] := by simpa [lv_args, rn_cat, cat_int, cat_long, cat_ref, cat_null] using hl
  exact t_Mo_opened_0 E hr m v0 v1 v2 _ _ _ h hp va_S.rf (lv_sub hl [0, 1, 2] rfl)
abbrev rm_Mo_isOpen : Room := { frames := 1, cells := 0, slots := 0, locals := 22 }
set_option maxHeartbeats 4000000 in
set_option maxRecDepth 100000 in
theorem t_Mo_isOpen_0 {G : Gc} {P : Int32 → Mm → Prop} (E : En G R_Mo b_Mo_isOpen 2 p s mt args meth c) (hr : meth.sig.returnType = some .boolean) (m : Mm) (v0 : Nat) (v1 : Int32) (H : Heap) (locs : List Loc) (ls : Array Slot) (h : wp_Mo_isOpen_0 P m v0 v1) (hp : pic G m H) (hS : va_S (fr G) s.heap H locs) (hl : lv_has ls 2 [(0, rn v0), (1, .int v1)]) : W p l e rm_Mo_isOpen s mt args below meth c H locs 0 0 (MQ below (PoI G P) args s 0 0 (fr G)) (F0 mt 0 ls []) := by
  have hx := E.1
  have hb := E.2.1
  unfold wp_Mo_isOpen_0 at h
  refine lv_iload_n hx hb d_Mo_isOpen_0 rfl (lv_at hl 1 rfl) ?_
  refine lv_iconst (v := 1) hx hb d_Mo_isOpen_1 (by decide) ?_
  refine lv_bipush (v := 7) hx hb d_Mo_isOpen_2 (by decide) ?_
  refine mc_i hS (mc_runS (As := [.int v1, .int 1, .int 7]) (rest := []) E (c_Mo_in l G m v1 1 7 _ h) wd_Mo_in ⟨lk_361, lk_362⟩ rfl rfl ⟨Nat.le_of_ble_eq_true rfl, Nat.le_of_ble_eq_true rfl⟩ hp hS rfl hl.1 rfl (lv_room (Nat.le_of_ble_eq_true rfl)) d_Mo_isOpen_4 ⟨Nat.le_of_ble_eq_true rfl, Nat.le_of_ble_eq_true rfl⟩) (fun r_2 m_1 h H locs hp hS => ?_)
  try dsimp only at h
  refine lv_if_eq (tgt := 23) hx hb d_Mo_isOpen_7 (by decide) (fun g_3 => ?_) (fun g_3 => ?_)
  · replace h := h.1 g_3
    refine lv_iconst (v := 0) hx hb d_Mo_isOpen_23 (by decide) ?_
    exact mp_zret E hr hp hS (by decide) h d_Mo_isOpen_24
  · replace h := h.2 g_3
    refine rr_aload_n hx hb d_Mo_isOpen_10 rfl (lv_at hl 0 rfl) ?_
    obtain ⟨g_5, h⟩ := h
    refine rg_Mo_open E hp g_5 lk_330 d_Mo_isOpen_11 (fun x_4 ex_4 => ?_)
    replace h := h x_4 ex_4
    refine lv_iload_n hx hb d_Mo_isOpen_14 rfl (lv_at hl 1 rfl) ?_
    obtain ⟨g_7, g_8, h⟩ := h
    refine mp_zald (t0 := 5) E hp g_7 (by decide) rfl rfl g_8 d_Mo_isOpen_15 (fun x_6 ex_6 => ?_)
    replace h := h x_6 ex_6
    refine lv_if_eq (tgt := 23) hx hb d_Mo_isOpen_16 (by decide) (fun g_9 => ?_) (fun g_9 => ?_)
    · replace h := h.1 g_9
      refine lv_iconst (v := 0) hx hb d_Mo_isOpen_23 (by decide) ?_
      exact mp_zret E hr hp hS (by decide) h d_Mo_isOpen_24
    · replace h := h.2 g_9
      refine lv_iconst (v := 1) hx hb d_Mo_isOpen_19 (by decide) ?_
      refine lv_goto (tgt := 24) hx hb d_Mo_isOpen_20 (by decide) ?_
      exact mp_zret E hr hp hS (by decide) h d_Mo_isOpen_24
set_option maxHeartbeats 4000000 in
set_option maxRecDepth 100000 in
theorem c_Mo_isOpen (l : Launch) (G : Gc) (m : Mm) (v0 : Nat) (v1 : Int32) (P : Int32 → Mm → Prop) (h : wp_Mo_isOpen m v0 v1 P) : Met l y_Mo_isOpen (Cond.code y_Mo_isOpen b_Mo_isOpen 2 (some .boolean) :: lw_good) rm_Mo_isOpen (Pre9 G m [rn v0, .int v1]) (PoI G P) 0 0 (fr G) := by
  refine Met.ofW (cc := b_Mo_isOpen) (maxL := 2) (ret := (some .boolean)) (by decide) rfl ?_
  intro p e s mt args below meth c s₁ B hml hv
  obtain ⟨rfl, hp, hC⟩ := hv
  have hts := atoms_spec (ws := Cond.code y_Mo_isOpen b_Mo_isOpen 2 (some .boolean) :: lw_good) B.pre
  have E : En G R_Mo b_Mo_isOpen 2 p s mt _ meth c := ⟨B.exec, B.bytes, hml, findClass_of_methodNamed B.named, fun w hw => hts w (List.mem_cons_of_mem _ hw), hC, B.notSynchronized⟩
  have hr := B.returns
  have hl := lv_entry [rn v0, .int v1] (n := 2) (by simp [lg_sl, rn_cat, cat_int, cat_long, cat_ref, cat_null])
  rw [lg_entry_eq]
  generalize (lg_sl [rn v0, .int v1] ++ List.replicate (2 - (lg_sl [rn v0, .int v1]).length) Slot.unset).toArray = ls at hl ⊢
  have hl : lv_has ls 2 [(0, rn v0), (1, .int v1)] := by simpa [lv_args, rn_cat, cat_int, cat_long, cat_ref, cat_null] using hl
  exact t_Mo_isOpen_0 E hr m v0 v1 _ _ _ h hp va_S.rf (lv_sub hl [0, 1] rfl)
abbrev rm_Mo_half : Room := { frames := 0, cells := 0, slots := 0, locals := 0 }
set_option maxHeartbeats 4000000 in
set_option maxRecDepth 100000 in
theorem t_Mo_half_0 {G : Gc} {P : Int32 → Mm → Prop} (E : En G R_Mo b_Mo_half 1 p s mt args meth c) (hr : meth.sig.returnType = some .int) (m : Mm) (v0 : Int32) (H : Heap) (locs : List Loc) (ls : Array Slot) (h : wp_Mo_half_0 P m v0) (hp : pic G m H) (hS : va_S (fr G) s.heap H locs) (hl : lv_has ls 1 [(0, .int v0)]) : W p l e rm_Mo_half s mt args below meth c H locs 0 0 (MQ below (PoI G P) args s 0 0 (fr G)) (F0 mt 0 ls []) := by
  have hx := E.1
  have hb := E.2.1
  unfold wp_Mo_half_0 at h
  refine lv_iload_n hx hb d_Mo_half_0 rfl (lv_at hl 0 rfl) ?_
  refine lv_iconst (v := 4) hx hb d_Mo_half_1 (by decide) ?_
  refine lv_ishr hx hb d_Mo_half_2 ?_
  refine lv_topi (fun x_1 ex_1 => ?_)
  replace h := h x_1 ex_1
  refine lv_iload_n hx hb d_Mo_half_3 rfl (lv_at hl 0 rfl) ?_
  refine lv_bipush (v := 16) hx hb d_Mo_half_4 (by decide) ?_
  refine lv_irem hx hb d_Mo_half_6 (by decide) ?_
  refine lv_topi (fun x_2 ex_2 => ?_)
  replace h := h x_2 ex_2
  refine lv_iconst (v := 4) hx hb d_Mo_half_7 (by decide) ?_
  refine lv_ishl hx hb d_Mo_half_8 ?_
  refine lv_topi (fun x_4 ex_4 => ?_)
  replace h := h x_4 ex_4
  refine lv_ior hx hb d_Mo_half_9 ?_
  refine lv_topi (fun x_5 ex_5 => ?_)
  replace h := h x_5 ex_5
  exact mp_iret E hr hp hS h d_Mo_half_10
set_option maxHeartbeats 4000000 in
set_option maxRecDepth 100000 in
theorem c_Mo_half (l : Launch) (G : Gc) (m : Mm) (v0 : Int32) (P : Int32 → Mm → Prop) (h : wp_Mo_half m v0 P) : Met l y_Mo_half (Cond.code y_Mo_half b_Mo_half 1 (some .int) :: lw_good) rm_Mo_half (Pre9 G m [.int v0]) (PoI G P) 0 0 (fr G) := by
  refine Met.ofW (cc := b_Mo_half) (maxL := 1) (ret := (some .int)) (by decide) rfl ?_
  intro p e s mt args below meth c s₁ B hml hv
  obtain ⟨rfl, hp, hC⟩ := hv
  have hts := atoms_spec (ws := Cond.code y_Mo_half b_Mo_half 1 (some .int) :: lw_good) B.pre
  have E : En G R_Mo b_Mo_half 1 p s mt _ meth c := ⟨B.exec, B.bytes, hml, findClass_of_methodNamed B.named, fun w hw => hts w (List.mem_cons_of_mem _ hw), hC, B.notSynchronized⟩
  have hr := B.returns
  have hl := lv_entry [.int v0] (n := 1) (by simp [lg_sl, rn_cat, cat_int, cat_long, cat_ref, cat_null])
  rw [lg_entry_eq]
  generalize (lg_sl [.int v0] ++ List.replicate (1 - (lg_sl [.int v0]).length) Slot.unset).toArray = ls at hl ⊢
  have hl : lv_has ls 1 [(0, .int v0)] := by simpa [lv_args, rn_cat, cat_int, cat_long, cat_ref, cat_null] using hl
  exact t_Mo_half_0 E hr m v0 _ _ _ h hp va_S.rf (lv_sub hl [0] rfl)
abbrev rm_Mo_written : Room := { frames := 2, cells := 0, slots := 0, locals := 43 }
set_option maxHeartbeats 4000000 in
set_option maxRecDepth 100000 in
theorem t_Mo_written_127 {G : Gc} {P : Int32 → Mm → Prop} (E : En G R_Mo b_Mo_written 6 p s mt args meth c) (hr : meth.sig.returnType = some .int) {K75 : Mm → Nat → Int32 → Int32 → Int32 → Prop} (hK75 : ∀ (m : Mm) (v0 : Nat) (v1 : Int32) (v3 : Int32) (v4 : Int32) (H : Heap) (locs : List Loc) (ls : Array Slot), K75 m v0 v1 v3 v4 → pic G m H → va_S (fr G) s.heap H locs → lv_has ls 6 [(0, rn v0), (1, .int v1), (3, .int v3), (4, .int v4)] → W p l e rm_Mo_written s mt args below meth c H locs 0 0 (MQ below (PoI G P) args s 0 0 (fr G)) (F0 mt 75 ls [])) (m : Mm) (v0 : Nat) (v1 : Int32) (v4 : Int32) (s0 : Int32) (H : Heap) (locs : List Loc) (ls : Array Slot) (h : wp_Mo_written_127 K75 P m v0 v1 v4 s0) (hp : pic G m H) (hS : va_S (fr G) s.heap H locs) (hl : lv_has ls 6 [(0, rn v0), (1, .int v1), (4, .int v4)]) : W p l e rm_Mo_written s mt args below meth c H locs 0 0 (MQ below (PoI G P) args s 0 0 (fr G)) (F0 mt 127 ls [.int s0]) := by
  have hx := E.1
  have hb := E.2.1
  unfold wp_Mo_written_127 at h
  refine lv_istore_n (lv' := [(3, .int s0), (0, rn v0), (1, .int v1), (4, .int v4)]) hx hb d_Mo_written_127 rfl hl (by decide) rfl (fun ls hl => ?_)
  obtain ⟨x_1, ex_1⟩ : ∃ y : Int32, y = v4 + (-1) := ⟨_, rfl⟩
  replace h := h x_1 ex_1
  refine lv_iinc (v := x_1) (lv' := [(4, .int x_1), (3, .int s0), (0, rn v0), (1, .int v1)]) hx hb d_Mo_written_128 hl (k := 3) rfl (by rw [ex_1]; rfl) (by decide) rfl (fun ls hl => ?_)
  refine lv_goto (tgt := 75) hx hb d_Mo_written_131 (by decide) ?_
  exact hK75 m v0 v1 s0 x_1 _ _ _ h hp hS (lv_sub hl [2, 3, 1, 0] rfl)
set_option maxHeartbeats 4000000 in
set_option maxRecDepth 100000 in
theorem t_Mo_written_75 {G : Gc} {P : Int32 → Mm → Prop} (E : En G R_Mo b_Mo_written 6 p s mt args meth c) (hr : meth.sig.returnType = some .int) : ∀ (n : Nat) (m : Mm) (v0 : Nat) (v1 : Int32) (v3 : Int32) (v4 : Int32) (H : Heap) (locs : List Loc) (ls : Array Slot) (_ : wp_Mo_written_75 P n m v0 v1 v3 v4) (_ : pic G m H) (_ : va_S (fr G) s.heap H locs) (_ : lv_has ls 6 [(0, rn v0), (1, .int v1), (3, .int v3), (4, .int v4)]), W p l e rm_Mo_written s mt args below meth c H locs 0 0 (MQ below (PoI G P) args s 0 0 (fr G)) (F0 mt 75 ls []) := by
  intro n
  induction n with
  | zero => intro m v0 v1 v3 v4 H locs ls h hp hS hl; exact h.elim
  | succ n ih =>
    intro m v0 v1 v3 v4 H locs ls h hp hS hl
    have hx := E.1
    have hb := E.2.1
    unfold wp_Mo_written_75 at h
    refine lv_iload hx hb d_Mo_written_75 (lv_at hl 3 rfl) ?_
    refine lv_if_lt (tgt := 134) hx hb d_Mo_written_77 (by decide) (fun g_1 => ?_) (fun g_1 => ?_)
    · replace h := h.1 g_1
      refine lv_iload_n hx hb d_Mo_written_134 rfl (lv_at hl 1 rfl) ?_
      refine lv_iconst (v := 1) hx hb d_Mo_written_135 (by decide) ?_
      refine lv_icmp_ne (tgt := 163) hx hb d_Mo_written_136 (by decide) (fun g_2 => ?_) (fun g_2 => ?_)
      · replace h := h.2 g_2
        refine rr_aload_n hx hb d_Mo_written_163 rfl (lv_at hl 0 rfl) ?_
        obtain ⟨g_4, h⟩ := h
        refine rg_Mo_lies E hp g_4 lk_344 d_Mo_written_164 (fun x_3 ex_3 => ?_)
        replace h := h x_3 ex_3
        refine lv_bipush (v := 100) hx hb d_Mo_written_167 (by decide) ?_
        refine rr_aload_n hx hb d_Mo_written_169 rfl (lv_at hl 0 rfl) ?_
        obtain ⟨g_6, h⟩ := h
        refine rg_Mo_name E hp g_6 lk_346 d_Mo_written_170 (fun x_5 ex_5 => ?_)
        replace h := h x_5 ex_5
        refine lv_iload_n hx hb d_Mo_written_173 rfl (lv_at hl 1 rfl) ?_
        obtain ⟨g_8, g_9, h⟩ := h
        refine mp_iald (t0 := 1) E hp g_8 (by decide) rfl rfl g_9 d_Mo_written_174 (fun x_7 ex_7 => ?_)
        replace h := h x_7 ex_7
        refine lv_imul hx hb d_Mo_written_175 ?_
        refine lv_topi (fun x_10 ex_10 => ?_)
        replace h := h x_10 ex_10
        refine rr_aload_n hx hb d_Mo_written_176 rfl (lv_at hl 0 rfl) ?_
        obtain ⟨g_12, h⟩ := h
        refine rg_Mo_length E hp g_12 lk_343 d_Mo_written_177 (fun x_11 ex_11 => ?_)
        replace h := h x_11 ex_11
        refine rr_aload_n hx hb d_Mo_written_180 rfl (lv_at hl 0 rfl) ?_
        obtain ⟨g_14, h⟩ := h
        refine rg_Mo_name E hp g_14 lk_346 d_Mo_written_181 (fun x_13 ex_13 => ?_)
        replace h := h x_13 ex_13
        refine lv_iload_n hx hb d_Mo_written_184 rfl (lv_at hl 1 rfl) ?_
        obtain ⟨g_16, g_17, h⟩ := h
        refine mp_iald (t0 := 1) E hp g_16 (by decide) rfl rfl g_17 d_Mo_written_185 (fun x_15 ex_15 => ?_)
        replace h := h x_15 ex_15
        obtain ⟨g_19, g_20, h⟩ := h
        refine mp_iald (t0 := 1) E hp g_19 (by decide) rfl rfl g_20 d_Mo_written_186 (fun x_18 ex_18 => ?_)
        replace h := h x_18 ex_18
        refine lv_iadd hx hb d_Mo_written_187 ?_
        refine lv_topi (fun x_21 ex_21 => ?_)
        replace h := h x_21 ex_21
        refine lv_iload_n hx hb d_Mo_written_188 rfl (lv_at hl 2 rfl) ?_
        obtain ⟨x_22, ex_22⟩ : ∃ y : Int32, y = v3.toInt8.toInt32 := ⟨_, rfl⟩
        replace h := h x_22 ex_22
        refine lv_i2b hx hb d_Mo_written_189 ex_22.symm ?_
        obtain ⟨g_23, g_24, h⟩ := h
        refine mp_bast (t0 := 4) E hp hS g_23 (by decide) rfl cw_38 rfl g_24 d_Mo_written_190 (fun m_25 em_25 H locs hp hS => ?_)
        replace h := h m_25 em_25
        refine rr_aload_n hx hb d_Mo_written_191 rfl (lv_at hl 0 rfl) ?_
        obtain ⟨g_27, h⟩ := h
        refine rg_Mo_length E hp g_27 lk_343 d_Mo_written_192 (fun x_26 ex_26 => ?_)
        replace h := h x_26 ex_26
        refine rr_aload_n hx hb d_Mo_written_195 rfl (lv_at hl 0 rfl) ?_
        obtain ⟨g_29, h⟩ := h
        refine rg_Mo_name E hp g_29 lk_346 d_Mo_written_196 (fun x_28 ex_28 => ?_)
        replace h := h x_28 ex_28
        refine lv_iload_n hx hb d_Mo_written_199 rfl (lv_at hl 1 rfl) ?_
        obtain ⟨g_31, g_32, h⟩ := h
        refine mp_iald (t0 := 1) E hp g_31 (by decide) rfl rfl g_32 d_Mo_written_200 (fun x_30 ex_30 => ?_)
        replace h := h x_30 ex_30
        refine lv_dup2_11 hx hb d_Mo_written_201 rfl (rn_cat _) ?_
        obtain ⟨g_34, g_35, h⟩ := h
        refine mp_iald (t0 := 1) E hp g_34 (by decide) rfl rfl g_35 d_Mo_written_202 (fun x_33 ex_33 => ?_)
        replace h := h x_33 ex_33
        refine lv_iconst (v := 1) hx hb d_Mo_written_203 (by decide) ?_
        refine lv_iadd hx hb d_Mo_written_204 ?_
        refine lv_topi (fun x_36 ex_36 => ?_)
        replace h := h x_36 ex_36
        obtain ⟨g_37, g_38, h⟩ := h
        refine mp_iast (t0 := 1) E hp hS g_37 (by decide) rfl cw_37 rfl g_38 d_Mo_written_205 (fun m_39 em_39 H locs hp hS => ?_)
        replace h := h m_39 em_39
        refine lv_iconst (v := 1) hx hb d_Mo_written_206 (by decide) ?_
        exact mp_iret E hr hp hS h d_Mo_written_207
      · replace h := h.1 g_2
        refine rr_aload_n hx hb d_Mo_written_139 rfl (lv_at hl 0 rfl) ?_
        obtain ⟨g_41, h⟩ := h
        refine rg_Mo_out E hp g_41 lk_345 d_Mo_written_140 (fun x_40 ex_40 => ?_)
        replace h := h x_40 ex_40
        refine rr_aload_n hx hb d_Mo_written_143 rfl (lv_at hl 0 rfl) ?_
        obtain ⟨g_43, h⟩ := h
        refine rg_Mo_outSize E hp g_43 lk_365 d_Mo_written_144 (fun x_42 ex_42 => ?_)
        replace h := h x_42 ex_42
        refine lv_iload_n hx hb d_Mo_written_147 rfl (lv_at hl 2 rfl) ?_
        obtain ⟨x_44, ex_44⟩ : ∃ y : Int32, y = v3.toInt8.toInt32 := ⟨_, rfl⟩
        replace h := h x_44 ex_44
        refine lv_i2b hx hb d_Mo_written_148 ex_44.symm ?_
        obtain ⟨g_45, g_46, h⟩ := h
        refine mp_bast (t0 := 4) E hp hS g_45 (by decide) rfl cw_39 rfl g_46 d_Mo_written_149 (fun m_47 em_47 H locs hp hS => ?_)
        replace h := h m_47 em_47
        refine rr_aload_n hx hb d_Mo_written_150 rfl (lv_at hl 0 rfl) ?_
        refine lv_dup hx hb d_Mo_written_151 (rn_cat _) ?_
        obtain ⟨g_49, h⟩ := h
        refine rg_Mo_outSize E hp g_49 lk_365 d_Mo_written_152 (fun x_48 ex_48 => ?_)
        replace h := h x_48 ex_48
        refine lv_iconst (v := 1) hx hb d_Mo_written_155 (by decide) ?_
        refine lv_iadd hx hb d_Mo_written_156 ?_
        refine lv_topi (fun x_50 ex_50 => ?_)
        replace h := h x_50 ex_50
        obtain ⟨g_51, h⟩ := h
        refine rp_Mo_outSize E hp hS g_51 lk_365 d_Mo_written_157 (fun m_52 em_52 H locs hp hS => ?_)
        replace h := h m_52 em_52
        refine lv_goto (tgt := 206) hx hb d_Mo_written_160 (by decide) ?_
        refine lv_iconst (v := 1) hx hb d_Mo_written_206 (by decide) ?_
        exact mp_iret E hr hp hS h d_Mo_written_207
    · replace h := h.2 g_1
      refine rr_aload_n hx hb d_Mo_written_80 rfl (lv_at hl 0 rfl) ?_
      obtain ⟨g_54, h⟩ := h
      refine rg_Mo_filter E hp g_54 lk_349 d_Mo_written_81 (fun x_53 ex_53 => ?_)
      replace h := h x_53 ex_53
      refine lv_iconst (v := 3) hx hb d_Mo_written_84 (by decide) ?_
      refine lv_iload_n hx hb d_Mo_written_85 rfl (lv_at hl 1 rfl) ?_
      refine lv_imul hx hb d_Mo_written_86 ?_
      refine lv_topi (fun x_55 ex_55 => ?_)
      replace h := h x_55 ex_55
      refine lv_iload hx hb d_Mo_written_87 (lv_at hl 3 rfl) ?_
      refine lv_iadd hx hb d_Mo_written_89 ?_
      refine lv_topi (fun x_56 ex_56 => ?_)
      replace h := h x_56 ex_56
      obtain ⟨g_58, g_59, h⟩ := h
      refine mp_iald (t0 := 1) E hp g_58 (by decide) rfl rfl g_59 d_Mo_written_90 (fun x_57 ex_57 => ?_)
      replace h := h x_57 ex_57
      refine lv_istore (lv' := [(5, .int x_57), (0, rn v0), (1, .int v1), (3, .int v3), (4, .int v4)]) hx hb d_Mo_written_91 hl (by decide) rfl (fun ls hl => ?_)
      refine lv_iload hx hb d_Mo_written_93 (lv_at hl 0 rfl) ?_
      refine lv_iconst (v := 1) hx hb d_Mo_written_95 (by decide) ?_
      refine lv_icmp_ne (tgt := 107) hx hb d_Mo_written_96 (by decide) (fun g_60 => ?_) (fun g_60 => ?_)
      · replace h := h.2 g_60
        refine lv_iload hx hb d_Mo_written_107 (lv_at hl 0 rfl) ?_
        refine lv_iconst (v := 2) hx hb d_Mo_written_109 (by decide) ?_
        refine lv_icmp_ne (tgt := 120) hx hb d_Mo_written_110 (by decide) (fun g_61 => ?_) (fun g_61 => ?_)
        · replace h := h.2 g_61
          refine lv_iload_n hx hb d_Mo_written_120 rfl (lv_at hl 3 rfl) ?_
          refine lv_iconst (v := 1) hx hb d_Mo_written_121 (by decide) ?_
          refine lv_iadd hx hb d_Mo_written_122 ?_
          refine lv_topi (fun x_62 ex_62 => ?_)
          replace h := h x_62 ex_62
          refine lv_sipush (v := 256) hx hb d_Mo_written_123 (by decide) ?_
          refine lv_irem hx hb d_Mo_written_126 (by decide) ?_
          refine lv_topi (fun x_63 ex_63 => ?_)
          replace h := h x_63 ex_63
          exact t_Mo_written_127 E hr ih m v0 v1 v4 x_63 _ _ _ h hp hS (lv_sub hl [1, 2, 4] rfl)
        · replace h := h.1 g_61
          refine lv_iload_n hx hb d_Mo_written_113 rfl (lv_at hl 3 rfl) ?_
          refine mc_i hS (mc_runS (As := [.int v3]) (rest := []) E (c_Mo_half l G m v3 _ h) wd_Mo_half ⟨lk_366, lk_367⟩ rfl rfl ⟨Nat.le_of_ble_eq_true rfl, Nat.le_of_ble_eq_true rfl⟩ hp hS rfl hl.1 rfl (lv_room (Nat.le_of_ble_eq_true rfl)) d_Mo_written_114 ⟨Nat.le_of_ble_eq_true rfl, Nat.le_of_ble_eq_true rfl⟩) (fun r_66 m_65 h H locs hp hS => ?_)
          try dsimp only at h
          refine lv_goto (tgt := 127) hx hb d_Mo_written_117 (by decide) ?_
          exact t_Mo_written_127 E hr ih m_65 v0 v1 v4 r_66 _ _ _ h hp hS (lv_sub hl [1, 2, 4] rfl)
      · replace h := h.1 g_60
        refine lv_sipush (v := 255) hx hb d_Mo_written_99 (by decide) ?_
        refine lv_iload_n hx hb d_Mo_written_102 rfl (lv_at hl 3 rfl) ?_
        refine lv_isub hx hb d_Mo_written_103 ?_
        refine lv_topi (fun x_67 ex_67 => ?_)
        replace h := h x_67 ex_67
        refine lv_goto (tgt := 127) hx hb d_Mo_written_104 (by decide) ?_
        exact t_Mo_written_127 E hr ih m v0 v1 v4 x_67 _ _ _ h hp hS (lv_sub hl [1, 2, 4] rfl)
set_option maxHeartbeats 4000000 in
set_option maxRecDepth 100000 in
theorem t_Mo_written_59 {G : Gc} {P : Int32 → Mm → Prop} (E : En G R_Mo b_Mo_written 6 p s mt args meth c) (hr : meth.sig.returnType = some .int) (m : Mm) (v0 : Nat) (v1 : Int32) (v2 : Int32) (H : Heap) (locs : List Loc) (ls : Array Slot) (h : wp_Mo_written_59 P m v0 v1 v2) (hp : pic G m H) (hS : va_S (fr G) s.heap H locs) (hl : lv_has ls 6 [(0, rn v0), (1, .int v1), (2, .int v2)]) : W p l e rm_Mo_written s mt args below meth c H locs 0 0 (MQ below (PoI G P) args s 0 0 (fr G)) (F0 mt 59 ls []) := by
  have hx := E.1
  have hb := E.2.1
  unfold wp_Mo_written_59 at h
  refine lv_iload_n hx hb d_Mo_written_59 rfl (lv_at hl 2 rfl) ?_
  refine lv_sipush (v := 255) hx hb d_Mo_written_60 (by decide) ?_
  refine lv_iand hx hb d_Mo_written_63 ?_
  refine lv_topi (fun x_1 ex_1 => ?_)
  replace h := h x_1 ex_1
  refine lv_istore_n (lv' := [(3, .int x_1), (0, rn v0), (1, .int v1), (2, .int v2)]) hx hb d_Mo_written_64 rfl hl (by decide) rfl (fun ls hl => ?_)
  refine rr_aload_n hx hb d_Mo_written_65 rfl (lv_at hl 1 rfl) ?_
  obtain ⟨g_3, h⟩ := h
  refine rg_Mo_filters E hp g_3 lk_348 d_Mo_written_66 (fun x_2 ex_2 => ?_)
  replace h := h x_2 ex_2
  refine lv_iload_n hx hb d_Mo_written_69 rfl (lv_at hl 2 rfl) ?_
  obtain ⟨g_5, g_6, h⟩ := h
  refine mp_iald (t0 := 1) E hp g_5 (by decide) rfl rfl g_6 d_Mo_written_70 (fun x_4 ex_4 => ?_)
  replace h := h x_4 ex_4
  refine lv_iconst (v := 1) hx hb d_Mo_written_71 (by decide) ?_
  refine lv_isub hx hb d_Mo_written_72 ?_
  refine lv_topi (fun x_7 ex_7 => ?_)
  replace h := h x_7 ex_7
  refine lv_istore (lv' := [(4, .int x_7), (3, .int x_1), (0, rn v0), (1, .int v1), (2, .int v2)]) hx hb d_Mo_written_73 hl (by decide) rfl (fun ls hl => ?_)
  obtain ⟨n_8, h⟩ := h
  exact t_Mo_written_75 E hr n_8 m v0 v1 x_1 x_7 _ _ _ h hp hS (lv_sub hl [2, 3, 1, 0] rfl)
set_option maxHeartbeats 4000000 in
set_option maxRecDepth 100000 in
theorem t_Mo_written_0 {G : Gc} {P : Int32 → Mm → Prop} (E : En G R_Mo b_Mo_written 6 p s mt args meth c) (hr : meth.sig.returnType = some .int) (m : Mm) (v0 : Nat) (v1 : Int32) (v2 : Int32) (H : Heap) (locs : List Loc) (ls : Array Slot) (h : wp_Mo_written_0 P m v0 v1 v2) (hp : pic G m H) (hS : va_S (fr G) s.heap H locs) (hl : lv_has ls 6 [(0, rn v0), (1, .int v1), (2, .int v2)]) : W p l e rm_Mo_written s mt args below meth c H locs 0 0 (MQ below (PoI G P) args s 0 0 (fr G)) (F0 mt 0 ls []) := by
  have hx := E.1
  have hb := E.2.1
  unfold wp_Mo_written_0 at h
  refine rr_aload_n hx hb d_Mo_written_0 rfl (lv_at hl 0 rfl) ?_
  refine lv_iload_n hx hb d_Mo_written_1 rfl (lv_at hl 1 rfl) ?_
  obtain ⟨g_3, h⟩ := h
  refine mc_i hS (mc_runV (As := [.int v1]) (rest := []) E (c_Mo_isOpen l G m v0 v1 _ h) wd_Mo_isOpen ⟨lk_368, lk_369, lk_370⟩ rfl rfl ⟨Nat.le_of_ble_eq_true rfl, Nat.le_of_ble_eq_true rfl⟩ hp hS g_3 (by decide) rfl rfl rfl hl.1 rfl (lv_room (Nat.le_of_ble_eq_true rfl)) d_Mo_written_2 ⟨Nat.le_of_ble_eq_true rfl, Nat.le_of_ble_eq_true rfl⟩) (fun r_2 m_1 h H locs hp hS => ?_)
  try dsimp only at h
  refine lv_if_ne (tgt := 10) hx hb d_Mo_written_5 (by decide) (fun g_4 => ?_) (fun g_4 => ?_)
  · replace h := h.2 g_4
    refine rr_aload_n hx hb d_Mo_written_10 rfl (lv_at hl 0 rfl) ?_
    obtain ⟨g_6, h⟩ := h
    refine rg_Mo_mode E hp g_6 lk_331 d_Mo_written_11 (fun x_5 ex_5 => ?_)
    replace h := h x_5 ex_5
    refine lv_iload_n hx hb d_Mo_written_14 rfl (lv_at hl 1 rfl) ?_
    obtain ⟨g_8, g_9, h⟩ := h
    refine mp_iald (t0 := 1) E hp g_8 (by decide) rfl rfl g_9 d_Mo_written_15 (fun x_7 ex_7 => ?_)
    replace h := h x_7 ex_7
    refine lv_if_ne (tgt := 22) hx hb d_Mo_written_16 (by decide) (fun g_10 => ?_) (fun g_10 => ?_)
    · replace h := h.2 g_10
      refine lv_iload_n hx hb d_Mo_written_22 rfl (lv_at hl 1 rfl) ?_
      refine lv_iconst (v := 1) hx hb d_Mo_written_23 (by decide) ?_
      refine lv_icmp_ne (tgt := 40) hx hb d_Mo_written_24 (by decide) (fun g_11 => ?_) (fun g_11 => ?_)
      · replace h := h.2 g_11
        refine rr_aload_n hx hb d_Mo_written_40 rfl (lv_at hl 0 rfl) ?_
        obtain ⟨g_13, h⟩ := h
        refine rg_Mo_length E hp g_13 lk_343 d_Mo_written_41 (fun x_12 ex_12 => ?_)
        replace h := h x_12 ex_12
        refine rr_aload_n hx hb d_Mo_written_44 rfl (lv_at hl 0 rfl) ?_
        obtain ⟨g_15, h⟩ := h
        refine rg_Mo_name E hp g_15 lk_346 d_Mo_written_45 (fun x_14 ex_14 => ?_)
        replace h := h x_14 ex_14
        refine lv_iload_n hx hb d_Mo_written_48 rfl (lv_at hl 1 rfl) ?_
        obtain ⟨g_17, g_18, h⟩ := h
        refine mp_iald (t0 := 1) E hp g_17 (by decide) rfl rfl g_18 d_Mo_written_49 (fun x_16 ex_16 => ?_)
        replace h := h x_16 ex_16
        obtain ⟨g_20, g_21, h⟩ := h
        refine mp_iald (t0 := 1) E hp g_20 (by decide) rfl rfl g_21 d_Mo_written_50 (fun x_19 ex_19 => ?_)
        replace h := h x_19 ex_19
        refine lv_bipush (v := 100) hx hb d_Mo_written_51 (by decide) ?_
        refine lv_icmp_ne (tgt := 59) hx hb d_Mo_written_53 (by decide) (fun g_22 => ?_) (fun g_22 => ?_)
        · replace h := h.2 g_22
          exact t_Mo_written_59 E hr m_1 v0 v1 v2 _ _ _ h hp hS (lv_sub hl [0, 1, 2] rfl)
        · replace h := h.1 g_22
          refine lv_bipush (v := (-4)) hx hb d_Mo_written_56 (by decide) ?_
          exact mp_iret E hr hp hS h d_Mo_written_58
      · replace h := h.1 g_11
        refine rr_aload_n hx hb d_Mo_written_27 rfl (lv_at hl 0 rfl) ?_
        obtain ⟨g_24, h⟩ := h
        refine rg_Mo_outSize E hp g_24 lk_365 d_Mo_written_28 (fun x_23 ex_23 => ?_)
        replace h := h x_23 ex_23
        refine lv_sipush (v := 400) hx hb d_Mo_written_31 (by decide) ?_
        refine lv_icmp_ne (tgt := 59) hx hb d_Mo_written_34 (by decide) (fun g_25 => ?_) (fun g_25 => ?_)
        · replace h := h.2 g_25
          exact t_Mo_written_59 E hr m_1 v0 v1 v2 _ _ _ h hp hS (lv_sub hl [0, 1, 2] rfl)
        · replace h := h.1 g_25
          refine lv_goto (tgt := 56) hx hb d_Mo_written_37 (by decide) ?_
          refine lv_bipush (v := (-4)) hx hb d_Mo_written_56 (by decide) ?_
          exact mp_iret E hr hp hS h d_Mo_written_58
    · replace h := h.1 g_10
      refine lv_bipush (v := (-3)) hx hb d_Mo_written_19 (by decide) ?_
      exact mp_iret E hr hp hS h d_Mo_written_21
  · replace h := h.1 g_4
    refine lv_iconst (v := (-1)) hx hb d_Mo_written_8 (by decide) ?_
    exact mp_iret E hr hp hS h d_Mo_written_9
set_option maxHeartbeats 4000000 in
set_option maxRecDepth 100000 in
theorem c_Mo_written (l : Launch) (G : Gc) (m : Mm) (v0 : Nat) (v1 : Int32) (v2 : Int32) (P : Int32 → Mm → Prop) (h : wp_Mo_written m v0 v1 v2 P) : Met l y_Mo_written (Cond.code y_Mo_written b_Mo_written 6 (some .int) :: lw_good) rm_Mo_written (Pre9 G m [rn v0, .int v1, .int v2]) (PoI G P) 0 0 (fr G) := by
  refine Met.ofW (cc := b_Mo_written) (maxL := 6) (ret := (some .int)) (by decide) rfl ?_
  intro p e s mt args below meth c s₁ B hml hv
  obtain ⟨rfl, hp, hC⟩ := hv
  have hts := atoms_spec (ws := Cond.code y_Mo_written b_Mo_written 6 (some .int) :: lw_good) B.pre
  have E : En G R_Mo b_Mo_written 6 p s mt _ meth c := ⟨B.exec, B.bytes, hml, findClass_of_methodNamed B.named, fun w hw => hts w (List.mem_cons_of_mem _ hw), hC, B.notSynchronized⟩
  have hr := B.returns
  have hl := lv_entry [rn v0, .int v1, .int v2] (n := 6) (by simp [lg_sl, rn_cat, cat_int, cat_long, cat_ref, cat_null])
  rw [lg_entry_eq]
  generalize (lg_sl [rn v0, .int v1, .int v2] ++ List.replicate (6 - (lg_sl [rn v0, .int v1, .int v2]).length) Slot.unset).toArray = ls at hl ⊢
  have hl : lv_has ls 6 [(0, rn v0), (1, .int v1), (2, .int v2)] := by simpa [lv_args, rn_cat, cat_int, cat_long, cat_ref, cat_null] using hl
  exact t_Mo_written_0 E hr m v0 v1 v2 _ _ _ h hp va_S.rf (lv_sub hl [0, 1, 2] rfl)
end WK
