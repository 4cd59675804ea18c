section WK
variable {p : Program} {l : Launch} {e : Env} {s : State} {mt : MethodId} {args : Array Value} {below : List Frame} {meth : Method} {c : Code}
abbrev rm_Plan_findDoneSigns : Room := { frames := 1, cells := 0, slots := 0, locals := 21 }
set_option maxHeartbeats 4000000 in
set_option maxRecDepth 100000 in
theorem t_Plan_findDoneSigns_123 {G : Gc} {P : Mm → Prop} (E : En G R_Plan b_Plan_findDoneSigns 5 p s mt args meth c) (hr : meth.sig.returnType = none) {K101 : Mm → Nat → Int32 → Int32 → Prop} (hK101 : ∀ (m : Mm) (v0 : Nat) (v3 : Int32) (v4 : Int32) (H : Heap) (locs : List Loc) (ls : Array Slot), K101 m v0 v3 v4 → pic G m H → va_S (fr G) s.heap H locs → lv_has ls 5 [(0, rn v0), (3, .int v3), (4, .int v4)] → W p l e rm_Plan_findDoneSigns s mt args below meth c H locs 0 0 (MQ below (PoV G P) args s 0 0 (fr G)) (F0 mt 101 ls [])) (m : Mm) (v0 : Nat) (v4 : Int32) (s0 : Int32) (H : Heap) (locs : List Loc) (ls : Array Slot) (h : wp_Plan_findDoneSigns_123 K101 P m v0 v4 s0) (hp : pic G m H) (hS : va_S (fr G) s.heap H locs) (hl : lv_has ls 5 [(0, rn v0), (4, .int v4)]) : W p l e rm_Plan_findDoneSigns s mt args below meth c H locs 0 0 (MQ below (PoV G P) args s 0 0 (fr G)) (F0 mt 123 ls [.int s0]) := by
  have hx := E.1
  have hb := E.2.1
  unfold wp_Plan_findDoneSigns_123 at h
  refine lv_istore_n (lv' := [(3, .int s0), (0, rn v0), (4, .int v4)]) hx hb d_Plan_findDoneSigns_123 rfl hl (by decide) rfl (fun ls hl => ?_)
  refine rr_aload_n hx hb d_Plan_findDoneSigns_124 rfl (lv_at hl 1 rfl) ?_
  obtain ⟨g_2, h⟩ := h
  refine rg_Plan_doneFrom E hp g_2 lk_44 d_Plan_findDoneSigns_125 (fun x_1 ex_1 => ?_)
  replace h := h x_1 ex_1
  refine lv_iload hx hb d_Plan_findDoneSigns_128 (lv_at hl 2 rfl) ?_
  refine lv_iload_n hx hb d_Plan_findDoneSigns_130 rfl (lv_at hl 0 rfl) ?_
  obtain ⟨g_3, g_4, h⟩ := h
  refine mp_iast (t0 := 1) E hp hS g_3 (by decide) rfl cw_21 rfl g_4 d_Plan_findDoneSigns_131 (fun m_5 em_5 H locs hp hS => ?_)
  replace h := h m_5 em_5
  obtain ⟨x_6, ex_6⟩ : ∃ y : Int32, y = v4 + (-1) := ⟨_, rfl⟩
  replace h := h x_6 ex_6
  refine lv_iinc (v := x_6) (lv' := [(4, .int x_6), (3, .int s0), (0, rn v0)]) hx hb d_Plan_findDoneSigns_132 hl (k := 2) rfl (by rw [ex_6]; rfl) (by decide) rfl (fun ls hl => ?_)
  refine lv_goto (tgt := 101) hx hb d_Plan_findDoneSigns_135 (by decide) ?_
  exact hK101 m_5 v0 s0 x_6 _ _ _ h hp hS (lv_sub hl [2, 1, 0] rfl)
set_option maxHeartbeats 4000000 in
set_option maxRecDepth 100000 in
theorem t_Plan_findDoneSigns_101 {G : Gc} {P : Mm → Prop} (E : En G R_Plan b_Plan_findDoneSigns 5 p s mt args meth c) (hr : meth.sig.returnType = none) : ∀ (n : Nat) (m : Mm) (v0 : Nat) (v3 : Int32) (v4 : Int32) (H : Heap) (locs : List Loc) (ls : Array Slot) (_ : wp_Plan_findDoneSigns_101 P n m v0 v3 v4) (_ : pic G m H) (_ : va_S (fr G) s.heap H locs) (_ : lv_has ls 5 [(0, rn v0), (3, .int v3), (4, .int v4)]), W p l e rm_Plan_findDoneSigns s mt args below meth c H locs 0 0 (MQ below (PoV G P) args s 0 0 (fr G)) (F0 mt 101 ls []) := by
  intro n
  induction n with
  | zero => intro m v0 v3 v4 H locs ls h hp hS hl; exact h.elim
  | succ n ih =>
    intro m v0 v3 v4 H locs ls h hp hS hl
    have hx := E.1
    have hb := E.2.1
    unfold wp_Plan_findDoneSigns_101 at h
    refine lv_iload hx hb d_Plan_findDoneSigns_101 (lv_at hl 2 rfl) ?_
    refine lv_if_lt (tgt := 138) hx hb d_Plan_findDoneSigns_103 (by decide) (fun g_1 => ?_) (fun g_1 => ?_)
    · replace h := h.1 g_1
      exact mp_vret E hr hp hS h d_Plan_findDoneSigns_138
    · replace h := h.2 g_1
      refine rr_aload_n hx hb d_Plan_findDoneSigns_106 rfl (lv_at hl 0 rfl) ?_
      obtain ⟨g_3, h⟩ := h
      refine rg_Plan_doneFrom E hp g_3 lk_44 d_Plan_findDoneSigns_107 (fun x_2 ex_2 => ?_)
      replace h := h x_2 ex_2
      refine lv_iload hx hb d_Plan_findDoneSigns_110 (lv_at hl 2 rfl) ?_
      obtain ⟨g_5, g_6, h⟩ := h
      refine mp_iald (t0 := 1) E hp g_5 (by decide) rfl rfl g_6 d_Plan_findDoneSigns_112 (fun x_4 ex_4 => ?_)
      replace h := h x_4 ex_4
      refine lv_iconst (v := (-1)) hx hb d_Plan_findDoneSigns_113 (by decide) ?_
      refine lv_icmp_ne (tgt := 121) hx hb d_Plan_findDoneSigns_114 (by decide) (fun g_7 => ?_) (fun g_7 => ?_)
      · replace h := h.2 g_7
        refine lv_iload hx hb d_Plan_findDoneSigns_121 (lv_at hl 2 rfl) ?_
        exact t_Plan_findDoneSigns_123 E hr ih m v0 v4 v4 _ _ _ h hp hS (lv_sub hl [0, 2] rfl)
      · replace h := h.1 g_7
        refine lv_iload_n hx hb d_Plan_findDoneSigns_117 rfl (lv_at hl 1 rfl) ?_
        refine lv_goto (tgt := 123) hx hb d_Plan_findDoneSigns_118 (by decide) ?_
        exact t_Plan_findDoneSigns_123 E hr ih m v0 v4 v3 _ _ _ h hp hS (lv_sub hl [0, 2] rfl)
set_option maxHeartbeats 4000000 in
set_option maxRecDepth 100000 in
theorem t_Plan_findDoneSigns_81 {G : Gc} {P : Mm → Prop} (E : En G R_Plan b_Plan_findDoneSigns 5 p s mt args meth c) (hr : meth.sig.returnType = none) {K4 : Mm → Nat → Nat → Int32 → Int32 → Prop} (hK4 : ∀ (m : Mm) (v0 : Nat) (v1 : Nat) (v2 : Int32) (v3 : Int32) (H : Heap) (locs : List Loc) (ls : Array Slot), K4 m v0 v1 v2 v3 → pic G m H → va_S (fr G) s.heap H locs → lv_has ls 5 [(0, rn v0), (1, rn v1), (2, .int v2), (3, .int v3)] → W p l e rm_Plan_findDoneSigns s mt args below meth c H locs 0 0 (MQ below (PoV G P) args s 0 0 (fr G)) (F0 mt 4 ls [])) (m : Mm) (v0 : Nat) (v1 : Nat) (v3 : Int32) (s0 : Int32) (H : Heap) (locs : List Loc) (ls : Array Slot) (h : wp_Plan_findDoneSigns_81 K4 P m v0 v1 v3 s0) (hp : pic G m H) (hS : va_S (fr G) s.heap H locs) (hl : lv_has ls 5 [(0, rn v0), (1, rn v1), (3, .int v3)]) : W p l e rm_Plan_findDoneSigns s mt args below meth c H locs 0 0 (MQ below (PoV G P) args s 0 0 (fr G)) (F0 mt 81 ls [.int s0]) := by
  have hx := E.1
  have hb := E.2.1
  unfold wp_Plan_findDoneSigns_81 at h
  refine lv_istore_n (lv' := [(2, .int s0), (0, rn v0), (1, rn v1), (3, .int v3)]) hx hb d_Plan_findDoneSigns_81 rfl hl (by decide) (by simp [rn_cat]) (fun ls hl => ?_)
  obtain ⟨x_1, ex_1⟩ : ∃ y : Int32, y = v3 + 1 := ⟨_, rfl⟩
  replace h := h x_1 ex_1
  refine lv_iinc (v := x_1) (lv' := [(3, .int x_1), (2, .int s0), (0, rn v0), (1, rn v1)]) hx hb d_Plan_findDoneSigns_82 hl (k := 3) rfl (by rw [ex_1]; rfl) (by decide) rfl (fun ls hl => ?_)
  refine lv_goto (tgt := 4) hx hb d_Plan_findDoneSigns_85 (by decide) ?_
  exact hK4 m v0 v1 s0 x_1 _ _ _ h hp hS (lv_sub hl [2, 3, 1, 0] rfl)
set_option maxHeartbeats 4000000 in
set_option maxRecDepth 100000 in
theorem t_Plan_findDoneSigns_80 {G : Gc} {P : Mm → Prop} (E : En G R_Plan b_Plan_findDoneSigns 5 p s mt args meth c) (hr : meth.sig.returnType = none) {K4 : Mm → Nat → Nat → Int32 → Int32 → Prop} (hK4 : ∀ (m : Mm) (v0 : Nat) (v1 : Nat) (v2 : Int32) (v3 : Int32) (H : Heap) (locs : List Loc) (ls : Array Slot), K4 m v0 v1 v2 v3 → pic G m H → va_S (fr G) s.heap H locs → lv_has ls 5 [(0, rn v0), (1, rn v1), (2, .int v2), (3, .int v3)] → W p l e rm_Plan_findDoneSigns s mt args below meth c H locs 0 0 (MQ below (PoV G P) args s 0 0 (fr G)) (F0 mt 4 ls [])) (m : Mm) (v0 : Nat) (v1 : Nat) (v3 : Int32) (H : Heap) (locs : List Loc) (ls : Array Slot) (h : wp_Plan_findDoneSigns_80 K4 P m v0 v1 v3) (hp : pic G m H) (hS : va_S (fr G) s.heap H locs) (hl : lv_has ls 5 [(0, rn v0), (1, rn v1), (3, .int v3)]) : W p l e rm_Plan_findDoneSigns s mt args below meth c H locs 0 0 (MQ below (PoV G P) args s 0 0 (fr G)) (F0 mt 80 ls []) := by
  have hx := E.1
  have hb := E.2.1
  unfold wp_Plan_findDoneSigns_80 at h
  refine lv_iconst (v := 0) hx hb d_Plan_findDoneSigns_80 (by decide) ?_
  exact t_Plan_findDoneSigns_81 E hr hK4 m v0 v1 v3 0 _ _ _ h hp hS (lv_sub hl [0, 1, 2] rfl)
set_option maxHeartbeats 4000000 in
set_option maxRecDepth 100000 in
theorem t_Plan_findDoneSigns_64 {G : Gc} {P : Mm → Prop} (E : En G R_Plan b_Plan_findDoneSigns 5 p s mt args meth c) (hr : meth.sig.returnType = none) {K4 : Mm → Nat → Nat → Int32 → Int32 → Prop} (hK4 : ∀ (m : Mm) (v0 : Nat) (v1 : Nat) (v2 : Int32) (v3 : Int32) (H : Heap) (locs : List Loc) (ls : Array Slot), K4 m v0 v1 v2 v3 → pic G m H → va_S (fr G) s.heap H locs → lv_has ls 5 [(0, rn v0), (1, rn v1), (2, .int v2), (3, .int v3)] → W p l e rm_Plan_findDoneSigns s mt args below meth c H locs 0 0 (MQ below (PoV G P) args s 0 0 (fr G)) (F0 mt 4 ls [])) (m : Mm) (v0 : Nat) (v1 : Nat) (v2 : Int32) (v3 : Int32) (v4 : Int32) (s0 : Int32) (s1 : Int32) (s2 : Nat) (H : Heap) (locs : List Loc) (ls : Array Slot) (h : wp_Plan_findDoneSigns_64 K4 P m v0 v1 v2 v3 v4 s0 s1 s2) (hp : pic G m H) (hS : va_S (fr G) s.heap H locs) (hl : lv_has ls 5 [(0, rn v0), (1, rn v1), (2, .int v2), (3, .int v3), (4, .int v4)]) : W p l e rm_Plan_findDoneSigns s mt args below meth c H locs 0 0 (MQ below (PoV G P) args s 0 0 (fr G)) (F0 mt 64 ls [.int s0, .int s1, rn s2]) := by
  have hx := E.1
  have hb := E.2.1
  unfold wp_Plan_findDoneSigns_64 at h
  obtain ⟨g_1, g_2, h⟩ := h
  refine mp_iast (t0 := 1) E hp hS g_1 (by decide) rfl cw_21 rfl g_2 d_Plan_findDoneSigns_64 (fun m_3 em_3 H locs hp hS => ?_)
  replace h := h m_3 em_3
  refine lv_iload_n hx hb d_Plan_findDoneSigns_65 rfl (lv_at hl 2 rfl) ?_
  refine lv_if_eq (tgt := 80) hx hb d_Plan_findDoneSigns_66 (by decide) (fun g_4 => ?_) (fun g_4 => ?_)
  · replace h := h.1 g_4
    exact t_Plan_findDoneSigns_80 E hr hK4 m_3 v0 v1 v3 _ _ _ h hp hS (lv_sub hl [0, 1, 3] rfl)
  · replace h := h.2 g_4
    refine lv_iload hx hb d_Plan_findDoneSigns_69 (lv_at hl 4 rfl) ?_
    refine lv_bipush (v := 10) hx hb d_Plan_findDoneSigns_71 (by decide) ?_
    refine lv_icmp_eq (tgt := 80) hx hb d_Plan_findDoneSigns_73 (by decide) (fun g_5 => ?_) (fun g_5 => ?_)
    · replace h := h.1 g_5
      exact t_Plan_findDoneSigns_80 E hr hK4 m_3 v0 v1 v3 _ _ _ h hp hS (lv_sub hl [0, 1, 3] rfl)
    · replace h := h.2 g_5
      refine lv_iconst (v := 1) hx hb d_Plan_findDoneSigns_76 (by decide) ?_
      refine lv_goto (tgt := 81) hx hb d_Plan_findDoneSigns_77 (by decide) ?_
      exact t_Plan_findDoneSigns_81 E hr hK4 m_3 v0 v1 v3 1 _ _ _ h hp hS (lv_sub hl [0, 1, 3] rfl)
set_option maxHeartbeats 4000000 in
set_option maxRecDepth 100000 in
theorem t_Plan_findDoneSigns_59 {G : Gc} {P : Mm → Prop} (E : En G R_Plan b_Plan_findDoneSigns 5 p s mt args meth c) (hr : meth.sig.returnType = none) {K4 : Mm → Nat → Nat → Int32 → Int32 → Prop} (hK4 : ∀ (m : Mm) (v0 : Nat) (v1 : Nat) (v2 : Int32) (v3 : Int32) (H : Heap) (locs : List Loc) (ls : Array Slot), K4 m v0 v1 v2 v3 → pic G m H → va_S (fr G) s.heap H locs → lv_has ls 5 [(0, rn v0), (1, rn v1), (2, .int v2), (3, .int v3)] → W p l e rm_Plan_findDoneSigns s mt args below meth c H locs 0 0 (MQ below (PoV G P) args s 0 0 (fr G)) (F0 mt 4 ls [])) (m : Mm) (v0 : Nat) (v1 : Nat) (v2 : Int32) (v3 : Int32) (v4 : Int32) (s0 : Int32) (s1 : Nat) (H : Heap) (locs : List Loc) (ls : Array Slot) (h : wp_Plan_findDoneSigns_59 K4 P m v0 v1 v2 v3 v4 s0 s1) (hp : pic G m H) (hS : va_S (fr G) s.heap H locs) (hl : lv_has ls 5 [(0, rn v0), (1, rn v1), (2, .int v2), (3, .int v3), (4, .int v4)]) : W p l e rm_Plan_findDoneSigns s mt args below meth c H locs 0 0 (MQ below (PoV G P) args s 0 0 (fr G)) (F0 mt 59 ls [.int s0, rn s1]) := by
  have hx := E.1
  have hb := E.2.1
  unfold wp_Plan_findDoneSigns_59 at h
  refine lv_iconst (v := (-1)) hx hb d_Plan_findDoneSigns_59 (by decide) ?_
  refine lv_goto (tgt := 64) hx hb d_Plan_findDoneSigns_60 (by decide) ?_
  exact t_Plan_findDoneSigns_64 E hr hK4 m v0 v1 v2 v3 v4 (-1) s0 s1 _ _ _ h hp hS (lv_sub hl [0, 1, 2, 3, 4] rfl)
set_option maxHeartbeats 4000000 in
set_option maxRecDepth 100000 in
theorem t_Plan_findDoneSigns_35 {G : Gc} {P : Mm → Prop} (E : En G R_Plan b_Plan_findDoneSigns 5 p s mt args meth c) (hr : meth.sig.returnType = none) {K4 : Mm → Nat → Nat → Int32 → Int32 → Prop} (hK4 : ∀ (m : Mm) (v0 : Nat) (v1 : Nat) (v2 : Int32) (v3 : Int32) (H : Heap) (locs : List Loc) (ls : Array Slot), K4 m v0 v1 v2 v3 → pic G m H → va_S (fr G) s.heap H locs → lv_has ls 5 [(0, rn v0), (1, rn v1), (2, .int v2), (3, .int v3)] → W p l e rm_Plan_findDoneSigns s mt args below meth c H locs 0 0 (MQ below (PoV G P) args s 0 0 (fr G)) (F0 mt 4 ls [])) (m : Mm) (v0 : Nat) (v1 : Nat) (v3 : Int32) (v4 : Int32) (s0 : Int32) (H : Heap) (locs : List Loc) (ls : Array Slot) (h : wp_Plan_findDoneSigns_35 K4 P m v0 v1 v3 v4 s0) (hp : pic G m H) (hS : va_S (fr G) s.heap H locs) (hl : lv_has ls 5 [(0, rn v0), (1, rn v1), (3, .int v3), (4, .int v4)]) : W p l e rm_Plan_findDoneSigns s mt args below meth c H locs 0 0 (MQ below (PoV G P) args s 0 0 (fr G)) (F0 mt 35 ls [.int s0]) := by
  have hx := E.1
  have hb := E.2.1
  unfold wp_Plan_findDoneSigns_35 at h
  refine lv_istore_n (lv' := [(2, .int s0), (0, rn v0), (1, rn v1), (3, .int v3), (4, .int v4)]) hx hb d_Plan_findDoneSigns_35 rfl hl (by decide) (by simp [rn_cat]) (fun ls hl => ?_)
  refine rr_aload_n hx hb d_Plan_findDoneSigns_36 rfl (lv_at hl 1 rfl) ?_
  obtain ⟨g_2, h⟩ := h
  refine rg_Plan_doneFrom E hp g_2 lk_44 d_Plan_findDoneSigns_37 (fun x_1 ex_1 => ?_)
  replace h := h x_1 ex_1
  refine lv_iload_n hx hb d_Plan_findDoneSigns_40 rfl (lv_at hl 3 rfl) ?_
  refine lv_iload_n hx hb d_Plan_findDoneSigns_41 rfl (lv_at hl 0 rfl) ?_
  refine lv_if_ne (tgt := 59) hx hb d_Plan_findDoneSigns_42 (by decide) (fun g_3 => ?_) (fun g_3 => ?_)
  · replace h := h.2 g_3
    exact t_Plan_findDoneSigns_59 E hr hK4 m v0 v1 s0 v3 v4 v3 x_1 _ _ _ h hp hS (lv_sub hl [1, 2, 0, 3, 4] rfl)
  · replace h := h.1 g_3
    refine lv_iload hx hb d_Plan_findDoneSigns_45 (lv_at hl 4 rfl) ?_
    refine lv_bipush (v := 32) hx hb d_Plan_findDoneSigns_47 (by decide) ?_
    refine lv_icmp_eq (tgt := 59) hx hb d_Plan_findDoneSigns_49 (by decide) (fun g_4 => ?_) (fun g_4 => ?_)
    · replace h := h.1 g_4
      exact t_Plan_findDoneSigns_59 E hr hK4 m v0 v1 s0 v3 v4 v3 x_1 _ _ _ h hp hS (lv_sub hl [1, 2, 0, 3, 4] rfl)
    · replace h := h.2 g_4
      refine lv_iload hx hb d_Plan_findDoneSigns_52 (lv_at hl 4 rfl) ?_
      refine lv_bipush (v := 10) hx hb d_Plan_findDoneSigns_54 (by decide) ?_
      refine lv_icmp_ne (tgt := 63) hx hb d_Plan_findDoneSigns_56 (by decide) (fun g_5 => ?_) (fun g_5 => ?_)
      · replace h := h.2 g_5
        refine lv_iload_n hx hb d_Plan_findDoneSigns_63 rfl (lv_at hl 3 rfl) ?_
        exact t_Plan_findDoneSigns_64 E hr hK4 m v0 v1 s0 v3 v4 v3 v3 x_1 _ _ _ h hp hS (lv_sub hl [1, 2, 0, 3, 4] rfl)
      · replace h := h.1 g_5
        exact t_Plan_findDoneSigns_59 E hr hK4 m v0 v1 s0 v3 v4 v3 x_1 _ _ _ h hp hS (lv_sub hl [1, 2, 0, 3, 4] rfl)
set_option maxHeartbeats 4000000 in
set_option maxRecDepth 100000 in
theorem t_Plan_findDoneSigns_30 {G : Gc} {P : Mm → Prop} (E : En G R_Plan b_Plan_findDoneSigns 5 p s mt args meth c) (hr : meth.sig.returnType = none) {K4 : Mm → Nat → Nat → Int32 → Int32 → Prop} (hK4 : ∀ (m : Mm) (v0 : Nat) (v1 : Nat) (v2 : Int32) (v3 : Int32) (H : Heap) (locs : List Loc) (ls : Array Slot), K4 m v0 v1 v2 v3 → pic G m H → va_S (fr G) s.heap H locs → lv_has ls 5 [(0, rn v0), (1, rn v1), (2, .int v2), (3, .int v3)] → W p l e rm_Plan_findDoneSigns s mt args below meth c H locs 0 0 (MQ below (PoV G P) args s 0 0 (fr G)) (F0 mt 4 ls [])) (m : Mm) (v0 : Nat) (v1 : Nat) (v3 : Int32) (v4 : Int32) (H : Heap) (locs : List Loc) (ls : Array Slot) (h : wp_Plan_findDoneSigns_30 K4 P m v0 v1 v3 v4) (hp : pic G m H) (hS : va_S (fr G) s.heap H locs) (hl : lv_has ls 5 [(0, rn v0), (1, rn v1), (3, .int v3), (4, .int v4)]) : W p l e rm_Plan_findDoneSigns s mt args below meth c H locs 0 0 (MQ below (PoV G P) args s 0 0 (fr G)) (F0 mt 30 ls []) := by
  have hx := E.1
  have hb := E.2.1
  unfold wp_Plan_findDoneSigns_30 at h
  refine lv_iconst (v := 1) hx hb d_Plan_findDoneSigns_30 (by decide) ?_
  refine lv_goto (tgt := 35) hx hb d_Plan_findDoneSigns_31 (by decide) ?_
  exact t_Plan_findDoneSigns_35 E hr hK4 m v0 v1 v3 v4 1 _ _ _ h hp hS (lv_sub hl [0, 1, 2, 3] rfl)
set_option maxHeartbeats 4000000 in
set_option maxRecDepth 100000 in
theorem t_Plan_findDoneSigns_4 {G : Gc} {P : Mm → Prop} (E : En G R_Plan b_Plan_findDoneSigns 5 p s mt args meth c) (hr : meth.sig.returnType = none) : ∀ (n : Nat) (m : Mm) (v0 : Nat) (v1 : Nat) (v2 : Int32) (v3 : Int32) (H : Heap) (locs : List Loc) (ls : Array Slot) (_ : wp_Plan_findDoneSigns_4 P n m v0 v1 v2 v3) (_ : pic G m H) (_ : va_S (fr G) s.heap H locs) (_ : lv_has ls 5 [(0, rn v0), (1, rn v1), (2, .int v2), (3, .int v3)]), W p l e rm_Plan_findDoneSigns s mt args below meth c H locs 0 0 (MQ below (PoV G P) args s 0 0 (fr G)) (F0 mt 4 ls []) := by
  intro n
  induction n with
  | zero => intro m v0 v1 v2 v3 H locs ls h hp hS hl; exact h.elim
  | succ n ih =>
    intro m v0 v1 v2 v3 H locs ls h hp hS hl
    have hx := E.1
    have hb := E.2.1
    unfold wp_Plan_findDoneSigns_4 at h
    refine lv_iload_n hx hb d_Plan_findDoneSigns_4 rfl (lv_at hl 3 rfl) ?_
    refine rr_aload_n hx hb d_Plan_findDoneSigns_5 rfl (lv_at hl 0 rfl) ?_
    obtain ⟨g_2, h⟩ := h
    refine rg_Plan_length E hp g_2 lk_47 d_Plan_findDoneSigns_6 (fun x_1 ex_1 => ?_)
    replace h := h x_1 ex_1
    refine lv_icmp_ge (tgt := 88) hx hb d_Plan_findDoneSigns_9 (by decide) (fun g_3 => ?_) (fun g_3 => ?_)
    · replace h := h.1 g_3
      refine rr_aload_n hx hb d_Plan_findDoneSigns_88 rfl (lv_at hl 0 rfl) ?_
      obtain ⟨g_5, h⟩ := h
      refine rg_Plan_length E hp g_5 lk_47 d_Plan_findDoneSigns_89 (fun x_4 ex_4 => ?_)
      replace h := h x_4 ex_4
      refine lv_istore_n (lv' := [(3, .int x_4), (0, rn v0), (1, rn v1), (2, .int v2)]) hx hb d_Plan_findDoneSigns_92 rfl hl (by decide) rfl (fun ls hl => ?_)
      refine rr_aload_n hx hb d_Plan_findDoneSigns_93 rfl (lv_at hl 1 rfl) ?_
      obtain ⟨g_7, h⟩ := h
      refine rg_Plan_length E hp g_7 lk_47 d_Plan_findDoneSigns_94 (fun x_6 ex_6 => ?_)
      replace h := h x_6 ex_6
      refine lv_iconst (v := 1) hx hb d_Plan_findDoneSigns_97 (by decide) ?_
      refine lv_isub hx hb d_Plan_findDoneSigns_98 ?_
      refine lv_topi (fun x_8 ex_8 => ?_)
      replace h := h x_8 ex_8
      refine lv_istore (lv' := [(4, .int x_8), (3, .int x_4), (0, rn v0), (1, rn v1), (2, .int v2)]) hx hb d_Plan_findDoneSigns_99 hl (by decide) rfl (fun ls hl => ?_)
      obtain ⟨n_9, h⟩ := h
      exact t_Plan_findDoneSigns_101 E hr n_9 m v0 x_4 x_8 _ _ _ h hp hS (lv_sub hl [2, 1, 0] rfl)
    · replace h := h.2 g_3
      refine rr_aload_n hx hb d_Plan_findDoneSigns_12 rfl (lv_at hl 1 rfl) ?_
      refine lv_iload_n hx hb d_Plan_findDoneSigns_13 rfl (lv_at hl 3 rfl) ?_
      obtain ⟨g_12, h⟩ := h
      refine mc_i hS (mc_runV (As := [.int v3]) (rest := []) E (c_Job_signAt l G m v1 v3 _ h) wd_Job_signAt ⟨lk_120, lk_121, lk_122⟩ rfl rfl ⟨Nat.le_of_ble_eq_true rfl, Nat.le_of_ble_eq_true rfl⟩ hp hS g_12 (by decide) rfl rfl rfl hl.1 rfl (lv_room (Nat.le_of_ble_eq_true rfl)) d_Plan_findDoneSigns_14 ⟨Nat.le_of_ble_eq_true rfl, Nat.le_of_ble_eq_true rfl⟩) (fun r_11 m_10 h H locs hp hS => ?_)
      try dsimp only at h
      refine lv_istore (lv' := [(4, .int r_11), (0, rn v0), (1, rn v1), (2, .int v2), (3, .int v3)]) hx hb d_Plan_findDoneSigns_17 hl (by decide) rfl (fun ls hl => ?_)
      refine lv_iload_n hx hb d_Plan_findDoneSigns_19 rfl (lv_at hl 3 rfl) ?_
      refine lv_if_ne (tgt := 30) hx hb d_Plan_findDoneSigns_20 (by decide) (fun g_13 => ?_) (fun g_13 => ?_)
      · replace h := h.2 g_13
        exact t_Plan_findDoneSigns_30 E hr ih m_10 v0 v1 v3 r_11 _ _ _ h hp hS (lv_sub hl [1, 2, 4, 0] rfl)
      · replace h := h.1 g_13
        refine lv_iload hx hb d_Plan_findDoneSigns_23 (lv_at hl 0 rfl) ?_
        refine lv_bipush (v := 37) hx hb d_Plan_findDoneSigns_25 (by decide) ?_
        refine lv_icmp_ne (tgt := 34) hx hb d_Plan_findDoneSigns_27 (by decide) (fun g_14 => ?_) (fun g_14 => ?_)
        · replace h := h.2 g_14
          refine lv_iconst (v := 0) hx hb d_Plan_findDoneSigns_34 (by decide) ?_
          exact t_Plan_findDoneSigns_35 E hr ih m_10 v0 v1 v3 r_11 0 _ _ _ h hp hS (lv_sub hl [1, 2, 4, 0] rfl)
        · replace h := h.1 g_14
          exact t_Plan_findDoneSigns_30 E hr ih m_10 v0 v1 v3 r_11 _ _ _ h hp hS (lv_sub hl [1, 2, 4, 0] rfl)
set_option maxHeartbeats 4000000 in
set_option maxRecDepth 100000 in
theorem t_Plan_findDoneSigns_0 {G : Gc} {P : Mm → Prop} (E : En G R_Plan b_Plan_findDoneSigns 5 p s mt args meth c) (hr : meth.sig.returnType = none) (m : Mm) (v0 : Nat) (v1 : Nat) (H : Heap) (locs : List Loc) (ls : Array Slot) (h : wp_Plan_findDoneSigns_0 P m v0 v1) (hp : pic G m H) (hS : va_S (fr G) s.heap H locs) (hl : lv_has ls 5 [(0, rn v0), (1, rn v1)]) : W p l e rm_Plan_findDoneSigns s mt args below meth c H locs 0 0 (MQ below (PoV G P) args s 0 0 (fr G)) (F0 mt 0 ls []) := by
  have hx := E.1
  have hb := E.2.1
  unfold wp_Plan_findDoneSigns_0 at h
  refine lv_iconst (v := 0) hx hb d_Plan_findDoneSigns_0 (by decide) ?_
  refine lv_istore_n (lv' := [(2, .int 0), (0, rn v0), (1, rn v1)]) hx hb d_Plan_findDoneSigns_1 rfl hl (by decide) (by simp [rn_cat]) (fun ls hl => ?_)
  refine lv_iconst (v := 0) hx hb d_Plan_findDoneSigns_2 (by decide) ?_
  refine lv_istore_n (lv' := [(3, .int 0), (2, .int 0), (0, rn v0), (1, rn v1)]) hx hb d_Plan_findDoneSigns_3 rfl hl (by decide) rfl (fun ls hl => ?_)
  obtain ⟨n_1, h⟩ := h
  exact t_Plan_findDoneSigns_4 E hr n_1 m v0 v1 0 0 _ _ _ h hp hS (lv_sub hl [2, 3, 1, 0] rfl)
set_option maxHeartbeats 4000000 in
set_option maxRecDepth 100000 in
theorem c_Plan_findDoneSigns (l : Launch) (G : Gc) (m : Mm) (v0 : Nat) (v1 : Nat) (P : Mm → Prop) (h : wp_Plan_findDoneSigns m v0 v1 P) : Met l y_Plan_findDoneSigns (Cond.code y_Plan_findDoneSigns b_Plan_findDoneSigns 5 none :: lw_good) rm_Plan_findDoneSigns (Pre9 G m [rn v0, rn v1]) (PoV G P) 0 0 (fr G) := by
  refine Met.ofW (cc := b_Plan_findDoneSigns) (maxL := 5) (ret := none) (by decide) rfl ?_
  intro p e s mt args below meth c s₁ B hml hv
  obtain ⟨rfl, hp, hC⟩ := hv
  have hts := atoms_spec (ws := Cond.code y_Plan_findDoneSigns b_Plan_findDoneSigns 5 none :: lw_good) B.pre
  have E : En G R_Plan b_Plan_findDoneSigns 5 p s mt _ meth c := ⟨B.exec, B.bytes, hml, findClass_of_methodNamed B.named, fun w hw => hts w (List.mem_cons_of_mem _ hw), hC, B.notSynchronized⟩
  have hr := B.returns
  have hl := lv_entry [rn v0, rn v1] (n := 5) (by simp [lg_sl, rn_cat, cat_int, cat_long, cat_ref, cat_null])
  rw [lg_entry_eq]
  generalize (lg_sl [rn v0, rn v1] ++ List.replicate (5 - (lg_sl [rn v0, rn v1]).length) Slot.unset).toArray = ls at hl ⊢
  have hl : lv_has ls 5 [(0, rn v0), (1, rn v1)] := by simpa [lv_args, rn_cat, cat_int, cat_long, cat_ref, cat_null] using hl
  exact t_Plan_findDoneSigns_0 E hr m v0 v1 _ _ _ h hp va_S.rf (lv_sub hl [0, 1] rfl)
abbrev rm_Plan_findMates : Room := { frames := 1, cells := 0, slots := 0, locals := 21 }
set_option maxHeartbeats 4000000 in
set_option maxRecDepth 100000 in
theorem t_Plan_findMates_105 {G : Gc} {P : Mm → Prop} (E : En G R_Plan b_Plan_findMates 5 p s mt args meth c) (hr : meth.sig.returnType = none) {K4 : Mm → Nat → Nat → Int32 → Int32 → Prop} (hK4 : ∀ (m : Mm) (v0 : Nat) (v1 : Nat) (v2 : Int32) (v3 : Int32) (H : Heap) (locs : List Loc) (ls : Array Slot), K4 m v0 v1 v2 v3 → pic G m H → va_S (fr G) s.heap H locs → lv_has ls 5 [(0, rn v0), (1, rn v1), (2, .int v2), (3, .int v3)] → W p l e rm_Plan_findMates s mt args below meth c H locs 0 0 (MQ below (PoV G P) args s 0 0 (fr G)) (F0 mt 4 ls [])) (m : Mm) (v0 : Nat) (v1 : Nat) (v2 : Int32) (v3 : Int32) (H : Heap) (locs : List Loc) (ls : Array Slot) (h : wp_Plan_findMates_105 K4 P m v0 v1 v2 v3) (hp : pic G m H) (hS : va_S (fr G) s.heap H locs) (hl : lv_has ls 5 [(0, rn v0), (1, rn v1), (2, .int v2), (3, .int v3)]) : W p l e rm_Plan_findMates s mt args below meth c H locs 0 0 (MQ below (PoV G P) args s 0 0 (fr G)) (F0 mt 105 ls []) := by
  have hx := E.1
  have hb := E.2.1
  unfold wp_Plan_findMates_105 at h
  obtain ⟨x_1, ex_1⟩ : ∃ y : Int32, y = v3 + 1 := ⟨_, rfl⟩
  replace h := h x_1 ex_1
  refine lv_iinc (v := x_1) (lv' := [(3, .int x_1), (0, rn v0), (1, rn v1), (2, .int v2)]) hx hb d_Plan_findMates_105 hl (k := 3) rfl (by rw [ex_1]; rfl) (by decide) rfl (fun ls hl => ?_)
  refine lv_goto (tgt := 4) hx hb d_Plan_findMates_108 (by decide) ?_
  exact hK4 m v0 v1 v2 x_1 _ _ _ h hp hS (lv_sub hl [1, 2, 3, 0] rfl)
set_option maxHeartbeats 4000000 in
set_option maxRecDepth 100000 in
theorem t_Plan_findMates_67 {G : Gc} {P : Mm → Prop} (E : En G R_Plan b_Plan_findMates 5 p s mt args meth c) (hr : meth.sig.returnType = none) {K4 : Mm → Nat → Nat → Int32 → Int32 → Prop} (hK4 : ∀ (m : Mm) (v0 : Nat) (v1 : Nat) (v2 : Int32) (v3 : Int32) (H : Heap) (locs : List Loc) (ls : Array Slot), K4 m v0 v1 v2 v3 → pic G m H → va_S (fr G) s.heap H locs → lv_has ls 5 [(0, rn v0), (1, rn v1), (2, .int v2), (3, .int v3)] → W p l e rm_Plan_findMates s mt args below meth c H locs 0 0 (MQ below (PoV G P) args s 0 0 (fr G)) (F0 mt 4 ls [])) (m : Mm) (v0 : Nat) (v1 : Nat) (v2 : Int32) (v3 : Int32) (v4 : Int32) (H : Heap) (locs : List Loc) (ls : Array Slot) (h : wp_Plan_findMates_67 K4 P m v0 v1 v2 v3 v4) (hp : pic G m H) (hS : va_S (fr G) s.heap H locs) (hl : lv_has ls 5 [(0, rn v0), (1, rn v1), (2, .int v2), (3, .int v3), (4, .int v4)]) : W p l e rm_Plan_findMates s mt args below meth c H locs 0 0 (MQ below (PoV G P) args s 0 0 (fr G)) (F0 mt 67 ls []) := by
  have hx := E.1
  have hb := E.2.1
  unfold wp_Plan_findMates_67 at h
  refine lv_iload hx hb d_Plan_findMates_67 (lv_at hl 4 rfl) ?_
  refine lv_bipush (v := 125) hx hb d_Plan_findMates_69 (by decide) ?_
  refine lv_icmp_ne (tgt := 105) hx hb d_Plan_findMates_71 (by decide) (fun g_1 => ?_) (fun g_1 => ?_)
  · replace h := h.2 g_1
    exact t_Plan_findMates_105 E hr hK4 m v0 v1 v2 v3 _ _ _ h hp hS (lv_sub hl [0, 1, 2, 3] rfl)
  · replace h := h.1 g_1
    refine lv_iload_n hx hb d_Plan_findMates_74 rfl (lv_at hl 2 rfl) ?_
    refine lv_if_le (tgt := 105) hx hb d_Plan_findMates_75 (by decide) (fun g_2 => ?_) (fun g_2 => ?_)
    · replace h := h.1 g_2
      exact t_Plan_findMates_105 E hr hK4 m v0 v1 v2 v3 _ _ _ h hp hS (lv_sub hl [0, 1, 2, 3] rfl)
    · replace h := h.2 g_2
      obtain ⟨x_3, ex_3⟩ : ∃ y : Int32, y = v2 + (-1) := ⟨_, rfl⟩
      replace h := h x_3 ex_3
      refine lv_iinc (v := x_3) (lv' := [(2, .int x_3), (0, rn v0), (1, rn v1), (3, .int v3), (4, .int v4)]) hx hb d_Plan_findMates_78 hl (k := 2) rfl (by rw [ex_3]; rfl) (by decide) (by simp [rn_cat]) (fun ls hl => ?_)
      refine rr_aload_n hx hb d_Plan_findMates_81 rfl (lv_at hl 1 rfl) ?_
      obtain ⟨g_5, h⟩ := h
      refine rg_Plan_mates E hp g_5 lk_45 d_Plan_findMates_82 (fun x_4 ex_4 => ?_)
      replace h := h x_4 ex_4
      refine lv_iload_n hx hb d_Plan_findMates_85 rfl (lv_at hl 3 rfl) ?_
      refine rr_aload_n hx hb d_Plan_findMates_86 rfl (lv_at hl 1 rfl) ?_
      obtain ⟨g_7, h⟩ := h
      refine rg_Plan_openBraces E hp g_7 lk_46 d_Plan_findMates_87 (fun x_6 ex_6 => ?_)
      replace h := h x_6 ex_6
      refine lv_iload_n hx hb d_Plan_findMates_90 rfl (lv_at hl 0 rfl) ?_
      obtain ⟨g_9, g_10, h⟩ := h
      refine mp_iald (t0 := 1) E hp g_9 (by decide) rfl rfl g_10 d_Plan_findMates_91 (fun x_8 ex_8 => ?_)
      replace h := h x_8 ex_8
      obtain ⟨g_11, g_12, h⟩ := h
      refine mp_iast (t0 := 1) E hp hS g_11 (by decide) rfl cw_22 rfl g_12 d_Plan_findMates_92 (fun m_13 em_13 H locs hp hS => ?_)
      replace h := h m_13 em_13
      refine rr_aload_n hx hb d_Plan_findMates_93 rfl (lv_at hl 1 rfl) ?_
      obtain ⟨g_15, h⟩ := h
      refine rg_Plan_mates E hp g_15 lk_45 d_Plan_findMates_94 (fun x_14 ex_14 => ?_)
      replace h := h x_14 ex_14
      refine rr_aload_n hx hb d_Plan_findMates_97 rfl (lv_at hl 1 rfl) ?_
      obtain ⟨g_17, h⟩ := h
      refine rg_Plan_openBraces E hp g_17 lk_46 d_Plan_findMates_98 (fun x_16 ex_16 => ?_)
      replace h := h x_16 ex_16
      refine lv_iload_n hx hb d_Plan_findMates_101 rfl (lv_at hl 0 rfl) ?_
      obtain ⟨g_19, g_20, h⟩ := h
      refine mp_iald (t0 := 1) E hp g_19 (by decide) rfl rfl g_20 d_Plan_findMates_102 (fun x_18 ex_18 => ?_)
      replace h := h x_18 ex_18
      refine lv_iload_n hx hb d_Plan_findMates_103 rfl (lv_at hl 3 rfl) ?_
      obtain ⟨g_21, g_22, h⟩ := h
      refine mp_iast (t0 := 1) E hp hS g_21 (by decide) rfl cw_22 rfl g_22 d_Plan_findMates_104 (fun m_23 em_23 H locs hp hS => ?_)
      replace h := h m_23 em_23
      exact t_Plan_findMates_105 E hr hK4 m_23 v0 v1 x_3 v3 _ _ _ h hp hS (lv_sub hl [1, 2, 0, 3] rfl)
set_option maxHeartbeats 4000000 in
set_option maxRecDepth 100000 in
theorem t_Plan_findMates_38 {G : Gc} {P : Mm → Prop} (E : En G R_Plan b_Plan_findMates 5 p s mt args meth c) (hr : meth.sig.returnType = none) {K4 : Mm → Nat → Nat → Int32 → Int32 → Prop} (hK4 : ∀ (m : Mm) (v0 : Nat) (v1 : Nat) (v2 : Int32) (v3 : Int32) (H : Heap) (locs : List Loc) (ls : Array Slot), K4 m v0 v1 v2 v3 → pic G m H → va_S (fr G) s.heap H locs → lv_has ls 5 [(0, rn v0), (1, rn v1), (2, .int v2), (3, .int v3)] → W p l e rm_Plan_findMates s mt args below meth c H locs 0 0 (MQ below (PoV G P) args s 0 0 (fr G)) (F0 mt 4 ls [])) (m : Mm) (v0 : Nat) (v1 : Nat) (v2 : Int32) (v3 : Int32) (s0 : Int32) (H : Heap) (locs : List Loc) (ls : Array Slot) (h : wp_Plan_findMates_38 K4 P m v0 v1 v2 v3 s0) (hp : pic G m H) (hS : va_S (fr G) s.heap H locs) (hl : lv_has ls 5 [(0, rn v0), (1, rn v1), (2, .int v2), (3, .int v3)]) : W p l e rm_Plan_findMates s mt args below meth c H locs 0 0 (MQ below (PoV G P) args s 0 0 (fr G)) (F0 mt 38 ls [.int s0]) := by
  have hx := E.1
  have hb := E.2.1
  unfold wp_Plan_findMates_38 at h
  refine lv_istore (lv' := [(4, .int s0), (0, rn v0), (1, rn v1), (2, .int v2), (3, .int v3)]) hx hb d_Plan_findMates_38 hl (by decide) rfl (fun ls hl => ?_)
  refine lv_iload hx hb d_Plan_findMates_40 (lv_at hl 0 rfl) ?_
  refine lv_bipush (v := 123) hx hb d_Plan_findMates_42 (by decide) ?_
  refine lv_icmp_ne (tgt := 67) hx hb d_Plan_findMates_44 (by decide) (fun g_1 => ?_) (fun g_1 => ?_)
  · replace h := h.2 g_1
    exact t_Plan_findMates_67 E hr hK4 m v0 v1 v2 v3 s0 _ _ _ h hp hS (lv_sub hl [1, 2, 3, 4, 0] rfl)
  · replace h := h.1 g_1
    refine lv_iload_n hx hb d_Plan_findMates_47 rfl (lv_at hl 3 rfl) ?_
    refine lv_sipush (v := 200) hx hb d_Plan_findMates_48 (by decide) ?_
    refine lv_icmp_ge (tgt := 67) hx hb d_Plan_findMates_51 (by decide) (fun g_2 => ?_) (fun g_2 => ?_)
    · replace h := h.1 g_2
      exact t_Plan_findMates_67 E hr hK4 m v0 v1 v2 v3 s0 _ _ _ h hp hS (lv_sub hl [1, 2, 3, 4, 0] rfl)
    · replace h := h.2 g_2
      refine rr_aload_n hx hb d_Plan_findMates_54 rfl (lv_at hl 1 rfl) ?_
      obtain ⟨g_4, h⟩ := h
      refine rg_Plan_openBraces E hp g_4 lk_46 d_Plan_findMates_55 (fun x_3 ex_3 => ?_)
      replace h := h x_3 ex_3
      refine lv_iload_n hx hb d_Plan_findMates_58 rfl (lv_at hl 3 rfl) ?_
      refine lv_iload_n hx hb d_Plan_findMates_59 rfl (lv_at hl 4 rfl) ?_
      obtain ⟨g_5, g_6, h⟩ := h
      refine mp_iast (t0 := 1) E hp hS g_5 (by decide) rfl cw_23 rfl g_6 d_Plan_findMates_60 (fun m_7 em_7 H locs hp hS => ?_)
      replace h := h m_7 em_7
      obtain ⟨x_8, ex_8⟩ : ∃ y : Int32, y = v2 + 1 := ⟨_, rfl⟩
      replace h := h x_8 ex_8
      refine lv_iinc (v := x_8) (lv' := [(2, .int x_8), (4, .int s0), (0, rn v0), (1, rn v1), (3, .int v3)]) hx hb d_Plan_findMates_61 hl (k := 3) rfl (by rw [ex_8]; rfl) (by decide) (by simp [rn_cat]) (fun ls hl => ?_)
      refine lv_goto (tgt := 105) hx hb d_Plan_findMates_64 (by decide) ?_
      exact t_Plan_findMates_105 E hr hK4 m_7 v0 v1 x_8 v3 _ _ _ h hp hS (lv_sub hl [2, 3, 0, 4] rfl)
set_option maxHeartbeats 4000000 in
set_option maxRecDepth 100000 in
theorem t_Plan_findMates_4 {G : Gc} {P : Mm → Prop} (E : En G R_Plan b_Plan_findMates 5 p s mt args meth c) (hr : meth.sig.returnType = none) : ∀ (n : Nat) (m : Mm) (v0 : Nat) (v1 : Nat) (v2 : Int32) (v3 : Int32) (H : Heap) (locs : List Loc) (ls : Array Slot) (_ : wp_Plan_findMates_4 P n m v0 v1 v2 v3) (_ : pic G m H) (_ : va_S (fr G) s.heap H locs) (_ : lv_has ls 5 [(0, rn v0), (1, rn v1), (2, .int v2), (3, .int v3)]), W p l e rm_Plan_findMates s mt args below meth c H locs 0 0 (MQ below (PoV G P) args s 0 0 (fr G)) (F0 mt 4 ls []) := by
  intro n
  induction n with
  | zero => intro m v0 v1 v2 v3 H locs ls h hp hS hl; exact h.elim
  | succ n ih =>
    intro m v0 v1 v2 v3 H locs ls h hp hS hl
    have hx := E.1
    have hb := E.2.1
    unfold wp_Plan_findMates_4 at h
    refine lv_iload_n hx hb d_Plan_findMates_4 rfl (lv_at hl 3 rfl) ?_
    refine rr_aload_n hx hb d_Plan_findMates_5 rfl (lv_at hl 0 rfl) ?_
    obtain ⟨g_2, h⟩ := h
    refine rg_Plan_length E hp g_2 lk_47 d_Plan_findMates_6 (fun x_1 ex_1 => ?_)
    replace h := h x_1 ex_1
    refine lv_icmp_ge (tgt := 111) hx hb d_Plan_findMates_9 (by decide) (fun g_3 => ?_) (fun g_3 => ?_)
    · replace h := h.1 g_3
      exact mp_vret E hr hp hS h d_Plan_findMates_111
    · replace h := h.2 g_3
      refine rr_aload_n hx hb d_Plan_findMates_12 rfl (lv_at hl 0 rfl) ?_
      obtain ⟨g_5, h⟩ := h
      refine rg_Plan_mates E hp g_5 lk_45 d_Plan_findMates_13 (fun x_4 ex_4 => ?_)
      replace h := h x_4 ex_4
      refine lv_iload_n hx hb d_Plan_findMates_16 rfl (lv_at hl 3 rfl) ?_
      refine lv_iconst (v := (-1)) hx hb d_Plan_findMates_17 (by decide) ?_
      obtain ⟨g_6, g_7, h⟩ := h
      refine mp_iast (t0 := 1) E hp hS g_6 (by decide) rfl cw_22 rfl g_7 d_Plan_findMates_18 (fun m_8 em_8 H locs hp hS => ?_)
      replace h := h m_8 em_8
      refine rr_aload_n hx hb d_Plan_findMates_19 rfl (lv_at hl 0 rfl) ?_
      obtain ⟨g_10, h⟩ := h
      refine rg_Plan_doneFrom E hp g_10 lk_44 d_Plan_findMates_20 (fun x_9 ex_9 => ?_)
      replace h := h x_9 ex_9
      refine lv_iload_n hx hb d_Plan_findMates_23 rfl (lv_at hl 3 rfl) ?_
      obtain ⟨g_12, g_13, h⟩ := h
      refine mp_iald (t0 := 1) E hp g_12 (by decide) rfl rfl g_13 d_Plan_findMates_24 (fun x_11 ex_11 => ?_)
      replace h := h x_11 ex_11
      refine lv_iload_n hx hb d_Plan_findMates_25 rfl (lv_at hl 3 rfl) ?_
      refine lv_icmp_ne (tgt := 37) hx hb d_Plan_findMates_26 (by decide) (fun g_14 => ?_) (fun g_14 => ?_)
      · replace h := h.2 g_14
        refine lv_iconst (v := (-1)) hx hb d_Plan_findMates_37 (by decide) ?_
        exact t_Plan_findMates_38 E hr ih m_8 v0 v1 v2 v3 (-1) _ _ _ h hp hS (lv_sub hl [0, 1, 2, 3] rfl)
      · replace h := h.1 g_14
        refine rr_aload_n hx hb d_Plan_findMates_29 rfl (lv_at hl 1 rfl) ?_
        refine lv_iload_n hx hb d_Plan_findMates_30 rfl (lv_at hl 3 rfl) ?_
        obtain ⟨g_17, h⟩ := h
        refine mc_i hS (mc_runV (As := [.int v3]) (rest := []) E (c_Job_signAt l G m_8 v1 v3 _ h) wd_Job_signAt ⟨lk_120, lk_121, lk_122⟩ rfl rfl ⟨Nat.le_of_ble_eq_true rfl, Nat.le_of_ble_eq_true rfl⟩ hp hS g_17 (by decide) rfl rfl rfl hl.1 rfl (lv_room (Nat.le_of_ble_eq_true rfl)) d_Plan_findMates_31 ⟨Nat.le_of_ble_eq_true rfl, Nat.le_of_ble_eq_true rfl⟩) (fun r_16 m_15 h H locs hp hS => ?_)
        try dsimp only at h
        refine lv_goto (tgt := 38) hx hb d_Plan_findMates_34 (by decide) ?_
        exact t_Plan_findMates_38 E hr ih m_15 v0 v1 v2 v3 r_16 _ _ _ h hp hS (lv_sub hl [0, 1, 2, 3] rfl)
set_option maxHeartbeats 4000000 in
set_option maxRecDepth 100000 in
theorem t_Plan_findMates_0 {G : Gc} {P : Mm → Prop} (E : En G R_Plan b_Plan_findMates 5 p s mt args meth c) (hr : meth.sig.returnType = none) (m : Mm) (v0 : Nat) (v1 : Nat) (H : Heap) (locs : List Loc) (ls : Array Slot) (h : wp_Plan_findMates_0 P m v0 v1) (hp : pic G m H) (hS : va_S (fr G) s.heap H locs) (hl : lv_has ls 5 [(0, rn v0), (1, rn v1)]) : W p l e rm_Plan_findMates s mt args below meth c H locs 0 0 (MQ below (PoV G P) args s 0 0 (fr G)) (F0 mt 0 ls []) := by
  have hx := E.1
  have hb := E.2.1
  unfold wp_Plan_findMates_0 at h
  refine lv_iconst (v := 0) hx hb d_Plan_findMates_0 (by decide) ?_
  refine lv_istore_n (lv' := [(2, .int 0), (0, rn v0), (1, rn v1)]) hx hb d_Plan_findMates_1 rfl hl (by decide) (by simp [rn_cat]) (fun ls hl => ?_)
  refine lv_iconst (v := 0) hx hb d_Plan_findMates_2 (by decide) ?_
  refine lv_istore_n (lv' := [(3, .int 0), (2, .int 0), (0, rn v0), (1, rn v1)]) hx hb d_Plan_findMates_3 rfl hl (by decide) rfl (fun ls hl => ?_)
  obtain ⟨n_1, h⟩ := h
  exact t_Plan_findMates_4 E hr n_1 m v0 v1 0 0 _ _ _ h hp hS (lv_sub hl [2, 3, 1, 0] rfl)
set_option maxHeartbeats 4000000 in
set_option maxRecDepth 100000 in
theorem c_Plan_findMates (l : Launch) (G : Gc) (m : Mm) (v0 : Nat) (v1 : Nat) (P : Mm → Prop) (h : wp_Plan_findMates m v0 v1 P) : Met l y_Plan_findMates (Cond.code y_Plan_findMates b_Plan_findMates 5 none :: lw_good) rm_Plan_findMates (Pre9 G m [rn v0, rn v1]) (PoV G P) 0 0 (fr G) := by
  refine Met.ofW (cc := b_Plan_findMates) (maxL := 5) (ret := none) (by decide) rfl ?_
  intro p e s mt args below meth c s₁ B hml hv
  obtain ⟨rfl, hp, hC⟩ := hv
  have hts := atoms_spec (ws := Cond.code y_Plan_findMates b_Plan_findMates 5 none :: lw_good) B.pre
  have E : En G R_Plan b_Plan_findMates 5 p s mt _ meth c := ⟨B.exec, B.bytes, hml, findClass_of_methodNamed B.named, fun w hw => hts w (List.mem_cons_of_mem _ hw), hC, B.notSynchronized⟩
  have hr := B.returns
  have hl := lv_entry [rn v0, rn v1] (n := 5) (by simp [lg_sl, rn_cat, cat_int, cat_long, cat_ref, cat_null])
  rw [lg_entry_eq]
  generalize (lg_sl [rn v0, rn v1] ++ List.replicate (5 - (lg_sl [rn v0, rn v1]).length) Slot.unset).toArray = ls at hl ⊢
  have hl : lv_has ls 5 [(0, rn v0), (1, rn v1)] := by simpa [lv_args, rn_cat, cat_int, cat_long, cat_ref, cat_null] using hl
  exact t_Plan_findMates_0 E hr m v0 v1 _ _ _ h hp va_S.rf (lv_sub hl [0, 1] rfl)
abbrev rm_Plan_prepare : Room := { frames := 2, cells := 0, slots := 0, locals := 64 }
set_option maxHeartbeats 4000000 in
set_option maxRecDepth 100000 in
theorem t_Plan_prepare_0 {G : Gc} {P : Mm → Prop} (E : En G R_Plan b_Plan_prepare 2 p s mt args meth c) (hr : meth.sig.returnType = none) (m : Mm) (v0 : Nat) (v1 : Nat) (H : Heap) (locs : List Loc) (ls : Array Slot) (h : wp_Plan_prepare_0 P m v0 v1) (hp : pic G m H) (hS : va_S (fr G) s.heap H locs) (hl : lv_has ls 2 [(0, rn v0), (1, rn v1)]) : W p l e rm_Plan_prepare s mt args below meth c H locs 0 0 (MQ below (PoV G P) args s 0 0 (fr G)) (F0 mt 0 ls []) := by
  have hx := E.1
  have hb := E.2.1
  unfold wp_Plan_prepare_0 at h
  refine rr_aload_n hx hb d_Plan_prepare_0 rfl (lv_at hl 0 rfl) ?_
  refine rr_aload_n hx hb d_Plan_prepare_1 rfl (lv_at hl 1 rfl) ?_
  obtain ⟨g_2, h⟩ := h
  refine rg_Job_length E hp g_2 lk_123 d_Plan_prepare_2 (fun x_1 ex_1 => ?_)
  replace h := h x_1 ex_1
  refine lv_sipush (v := 200) hx hb d_Plan_prepare_5 (by decide) ?_
  refine va_mmin hx hb (E.2.2.1.trans hl.1.symm) E.2.2.2.1 (E.2.2.2.2.1 _ lk_124) (E.2.2.2.2.1 _ lk_125) (E.2.2.2.2.1 _ lk_11) (E.2.2.2.2.1 _ lk_126) (by decide) (by simp [rn_cat, cat_int, cat_long, cat_ref, cat_null, rm_Plan_prepare]) (by exact Nat.le_of_ble_eq_true rfl) (by exact Nat.le_of_ble_eq_true rfl) d_Plan_prepare_8 ?_
  refine lv_topi (fun x_3 ex_3 => ?_)
  replace h := h x_3 ex_3
  obtain ⟨g_4, h⟩ := h
  refine rp_Plan_length E hp hS g_4 lk_47 d_Plan_prepare_11 (fun m_5 em_5 H locs hp hS => ?_)
  replace h := h m_5 em_5
  refine rr_aload_n hx hb d_Plan_prepare_14 rfl (lv_at hl 0 rfl) ?_
  refine rr_aload_n hx hb d_Plan_prepare_15 rfl (lv_at hl 1 rfl) ?_
  obtain ⟨g_8, h⟩ := h
  refine mc_v hS (mc_runV (As := [rn v1]) (rest := []) E (c_Plan_findDoneSigns l G m_5 v0 v1 _ h) wd_Plan_findDoneSigns ⟨lk_127, lk_128, lk_129⟩ rfl rfl ⟨Nat.le_of_ble_eq_true rfl, Nat.le_of_ble_eq_true rfl⟩ hp hS g_8 (by decide) rfl rfl rfl hl.1 rfl (lv_room (Nat.le_of_ble_eq_true rfl)) d_Plan_prepare_16 ⟨Nat.le_of_ble_eq_true rfl, Nat.le_of_ble_eq_true rfl⟩) (fun m_6 h H locs hp hS => ?_)
  try dsimp only at h
  refine rr_aload_n hx hb d_Plan_prepare_19 rfl (lv_at hl 0 rfl) ?_
  refine rr_aload_n hx hb d_Plan_prepare_20 rfl (lv_at hl 1 rfl) ?_
  obtain ⟨g_11, h⟩ := h
  refine mc_v hS (mc_runV (As := [rn v1]) (rest := []) E (c_Plan_findMates l G m_6 v0 v1 _ h) wd_Plan_findMates ⟨lk_130, lk_131, lk_132⟩ rfl rfl ⟨Nat.le_of_ble_eq_true rfl, Nat.le_of_ble_eq_true rfl⟩ hp hS g_11 (by decide) rfl rfl rfl hl.1 rfl (lv_room (Nat.le_of_ble_eq_true rfl)) d_Plan_prepare_21 ⟨Nat.le_of_ble_eq_true rfl, Nat.le_of_ble_eq_true rfl⟩) (fun m_9 h H locs hp hS => ?_)
  try dsimp only at h
  exact mp_vret E hr hp hS h d_Plan_prepare_24
set_option maxHeartbeats 4000000 in
set_option maxRecDepth 100000 in
theorem c_Plan_prepare (l : Launch) (G : Gc) (m : Mm) (v0 : Nat) (v1 : Nat) (P : Mm → Prop) (h : wp_Plan_prepare m v0 v1 P) : Met l y_Plan_prepare (Cond.code y_Plan_prepare b_Plan_prepare 2 none :: lw_good) rm_Plan_prepare (Pre9 G m [rn v0, rn v1]) (PoV G P) 0 0 (fr G) := by
  refine Met.ofW (cc := b_Plan_prepare) (maxL := 2) (ret := none) (by decide) rfl ?_
  intro p e s mt args below meth c s₁ B hml hv
  obtain ⟨rfl, hp, hC⟩ := hv
  have hts := atoms_spec (ws := Cond.code y_Plan_prepare b_Plan_prepare 2 none :: lw_good) B.pre
  have E : En G R_Plan b_Plan_prepare 2 p s mt _ meth c := ⟨B.exec, B.bytes, hml, findClass_of_methodNamed B.named, fun w hw => hts w (List.mem_cons_of_mem _ hw), hC, B.notSynchronized⟩
  have hr := B.returns
  have hl := lv_entry [rn v0, rn v1] (n := 2) (by simp [lg_sl, rn_cat, cat_int, cat_long, cat_ref, cat_null])
  rw [lg_entry_eq]
  generalize (lg_sl [rn v0, rn v1] ++ List.replicate (2 - (lg_sl [rn v0, rn v1]).length) Slot.unset).toArray = ls at hl ⊢
  have hl : lv_has ls 2 [(0, rn v0), (1, rn v1)] := by simpa [lv_args, rn_cat, cat_int, cat_long, cat_ref, cat_null] using hl
  exact t_Plan_prepare_0 E hr m v0 v1 _ _ _ h hp va_S.rf (lv_sub hl [0, 1] rfl)
abbrev rm_Numbers_clear : Room := { frames := 0, cells := 0, slots := 0, locals := 0 }
set_option maxHeartbeats 4000000 in
set_option maxRecDepth 100000 in
theorem t_Numbers_clear_0 {G : Gc} {P : Mm → Prop} (E : En G R_Numbers b_Numbers_clear 1 p s mt args meth c) (hr : meth.sig.returnType = none) (m : Mm) (v0 : Nat) (H : Heap) (locs : List Loc) (ls : Array Slot) (h : wp_Numbers_clear_0 P m v0) (hp : pic G m H) (hS : va_S (fr G) s.heap H locs) (hl : lv_has ls 1 [(0, rn v0)]) : W p l e rm_Numbers_clear s mt args below meth c H locs 0 0 (MQ below (PoV G P) args s 0 0 (fr G)) (F0 mt 0 ls []) := by
  have hx := E.1
  have hb := E.2.1
  unfold wp_Numbers_clear_0 at h
  refine rr_aload_n hx hb d_Numbers_clear_0 rfl (lv_at hl 0 rfl) ?_
  refine lv_iconst (v := 0) hx hb d_Numbers_clear_1 (by decide) ?_
  obtain ⟨g_1, h⟩ := h
  refine rp_Numbers_height E hp hS g_1 lk_42 d_Numbers_clear_2 (fun m_2 em_2 H locs hp hS => ?_)
  replace h := h m_2 em_2
  exact mp_vret E hr hp hS h d_Numbers_clear_5
set_option maxHeartbeats 4000000 in
set_option maxRecDepth 100000 in
theorem c_Numbers_clear (l : Launch) (G : Gc) (m : Mm) (v0 : Nat) (P : Mm → Prop) (h : wp_Numbers_clear m v0 P) : Met l y_Numbers_clear (Cond.code y_Numbers_clear b_Numbers_clear 1 none :: lw_good) rm_Numbers_clear (Pre9 G m [rn v0]) (PoV G P) 0 0 (fr G) := by
  refine Met.ofW (cc := b_Numbers_clear) (maxL := 1) (ret := none) (by decide) rfl ?_
  intro p e s mt args below meth c s₁ B hml hv
  obtain ⟨rfl, hp, hC⟩ := hv
  have hts := atoms_spec (ws := Cond.code y_Numbers_clear b_Numbers_clear 1 none :: lw_good) B.pre
  have E : En G R_Numbers b_Numbers_clear 1 p s mt _ meth c := ⟨B.exec, B.bytes, hml, findClass_of_methodNamed B.named, fun w hw => hts w (List.mem_cons_of_mem _ hw), hC, B.notSynchronized⟩
  have hr := B.returns
  have hl := lv_entry [rn v0] (n := 1) (by simp [lg_sl, rn_cat, cat_int, cat_long, cat_ref, cat_null])
  rw [lg_entry_eq]
  generalize (lg_sl [rn v0] ++ List.replicate (1 - (lg_sl [rn v0]).length) Slot.unset).toArray = ls at hl ⊢
  have hl : lv_has ls 1 [(0, rn v0)] := by simpa [lv_args, rn_cat, cat_int, cat_long, cat_ref, cat_null] using hl
  exact t_Numbers_clear_0 E hr m v0 _ _ _ h hp va_S.rf (lv_sub hl [0] rfl)
abbrev rm_Plan_firstDoneFrom : Room := { frames := 0, cells := 0, slots := 0, locals := 0 }
set_option maxHeartbeats 4000000 in
set_option maxRecDepth 100000 in
theorem t_Plan_firstDoneFrom_12 {G : Gc} {P : Int32 → Mm → Prop} (E : En G R_Plan b_Plan_firstDoneFrom 2 p s mt args meth c) (hr : meth.sig.returnType = some .int) (m : Mm) (v0 : Nat) (H : Heap) (locs : List Loc) (ls : Array Slot) (h : wp_Plan_firstDoneFrom_12 P m v0) (hp : pic G m H) (hS : va_S (fr G) s.heap H locs) (hl : lv_has ls 2 [(0, rn v0)]) : W p l e rm_Plan_firstDoneFrom s mt args below meth c H locs 0 0 (MQ below (PoI G P) args s 0 0 (fr G)) (F0 mt 12 ls []) := by
  have hx := E.1
  have hb := E.2.1
  unfold wp_Plan_firstDoneFrom_12 at h
  refine rr_aload_n hx hb d_Plan_firstDoneFrom_12 rfl (lv_at hl 0 rfl) ?_
  obtain ⟨g_2, h⟩ := h
  refine rg_Plan_length E hp g_2 lk_47 d_Plan_firstDoneFrom_13 (fun x_1 ex_1 => ?_)
  replace h := h x_1 ex_1
  refine lv_goto (tgt := 25) hx hb d_Plan_firstDoneFrom_16 (by decide) ?_
  exact mp_iret E hr hp hS h d_Plan_firstDoneFrom_25
set_option maxHeartbeats 4000000 in
set_option maxRecDepth 100000 in
theorem t_Plan_firstDoneFrom_0 {G : Gc} {P : Int32 → Mm → Prop} (E : En G R_Plan b_Plan_firstDoneFrom 2 p s mt args meth c) (hr : meth.sig.returnType = some .int) (m : Mm) (v0 : Nat) (v1 : Int32) (H : Heap) (locs : List Loc) (ls : Array Slot) (h : wp_Plan_firstDoneFrom_0 P m v0 v1) (hp : pic G m H) (hS : va_S (fr G) s.heap H locs) (hl : lv_has ls 2 [(0, rn v0), (1, .int v1)]) : W p l e rm_Plan_firstDoneFrom s mt args below meth c H locs 0 0 (MQ below (PoI G P) args s 0 0 (fr G)) (F0 mt 0 ls []) := by
  have hx := E.1
  have hb := E.2.1
  unfold wp_Plan_firstDoneFrom_0 at h
  refine lv_iload_n hx hb d_Plan_firstDoneFrom_0 rfl (lv_at hl 1 rfl) ?_
  refine lv_if_lt (tgt := 12) hx hb d_Plan_firstDoneFrom_1 (by decide) (fun g_1 => ?_) (fun g_1 => ?_)
  · replace h := h.1 g_1
    exact t_Plan_firstDoneFrom_12 E hr m v0 _ _ _ h hp hS (lv_sub hl [0] rfl)
  · replace h := h.2 g_1
    refine lv_iload_n hx hb d_Plan_firstDoneFrom_4 rfl (lv_at hl 1 rfl) ?_
    refine rr_aload_n hx hb d_Plan_firstDoneFrom_5 rfl (lv_at hl 0 rfl) ?_
    obtain ⟨g_3, h⟩ := h
    refine rg_Plan_length E hp g_3 lk_47 d_Plan_firstDoneFrom_6 (fun x_2 ex_2 => ?_)
    replace h := h x_2 ex_2
    refine lv_icmp_lt (tgt := 19) hx hb d_Plan_firstDoneFrom_9 (by decide) (fun g_4 => ?_) (fun g_4 => ?_)
    · replace h := h.1 g_4
      refine rr_aload_n hx hb d_Plan_firstDoneFrom_19 rfl (lv_at hl 0 rfl) ?_
      obtain ⟨g_6, h⟩ := h
      refine rg_Plan_doneFrom E hp g_6 lk_44 d_Plan_firstDoneFrom_20 (fun x_5 ex_5 => ?_)
      replace h := h x_5 ex_5
      refine lv_iload_n hx hb d_Plan_firstDoneFrom_23 rfl (lv_at hl 1 rfl) ?_
      obtain ⟨g_8, g_9, h⟩ := h
      refine mp_iald (t0 := 1) E hp g_8 (by decide) rfl rfl g_9 d_Plan_firstDoneFrom_24 (fun x_7 ex_7 => ?_)
      replace h := h x_7 ex_7
      exact mp_iret E hr hp hS h d_Plan_firstDoneFrom_25
    · replace h := h.2 g_4
      exact t_Plan_firstDoneFrom_12 E hr m v0 _ _ _ h hp hS (lv_sub hl [0] rfl)
set_option maxHeartbeats 4000000 in
set_option maxRecDepth 100000 in
theorem c_Plan_firstDoneFrom (l : Launch) (G : Gc) (m : Mm) (v0 : Nat) (v1 : Int32) (P : Int32 → Mm → Prop) (h : wp_Plan_firstDoneFrom m v0 v1 P) : Met l y_Plan_firstDoneFrom (Cond.code y_Plan_firstDoneFrom b_Plan_firstDoneFrom 2 (some .int) :: lw_good) rm_Plan_firstDoneFrom (Pre9 G m [rn v0, .int v1]) (PoI G P) 0 0 (fr G) := by
  refine Met.ofW (cc := b_Plan_firstDoneFrom) (maxL := 2) (ret := (some .int)) (by decide) rfl ?_
  intro p e s mt args below meth c s₁ B hml hv
  obtain ⟨rfl, hp, hC⟩ := hv
  have hts := atoms_spec (ws := Cond.code y_Plan_firstDoneFrom b_Plan_firstDoneFrom 2 (some .int) :: lw_good) B.pre
  have E : En G R_Plan b_Plan_firstDoneFrom 2 p s mt _ meth c := ⟨B.exec, B.bytes, hml, findClass_of_methodNamed B.named, fun w hw => hts w (List.mem_cons_of_mem _ hw), hC, B.notSynchronized⟩
  have hr := B.returns
  have hl := lv_entry [rn v0, .int v1] (n := 2) (by simp [lg_sl, rn_cat, cat_int, cat_long, cat_ref, cat_null])
  rw [lg_entry_eq]
  generalize (lg_sl [rn v0, .int v1] ++ List.replicate (2 - (lg_sl [rn v0, .int v1]).length) Slot.unset).toArray = ls at hl ⊢
  have hl : lv_has ls 2 [(0, rn v0), (1, .int v1)] := by simpa [lv_args, rn_cat, cat_int, cat_long, cat_ref, cat_null] using hl
  exact t_Plan_firstDoneFrom_0 E hr m v0 v1 _ _ _ h hp va_S.rf (lv_sub hl [0, 1] rfl)
abbrev rm_Machine_begin : Room := { frames := 3, cells := 0, slots := 0, locals := 85 }
set_option maxHeartbeats 4000000 in
set_option maxRecDepth 100000 in
theorem t_Machine_begin_0 {G : Gc} {P : Mm → Prop} (E : En G R_Machine b_Machine_begin 2 p s mt args meth c) (hr : meth.sig.returnType = none) (m : Mm) (v0 : Nat) (v1 : Nat) (H : Heap) (locs : List Loc) (ls : Array Slot) (h : wp_Machine_begin_0 P m v0 v1) (hp : pic G m H) (hS : va_S (fr G) s.heap H locs) (hl : lv_has ls 2 [(0, rn v0), (1, rn v1)]) : W p l e rm_Machine_begin s mt args below meth c H locs 0 0 (MQ below (PoV G P) args s 0 0 (fr G)) (F0 mt 0 ls []) := by
  have hx := E.1
  have hb := E.2.1
  unfold wp_Machine_begin_0 at h
  refine rr_aload_n hx hb d_Machine_begin_0 rfl (lv_at hl 0 rfl) ?_
  obtain ⟨g_2, h⟩ := h
  refine rg_Machine_device E hp g_2 lk_52 d_Machine_begin_1 (fun x_1 ex_1 => ?_)
  replace h := h x_1 ex_1
  obtain ⟨g_5, h⟩ := h
  refine mc_v hS (mc_runV (As := []) (rest := []) E (c_Device_keep l G m x_1 _ h) wd_Device_keep ⟨lk_133, lk_134, lk_135⟩ rfl rfl ⟨Nat.le_of_ble_eq_true rfl, Nat.le_of_ble_eq_true rfl⟩ hp hS g_5 (by decide) rfl rfl rfl hl.1 rfl (lv_room (Nat.le_of_ble_eq_true rfl)) d_Machine_begin_4 ⟨Nat.le_of_ble_eq_true rfl, Nat.le_of_ble_eq_true rfl⟩) (fun m_3 h H locs hp hS => ?_)
  try dsimp only at h
  refine rr_aload_n hx hb d_Machine_begin_7 rfl (lv_at hl 0 rfl) ?_
  obtain ⟨g_7, h⟩ := h
  refine rg_Machine_resources E hp g_7 lk_56 d_Machine_begin_8 (fun x_6 ex_6 => ?_)
  replace h := h x_6 ex_6
  obtain ⟨g_10, h⟩ := h
  refine mc_v hS (mc_runV (As := []) (rest := []) E (c_Resources_keep l G m_3 x_6 _ h) wd_Resources_keep ⟨lk_136, lk_137, lk_138⟩ rfl rfl ⟨Nat.le_of_ble_eq_true rfl, Nat.le_of_ble_eq_true rfl⟩ hp hS g_10 (by decide) rfl rfl rfl hl.1 rfl (lv_room (Nat.le_of_ble_eq_true rfl)) d_Machine_begin_11 ⟨Nat.le_of_ble_eq_true rfl, Nat.le_of_ble_eq_true rfl⟩) (fun m_8 h H locs hp hS => ?_)
  try dsimp only at h
  refine rr_aload_n hx hb d_Machine_begin_14 rfl (lv_at hl 0 rfl) ?_
  obtain ⟨g_12, h⟩ := h
  refine rg_Machine_files E hp g_12 lk_60 d_Machine_begin_15 (fun x_11 ex_11 => ?_)
  replace h := h x_11 ex_11
  obtain ⟨g_15, h⟩ := h
  refine mc_v hS (mc_runV (As := []) (rest := []) E (c_FileTree_keep l G m_8 x_11 _ h) wd_FileTree_keep ⟨lk_139, lk_140, lk_141⟩ rfl rfl ⟨Nat.le_of_ble_eq_true rfl, Nat.le_of_ble_eq_true rfl⟩ hp hS g_15 (by decide) rfl rfl rfl hl.1 rfl (lv_room (Nat.le_of_ble_eq_true rfl)) d_Machine_begin_18 ⟨Nat.le_of_ble_eq_true rfl, Nat.le_of_ble_eq_true rfl⟩) (fun m_13 h H locs hp hS => ?_)
  try dsimp only at h
  refine rr_aload_n hx hb d_Machine_begin_21 rfl (lv_at hl 0 rfl) ?_
  obtain ⟨g_17, h⟩ := h
  refine rg_Machine_plan E hp g_17 lk_76 d_Machine_begin_22 (fun x_16 ex_16 => ?_)
  replace h := h x_16 ex_16
  refine rr_aload_n hx hb d_Machine_begin_25 rfl (lv_at hl 1 rfl) ?_
  obtain ⟨g_20, h⟩ := h
  refine mc_v hS (mc_runV (As := [rn v1]) (rest := []) E (c_Plan_prepare l G m_13 x_16 v1 _ h) wd_Plan_prepare ⟨lk_142, lk_143, lk_144⟩ rfl rfl ⟨Nat.le_of_ble_eq_true rfl, Nat.le_of_ble_eq_true rfl⟩ hp hS g_20 (by decide) rfl rfl rfl hl.1 rfl (lv_room (Nat.le_of_ble_eq_true rfl)) d_Machine_begin_26 ⟨Nat.le_of_ble_eq_true rfl, Nat.le_of_ble_eq_true rfl⟩) (fun m_18 h H locs hp hS => ?_)
  try dsimp only at h
  refine rr_aload_n hx hb d_Machine_begin_29 rfl (lv_at hl 0 rfl) ?_
  obtain ⟨g_22, h⟩ := h
  refine rg_Machine_stack E hp g_22 lk_72 d_Machine_begin_30 (fun x_21 ex_21 => ?_)
  replace h := h x_21 ex_21
  obtain ⟨g_25, h⟩ := h
  refine mc_v hS (mc_runV (As := []) (rest := []) E (c_Numbers_clear l G m_18 x_21 _ h) wd_Numbers_clear ⟨lk_145, lk_146, lk_147⟩ rfl rfl ⟨Nat.le_of_ble_eq_true rfl, Nat.le_of_ble_eq_true rfl⟩ hp hS g_25 (by decide) rfl rfl rfl hl.1 rfl (lv_room (Nat.le_of_ble_eq_true rfl)) d_Machine_begin_33 ⟨Nat.le_of_ble_eq_true rfl, Nat.le_of_ble_eq_true rfl⟩) (fun m_23 h H locs hp hS => ?_)
  try dsimp only at h
  refine rr_aload_n hx hb d_Machine_begin_36 rfl (lv_at hl 0 rfl) ?_
  refine lv_iconst (v := 0) hx hb d_Machine_begin_37 (by decide) ?_
  obtain ⟨g_26, h⟩ := h
  refine rp_Machine_loopCount E hp hS g_26 lk_78 d_Machine_begin_38 (fun m_27 em_27 H locs hp hS => ?_)
  replace h := h m_27 em_27
  refine rr_aload_n hx hb d_Machine_begin_41 rfl (lv_at hl 0 rfl) ?_
  refine lv_iconst (v := 0) hx hb d_Machine_begin_42 (by decide) ?_
  obtain ⟨g_28, h⟩ := h
  refine rp_Machine_marks E hp hS g_28 lk_79 d_Machine_begin_43 (fun m_29 em_29 H locs hp hS => ?_)
  replace h := h m_29 em_29
  refine rr_aload_n hx hb d_Machine_begin_46 rfl (lv_at hl 0 rfl) ?_
  refine rr_aload_n hx hb d_Machine_begin_47 rfl (lv_at hl 0 rfl) ?_
  obtain ⟨g_31, h⟩ := h
  refine rg_Machine_plan E hp g_31 lk_76 d_Machine_begin_48 (fun x_30 ex_30 => ?_)
  replace h := h x_30 ex_30
  refine lv_iconst (v := 0) hx hb d_Machine_begin_51 (by decide) ?_
  obtain ⟨g_34, h⟩ := h
  refine mc_i hS (mc_runV (As := [.int 0]) (rest := [rn v0]) E (c_Plan_firstDoneFrom l G m_29 x_30 0 _ h) wd_Plan_firstDoneFrom ⟨lk_148, lk_149, lk_150⟩ rfl rfl ⟨Nat.le_of_ble_eq_true rfl, Nat.le_of_ble_eq_true rfl⟩ hp hS g_34 (by decide) rfl rfl rfl hl.1 rfl (lv_room (by simp [rn_cat, cat_int, cat_long, cat_ref, cat_null])) d_Machine_begin_52 ⟨Nat.le_of_ble_eq_true rfl, Nat.le_of_ble_eq_true rfl⟩) (fun r_33 m_32 h H locs hp hS => ?_)
  try dsimp only at h
  obtain ⟨g_35, h⟩ := h
  refine rp_Machine_nextPlace E hp hS g_35 lk_80 d_Machine_begin_55 (fun m_36 em_36 H locs hp hS => ?_)
  replace h := h m_36 em_36
  exact mp_vret E hr hp hS h d_Machine_begin_58
set_option maxHeartbeats 4000000 in
set_option maxRecDepth 100000 in
theorem c_Machine_begin (l : Launch) (G : Gc) (m : Mm) (v0 : Nat) (v1 : Nat) (P : Mm → Prop) (h : wp_Machine_begin m v0 v1 P) : Met l y_Machine_begin (Cond.code y_Machine_begin b_Machine_begin 2 none :: lw_good) rm_Machine_begin (Pre9 G m [rn v0, rn v1]) (PoV G P) 0 0 (fr G) := by
  refine Met.ofW (cc := b_Machine_begin) (maxL := 2) (ret := none) (by decide) rfl ?_
  intro p e s mt args below meth c s₁ B hml hv
  obtain ⟨rfl, hp, hC⟩ := hv
  have hts := atoms_spec (ws := Cond.code y_Machine_begin b_Machine_begin 2 none :: lw_good) B.pre
  have E : En G R_Machine b_Machine_begin 2 p s mt _ meth c := ⟨B.exec, B.bytes, hml, findClass_of_methodNamed B.named, fun w hw => hts w (List.mem_cons_of_mem _ hw), hC, B.notSynchronized⟩
  have hr := B.returns
  have hl := lv_entry [rn v0, rn v1] (n := 2) (by simp [lg_sl, rn_cat, cat_int, cat_long, cat_ref, cat_null])
  rw [lg_entry_eq]
  generalize (lg_sl [rn v0, rn v1] ++ List.replicate (2 - (lg_sl [rn v0, rn v1]).length) Slot.unset).toArray = ls at hl ⊢
  have hl : lv_has ls 2 [(0, rn v0), (1, rn v1)] := by simpa [lv_args, rn_cat, cat_int, cat_long, cat_ref, cat_null] using hl
  exact t_Machine_begin_0 E hr m v0 v1 _ _ _ h hp va_S.rf (lv_sub hl [0, 1] rfl)
abbrev rm_Numbers_lay : Room := { frames := 0, cells := 0, slots := 0, locals := 0 }
set_option maxHeartbeats 4000000 in
set_option maxRecDepth 100000 in
theorem t_Numbers_lay_0 {G : Gc} {P : Int32 → Mm → Prop} (E : En G R_Numbers b_Numbers_lay 2 p s mt args meth c) (hr : meth.sig.returnType = some .int) (m : Mm) (v0 : Nat) (v1 : Int32) (H : Heap) (locs : List Loc) (ls : Array Slot) (h : wp_Numbers_lay_0 P m v0 v1) (hp : pic G m H) (hS : va_S (fr G) s.heap H locs) (hl : lv_has ls 2 [(0, rn v0), (1, .int v1)]) : W p l e rm_Numbers_lay s mt args below meth c H locs 0 0 (MQ below (PoI G P) args s 0 0 (fr G)) (F0 mt 0 ls []) := by
  have hx := E.1
  have hb := E.2.1
  unfold wp_Numbers_lay_0 at h
  refine rr_aload_n hx hb d_Numbers_lay_0 rfl (lv_at hl 0 rfl) ?_
  obtain ⟨g_2, h⟩ := h
  refine rg_Numbers_height E hp g_2 lk_42 d_Numbers_lay_1 (fun x_1 ex_1 => ?_)
  replace h := h x_1 ex_1
  refine lv_bipush (v := 20) hx hb d_Numbers_lay_4 (by decide) ?_
  refine lv_icmp_lt (tgt := 12) hx hb d_Numbers_lay_6 (by decide) (fun g_3 => ?_) (fun g_3 => ?_)
  · replace h := h.1 g_3
    refine rr_aload_n hx hb d_Numbers_lay_12 rfl (lv_at hl 0 rfl) ?_
    obtain ⟨g_5, h⟩ := h
    refine rg_Numbers_numbers E hp g_5 lk_41 d_Numbers_lay_13 (fun x_4 ex_4 => ?_)
    replace h := h x_4 ex_4
    refine rr_aload_n hx hb d_Numbers_lay_16 rfl (lv_at hl 0 rfl) ?_
    obtain ⟨g_7, h⟩ := h
    refine rg_Numbers_height E hp g_7 lk_42 d_Numbers_lay_17 (fun x_6 ex_6 => ?_)
    replace h := h x_6 ex_6
    refine lv_iload_n hx hb d_Numbers_lay_20 rfl (lv_at hl 1 rfl) ?_
    obtain ⟨g_8, g_9, h⟩ := h
    refine mp_iast (t0 := 1) E hp hS g_8 (by decide) rfl cw_20 rfl g_9 d_Numbers_lay_21 (fun m_10 em_10 H locs hp hS => ?_)
    replace h := h m_10 em_10
    refine rr_aload_n hx hb d_Numbers_lay_22 rfl (lv_at hl 0 rfl) ?_
    refine lv_dup hx hb d_Numbers_lay_23 (rn_cat _) ?_
    obtain ⟨g_12, h⟩ := h
    refine rg_Numbers_height E hp g_12 lk_42 d_Numbers_lay_24 (fun x_11 ex_11 => ?_)
    replace h := h x_11 ex_11
    refine lv_iconst (v := 1) hx hb d_Numbers_lay_27 (by decide) ?_
    refine lv_iadd hx hb d_Numbers_lay_28 ?_
    refine lv_topi (fun x_13 ex_13 => ?_)
    replace h := h x_13 ex_13
    obtain ⟨g_14, h⟩ := h
    refine rp_Numbers_height E hp hS g_14 lk_42 d_Numbers_lay_29 (fun m_15 em_15 H locs hp hS => ?_)
    replace h := h m_15 em_15
    refine lv_iconst (v := 0) hx hb d_Numbers_lay_32 (by decide) ?_
    exact mp_iret E hr hp hS h d_Numbers_lay_33
  · replace h := h.2 g_3
    refine lv_bipush (v := 6) hx hb d_Numbers_lay_9 (by decide) ?_
    exact mp_iret E hr hp hS h d_Numbers_lay_11
set_option maxHeartbeats 4000000 in
set_option maxRecDepth 100000 in
theorem c_Numbers_lay (l : Launch) (G : Gc) (m : Mm) (v0 : Nat) (v1 : Int32) (P : Int32 → Mm → Prop) (h : wp_Numbers_lay m v0 v1 P) : Met l y_Numbers_lay (Cond.code y_Numbers_lay b_Numbers_lay 2 (some .int) :: lw_good) rm_Numbers_lay (Pre9 G m [rn v0, .int v1]) (PoI G P) 0 0 (fr G) := by
  refine Met.ofW (cc := b_Numbers_lay) (maxL := 2) (ret := (some .int)) (by decide) rfl ?_
  intro p e s mt args below meth c s₁ B hml hv
  obtain ⟨rfl, hp, hC⟩ := hv
  have hts := atoms_spec (ws := Cond.code y_Numbers_lay b_Numbers_lay 2 (some .int) :: lw_good) B.pre
  have E : En G R_Numbers b_Numbers_lay 2 p s mt _ meth c := ⟨B.exec, B.bytes, hml, findClass_of_methodNamed B.named, fun w hw => hts w (List.mem_cons_of_mem _ hw), hC, B.notSynchronized⟩
  have hr := B.returns
  have hl := lv_entry [rn v0, .int v1] (n := 2) (by simp [lg_sl, rn_cat, cat_int, cat_long, cat_ref, cat_null])
  rw [lg_entry_eq]
  generalize (lg_sl [rn v0, .int v1] ++ List.replicate (2 - (lg_sl [rn v0, .int v1]).length) Slot.unset).toArray = ls at hl ⊢
  have hl : lv_has ls 2 [(0, rn v0), (1, .int v1)] := by simpa [lv_args, rn_cat, cat_int, cat_long, cat_ref, cat_null] using hl
  exact t_Numbers_lay_0 E hr m v0 v1 _ _ _ h hp va_S.rf (lv_sub hl [0, 1] rfl)
end WK
