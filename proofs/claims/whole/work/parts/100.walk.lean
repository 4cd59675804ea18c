section WK
variable {p : Program} {l : Launch} {e : Env} {s : State} {mt : MethodId} {args : Array Value} {below : List Frame} {meth : Method} {c : Code}
abbrev rm_Device_init : Room := { frames := 1, cells := 2, slots := 8, locals := 64 }
set_option maxHeartbeats 4000000 in
set_option maxRecDepth 100000 in
theorem t_Device_init_20 {G : Gc} {P : Mm → Prop} (E : En G R_Device b_Device_init 2 p s mt args meth c) (hr : meth.sig.returnType = none) (hin : meth.name = "<init>") : ∀ (n : Nat) (m : Mm) (v0 : Nat) (v1 : Int32) (H : Heap) (locs : List Loc) (ls : Array Slot) (cs sl : Nat) (_ : cs + (n * 0 + 0) ≤ 2) (_ : sl + (n * 0 + 0) ≤ 8) (_ : wp_Device_init_20 P n m v0 v1) (_ : pic G m H) (_ : va_S (fr G) s.heap H locs) (_ : lv_has ls 2 [(0, rn v0), (1, .int v1)]), W p l e rm_Device_init s mt args below meth c H locs cs sl (MQ below (PoV G P) args s 2 8 (fr G)) (F0 mt 20 ls []) := by
  intro n
  induction n with
  | zero => intro m v0 v1 H locs ls cs sl hc hs h hp hS hl; exact h.elim
  | succ n ih =>
    intro m v0 v1 H locs ls cs sl hc hs h hp hS hl
    have hx := E.1
    have hb := E.2.1
    unfold wp_Device_init_20 at h
    refine lv_iload_n hx hb d_Device_init_20 rfl (lv_at hl 1 rfl) ?_
    refine lv_iconst (v := 4) hx hb d_Device_init_21 (by decide) ?_
    refine lv_icmp_ge (tgt := 42) hx hb d_Device_init_22 (by decide) (fun g_1 => ?_) (fun g_1 => ?_)
    · replace h := h.1 g_1
      refine W.widen (k := 2) (n := 8) (by omega) (by omega) ?_
      exact mp_vret E hr hp hS h d_Device_init_42
    · replace h := h.2 g_1
      refine rr_aload_n hx hb d_Device_init_25 rfl (lv_at hl 0 rfl) ?_
      obtain ⟨g_3, h⟩ := h
      refine rg_Device_settings E hp g_3 lk_0 d_Device_init_26 (fun x_2 ex_2 => ?_)
      replace h := h x_2 ex_2
      refine lv_iload_n hx hb d_Device_init_29 rfl (lv_at hl 1 rfl) ?_
      refine rsN_0 E hS (Nw_0 (Cx_nw E.2.2.2.2.2.1)) d_Device_init_30 ?_
      refine lv_iload_n hx hb d_Device_init_33 rfl (lv_at hl 1 rfl) ?_
      obtain ⟨g_6, h⟩ := h
      refine rt_0 E hS g_6 d_Device_init_34 (fun x_4 ex_4 => ?_)
      replace h := h x_4 ex_4
      obtain ⟨g_7, g_8, h⟩ := h
      refine mp_iast (t0 := 1) E hp hS g_7 (by decide) rfl cw_14 rfl g_8 d_Device_init_35 (fun m_9 em_9 H locs hp hS => ?_)
      replace h := h m_9 em_9
      obtain ⟨x_10, ex_10⟩ : ∃ y : Int32, y = v1 + 1 := ⟨_, rfl⟩
      replace h := h x_10 ex_10
      refine lv_iinc (v := x_10) (lv' := [(1, .int x_10), (0, rn v0)]) hx hb d_Device_init_36 hl (k := 1) rfl (by rw [ex_10]; rfl) (by decide) (by simp [rn_cat]) (fun ls hl => ?_)
      refine lv_goto (tgt := 20) hx hb d_Device_init_39 (by decide) ?_
      exact ih m_9 v0 x_10 _ _ _ _ _ (by omega) (by omega) h hp hS (lv_sub hl [1, 0] rfl)
set_option maxHeartbeats 4000000 in
set_option maxRecDepth 100000 in
theorem t_Device_init_0 {G : Gc} {P : Mm → Prop} (E : En G R_Device b_Device_init 2 p s mt args meth c) (hr : meth.sig.returnType = none) (hin : meth.name = "<init>") (m : Mm) (v0 : Nat) (H : Heap) (locs : List Loc) (ls : Array Slot) (cs sl : Nat) (hc : cs + (2) ≤ 2) (hs : sl + (8) ≤ 8) (h : wp_Device_init_0 P m v0) (hp : pic G m H) (hS : va_S (fr G) s.heap H locs) (hl : lv_has ls 2 [(0, rn v0)]) : W p l e rm_Device_init s mt args below meth c H locs cs sl (MQ below (PoV G P) args s 2 8 (fr G)) (F0 mt 0 ls []) := by
  have hx := E.1
  have hb := E.2.1
  unfold wp_Device_init_0 at h
  refine rr_aload_n hx hb d_Device_init_0 rfl (lv_at hl 0 rfl) ?_
  obtain ⟨g_1, h⟩ := h
  refine mc_obj E ⟨lk_1, lk_2, lk_3⟩ g_1 hl.1 d_Device_init_1 (by decide) (by simp [JFrame.monitorRoom, rn_cat, cat_int, cat_long, cat_ref, cat_null, rm_Device_init]) ?_
  refine rr_aload_n hx hb d_Device_init_4 rfl (lv_at hl 0 rfl) ?_
  refine lv_iconst (v := 4) hx hb d_Device_init_5 (by decide) ?_
  refine na_14 (n := 4) (N' := 4) E hp hS (by decide) (by decide) (by decide) (by show _ + _ ≤ (2 : Nat); omega) (by show _ + _ ≤ (8 : Nat); omega) d_Device_init_6 (fun q_2 g_4 g_5 m_3 em_3 H hp hS => ?_)
  replace h := h q_2 g_4 g_5 m_3 em_3
  obtain ⟨g_8, h⟩ := h
  refine rp_Device_settings E hp hS g_8 lk_0 hin d_Device_init_8 (fun m_9 em_9 H locs hp hS => ?_)
  replace h := h m_9 em_9
  refine rr_aload_n hx hb d_Device_init_11 rfl (lv_at hl 0 rfl) ?_
  refine lv_iconst (v := 4) hx hb d_Device_init_12 (by decide) ?_
  refine na_15 (n := 4) (N' := 4) E hp hS (by decide) (by decide) (by decide) (by show _ + _ ≤ (2 : Nat); omega) (by show _ + _ ≤ (8 : Nat); omega) d_Device_init_13 (fun q_10 g_12 g_13 m_11 em_11 H hp hS => ?_)
  replace h := h q_10 g_12 g_13 m_11 em_11
  obtain ⟨g_16, h⟩ := h
  refine rp_Device_kept E hp hS g_16 lk_4 hin d_Device_init_15 (fun m_17 em_17 H locs hp hS => ?_)
  replace h := h m_17 em_17
  refine lv_iconst (v := 0) hx hb d_Device_init_18 (by decide) ?_
  refine lv_istore_n (lv' := [(1, .int 0), (0, rn v0)]) hx hb d_Device_init_19 rfl hl (by decide) (by simp [rn_cat]) (fun ls hl => ?_)
  obtain ⟨n_18, h⟩ := h
  exact t_Device_init_20 E hr hin n_18 m_17 v0 0 _ _ _ _ _ (by omega) (by omega) h hp hS (lv_sub hl [1, 0] rfl)
set_option maxHeartbeats 4000000 in
set_option maxRecDepth 100000 in
theorem c_Device_init (l : Launch) (G : Gc) (m : Mm) (v0 : Nat) (P : Mm → Prop) (h : wp_Device_init m v0 P) : Met l y_Device_init (Cond.code y_Device_init b_Device_init 2 none :: lw_good) rm_Device_init (Pre9 G m [rn v0]) (PoV G P) 2 8 (fr G) := by
  refine Met.ofW (cc := b_Device_init) (maxL := 2) (ret := none) (by decide) rfl ?_
  intro p e s mt args below meth c s₁ B hml hv
  obtain ⟨rfl, hp, hC⟩ := hv
  have hts := atoms_spec (ws := Cond.code y_Device_init b_Device_init 2 none :: lw_good) B.pre
  have E : En G R_Device b_Device_init 2 p s mt _ meth c := ⟨B.exec, B.bytes, hml, findClass_of_methodNamed B.named, fun w hw => hts w (List.mem_cons_of_mem _ hw), hC, B.notSynchronized⟩
  have hr := B.returns
  have hl := lv_entry [rn v0] (n := 2) (by simp [lg_sl, rn_cat, cat_int, cat_long, cat_ref, cat_null])
  rw [lg_entry_eq]
  generalize (lg_sl [rn v0] ++ List.replicate (2 - (lg_sl [rn v0]).length) Slot.unset).toArray = ls at hl ⊢
  have hl : lv_has ls 2 [(0, rn v0)] := by simpa [lv_args, rn_cat, cat_int, cat_long, cat_ref, cat_null] using hl
  exact t_Device_init_0 E hr (name_of_methodNamed B.named B.method).1 m v0 _ _ _ 0 0 (by omega) (by omega) h hp va_S.rf (lv_sub hl [0] rfl)
abbrev rm_Resources_init : Room := { frames := 1, cells := 2, slots := 80, locals := 64 }
set_option maxHeartbeats 4000000 in
set_option maxRecDepth 100000 in
theorem t_Resources_init_22 {G : Gc} {P : Mm → Prop} (E : En G R_Resources b_Resources_init 2 p s mt args meth c) (hr : meth.sig.returnType = none) (hin : meth.name = "<init>") : ∀ (n : Nat) (m : Mm) (v0 : Nat) (v1 : Int32) (H : Heap) (locs : List Loc) (ls : Array Slot) (cs sl : Nat) (_ : cs + (n * 0 + 0) ≤ 2) (_ : sl + (n * 0 + 0) ≤ 80) (_ : wp_Resources_init_22 P n m v0 v1) (_ : pic G m H) (_ : va_S (fr G) s.heap H locs) (_ : lv_has ls 2 [(0, rn v0), (1, .int v1)]), W p l e rm_Resources_init s mt args below meth c H locs cs sl (MQ below (PoV G P) args s 2 80 (fr G)) (F0 mt 22 ls []) := by
  intro n
  induction n with
  | zero => intro m v0 v1 H locs ls cs sl hc hs h hp hS hl; exact h.elim
  | succ n ih =>
    intro m v0 v1 H locs ls cs sl hc hs h hp hS hl
    have hx := E.1
    have hb := E.2.1
    unfold wp_Resources_init_22 at h
    refine lv_iload_n hx hb d_Resources_init_22 rfl (lv_at hl 1 rfl) ?_
    refine rr_aload_n hx hb d_Resources_init_23 rfl (lv_at hl 0 rfl) ?_
    obtain ⟨g_2, h⟩ := h
    refine rg_Resources_values E hp g_2 lk_5 d_Resources_init_24 (fun x_1 ex_1 => ?_)
    replace h := h x_1 ex_1
    obtain ⟨g_4, h⟩ := h
    refine mp_alen (t0 := 1) E hp g_4 (by decide) rfl rfl d_Resources_init_27 (fun x_3 ex_3 => ?_)
    replace h := h x_3 ex_3
    refine lv_icmp_ge (tgt := 44) hx hb d_Resources_init_28 (by decide) (fun g_5 => ?_) (fun g_5 => ?_)
    · replace h := h.1 g_5
      refine W.widen (k := 2) (n := 80) (by omega) (by omega) ?_
      exact mp_vret E hr hp hS h d_Resources_init_44
    · replace h := h.2 g_5
      refine rr_aload_n hx hb d_Resources_init_31 rfl (lv_at hl 0 rfl) ?_
      obtain ⟨g_7, h⟩ := h
      refine rg_Resources_values E hp g_7 lk_5 d_Resources_init_32 (fun x_6 ex_6 => ?_)
      replace h := h x_6 ex_6
      refine lv_iload_n hx hb d_Resources_init_35 rfl (lv_at hl 1 rfl) ?_
      refine lv_iconst (v := (-1)) hx hb d_Resources_init_36 (by decide) ?_
      obtain ⟨g_8, g_9, h⟩ := h
      refine mp_iast (t0 := 1) E hp hS g_8 (by decide) rfl cw_16 rfl g_9 d_Resources_init_37 (fun m_10 em_10 H locs hp hS => ?_)
      replace h := h m_10 em_10
      obtain ⟨x_11, ex_11⟩ : ∃ y : Int32, y = v1 + 1 := ⟨_, rfl⟩
      replace h := h x_11 ex_11
      refine lv_iinc (v := x_11) (lv' := [(1, .int x_11), (0, rn v0)]) hx hb d_Resources_init_38 hl (k := 1) rfl (by rw [ex_11]; rfl) (by decide) (by simp [rn_cat]) (fun ls hl => ?_)
      refine lv_goto (tgt := 22) hx hb d_Resources_init_41 (by decide) ?_
      exact ih m_10 v0 x_11 _ _ _ _ _ (by omega) (by omega) h hp hS (lv_sub hl [1, 0] rfl)
set_option maxHeartbeats 4000000 in
set_option maxRecDepth 100000 in
theorem t_Resources_init_0 {G : Gc} {P : Mm → Prop} (E : En G R_Resources b_Resources_init 2 p s mt args meth c) (hr : meth.sig.returnType = none) (hin : meth.name = "<init>") (m : Mm) (v0 : Nat) (H : Heap) (locs : List Loc) (ls : Array Slot) (cs sl : Nat) (hc : cs + (2) ≤ 2) (hs : sl + (80) ≤ 80) (h : wp_Resources_init_0 P m v0) (hp : pic G m H) (hS : va_S (fr G) s.heap H locs) (hl : lv_has ls 2 [(0, rn v0)]) : W p l e rm_Resources_init s mt args below meth c H locs cs sl (MQ below (PoV G P) args s 2 80 (fr G)) (F0 mt 0 ls []) := by
  have hx := E.1
  have hb := E.2.1
  unfold wp_Resources_init_0 at h
  refine rr_aload_n hx hb d_Resources_init_0 rfl (lv_at hl 0 rfl) ?_
  obtain ⟨g_1, h⟩ := h
  refine mc_obj E ⟨lk_6, lk_2, lk_3⟩ g_1 hl.1 d_Resources_init_1 (by decide) (by simp [JFrame.monitorRoom, rn_cat, cat_int, cat_long, cat_ref, cat_null, rm_Resources_init]) ?_
  refine rr_aload_n hx hb d_Resources_init_4 rfl (lv_at hl 0 rfl) ?_
  refine lv_bipush (v := 40) hx hb d_Resources_init_5 (by decide) ?_
  refine na_16 (n := 40) (N' := 40) E hp hS (by decide) (by decide) (by decide) (by show _ + _ ≤ (2 : Nat); omega) (by show _ + _ ≤ (80 : Nat); omega) d_Resources_init_7 (fun q_2 g_4 g_5 m_3 em_3 H hp hS => ?_)
  replace h := h q_2 g_4 g_5 m_3 em_3
  obtain ⟨g_8, h⟩ := h
  refine rp_Resources_values E hp hS g_8 lk_5 hin d_Resources_init_9 (fun m_9 em_9 H locs hp hS => ?_)
  replace h := h m_9 em_9
  refine rr_aload_n hx hb d_Resources_init_12 rfl (lv_at hl 0 rfl) ?_
  refine lv_bipush (v := 40) hx hb d_Resources_init_13 (by decide) ?_
  refine na_17 (n := 40) (N' := 40) E hp hS (by decide) (by decide) (by decide) (by show _ + _ ≤ (2 : Nat); omega) (by show _ + _ ≤ (80 : Nat); omega) d_Resources_init_15 (fun q_10 g_12 g_13 m_11 em_11 H hp hS => ?_)
  replace h := h q_10 g_12 g_13 m_11 em_11
  obtain ⟨g_16, h⟩ := h
  refine rp_Resources_kept E hp hS g_16 lk_7 hin d_Resources_init_17 (fun m_17 em_17 H locs hp hS => ?_)
  replace h := h m_17 em_17
  refine lv_iconst (v := 0) hx hb d_Resources_init_20 (by decide) ?_
  refine lv_istore_n (lv' := [(1, .int 0), (0, rn v0)]) hx hb d_Resources_init_21 rfl hl (by decide) (by simp [rn_cat]) (fun ls hl => ?_)
  obtain ⟨n_18, h⟩ := h
  exact t_Resources_init_22 E hr hin n_18 m_17 v0 0 _ _ _ _ _ (by omega) (by omega) h hp hS (lv_sub hl [1, 0] rfl)
set_option maxHeartbeats 4000000 in
set_option maxRecDepth 100000 in
theorem c_Resources_init (l : Launch) (G : Gc) (m : Mm) (v0 : Nat) (P : Mm → Prop) (h : wp_Resources_init m v0 P) : Met l y_Resources_init (Cond.code y_Resources_init b_Resources_init 2 none :: lw_good) rm_Resources_init (Pre9 G m [rn v0]) (PoV G P) 2 80 (fr G) := by
  refine Met.ofW (cc := b_Resources_init) (maxL := 2) (ret := none) (by decide) rfl ?_
  intro p e s mt args below meth c s₁ B hml hv
  obtain ⟨rfl, hp, hC⟩ := hv
  have hts := atoms_spec (ws := Cond.code y_Resources_init b_Resources_init 2 none :: lw_good) B.pre
  have E : En G R_Resources b_Resources_init 2 p s mt _ meth c := ⟨B.exec, B.bytes, hml, findClass_of_methodNamed B.named, fun w hw => hts w (List.mem_cons_of_mem _ hw), hC, B.notSynchronized⟩
  have hr := B.returns
  have hl := lv_entry [rn v0] (n := 2) (by simp [lg_sl, rn_cat, cat_int, cat_long, cat_ref, cat_null])
  rw [lg_entry_eq]
  generalize (lg_sl [rn v0] ++ List.replicate (2 - (lg_sl [rn v0]).length) Slot.unset).toArray = ls at hl ⊢
  have hl : lv_has ls 2 [(0, rn v0)] := by simpa [lv_args, rn_cat, cat_int, cat_long, cat_ref, cat_null] using hl
  exact t_Resources_init_0 E hr (name_of_methodNamed B.named B.method).1 m v0 _ _ _ 0 0 (by omega) (by omega) h hp va_S.rf (lv_sub hl [0] rfl)
abbrev rm_Store_init : Room := { frames := 1, cells := 1, slots := 400, locals := 64 }
set_option maxHeartbeats 4000000 in
set_option maxRecDepth 100000 in
theorem t_Store_init_0 {G : Gc} {P : Mm → Prop} (E : En G R_Store b_Store_init 2 p s mt args meth c) (hr : meth.sig.returnType = none) (hin : meth.name = "<init>") (m : Mm) (v0 : Nat) (v1 : Int32) (H : Heap) (locs : List Loc) (ls : Array Slot) (cs sl : Nat) (hc : cs + (1) ≤ 1) (hs : sl + (400) ≤ 400) (h : wp_Store_init_0 P m v0 v1) (hp : pic G m H) (hS : va_S (fr G) s.heap H locs) (hl : lv_has ls 2 [(0, rn v0), (1, .int v1)]) : W p l e rm_Store_init s mt args below meth c H locs cs sl (MQ below (PoV G P) args s 1 400 (fr G)) (F0 mt 0 ls []) := by
  have hx := E.1
  have hb := E.2.1
  unfold wp_Store_init_0 at h
  refine rr_aload_n hx hb d_Store_init_0 rfl (lv_at hl 0 rfl) ?_
  obtain ⟨g_1, h⟩ := h
  refine mc_obj E ⟨lk_8, lk_2, lk_3⟩ g_1 hl.1 d_Store_init_1 (by decide) (by simp [JFrame.monitorRoom, rn_cat, cat_int, cat_long, cat_ref, cat_null, rm_Store_init]) ?_
  refine rr_aload_n hx hb d_Store_init_4 rfl (lv_at hl 0 rfl) ?_
  refine lv_iconst (v := 0) hx hb d_Store_init_5 (by decide) ?_
  refine lv_iload_n hx hb d_Store_init_6 rfl (lv_at hl 1 rfl) ?_
  refine va_mmax hx hb (E.2.2.1.trans hl.1.symm) E.2.2.2.1 (E.2.2.2.2.1 _ lk_9) (E.2.2.2.2.1 _ lk_10) (E.2.2.2.2.1 _ lk_11) (E.2.2.2.2.1 _ lk_12) (by decide) (by simp [rn_cat, cat_int, cat_long, cat_ref, cat_null, rm_Store_init]) (by show _ ≤ (1 : Nat); omega) (by show _ ≤ (400 : Nat); omega) d_Store_init_7 ?_
  refine lv_topi (fun x_2 ex_2 => ?_)
  replace h := h x_2 ex_2
  obtain ⟨g_7, g_8, h⟩ := h
  refine na_26 E hp hS g_7 rfl (Nat.le_trans (Nat.mul_le_mul_right _ g_8) (by decide)) (by show _ + _ ≤ (1 : Nat); omega) (by show _ + _ ≤ (400 : Nat); omega) d_Store_init_10 (fun q_3 g_5 g_6 m_4 em_4 H hp hS => ?_)
  replace h := h q_3 g_5 g_6 m_4 em_4
  obtain ⟨g_9, h⟩ := h
  refine rp_Store_bytes E hp hS g_9 lk_13 hin d_Store_init_12 (fun m_10 em_10 H locs hp hS => ?_)
  replace h := h m_10 em_10
  refine rr_aload_n hx hb d_Store_init_15 rfl (lv_at hl 0 rfl) ?_
  refine lv_iconst (v := 0) hx hb d_Store_init_16 (by decide) ?_
  obtain ⟨g_11, h⟩ := h
  refine rp_Store_size E hp hS g_11 lk_14 d_Store_init_17 (fun m_12 em_12 H locs hp hS => ?_)
  replace h := h m_12 em_12
  refine rr_aload_n hx hb d_Store_init_20 rfl (lv_at hl 0 rfl) ?_
  refine lv_iconst (v := 0) hx hb d_Store_init_21 (by decide) ?_
  obtain ⟨g_13, h⟩ := h
  refine rp_Store_isThere E hp hS g_13 lk_15 (by decide) d_Store_init_22 (fun m_14 em_14 H locs hp hS => ?_)
  replace h := h m_14 em_14
  refine W.widen (k := 1) (n := 400) (by omega) (by omega) ?_
  exact mp_vret E hr hp hS h d_Store_init_25
set_option maxHeartbeats 4000000 in
set_option maxRecDepth 100000 in
theorem c_Store_init (l : Launch) (G : Gc) (m : Mm) (v0 : Nat) (v1 : Int32) (P : Mm → Prop) (h : wp_Store_init m v0 v1 P) : Met l y_Store_init (Cond.code y_Store_init b_Store_init 2 none :: lw_good) rm_Store_init (Pre9 G m [rn v0, .int v1]) (PoV G P) 1 400 (fr G) := by
  refine Met.ofW (cc := b_Store_init) (maxL := 2) (ret := none) (by decide) rfl ?_
  intro p e s mt args below meth c s₁ B hml hv
  obtain ⟨rfl, hp, hC⟩ := hv
  have hts := atoms_spec (ws := Cond.code y_Store_init b_Store_init 2 none :: lw_good) B.pre
  have E : En G R_Store b_Store_init 2 p s mt _ meth c := ⟨B.exec, B.bytes, hml, findClass_of_methodNamed B.named, fun w hw => hts w (List.mem_cons_of_mem _ hw), hC, B.notSynchronized⟩
  have hr := B.returns
  have hl := lv_entry [rn v0, .int v1] (n := 2) (by simp [lg_sl, rn_cat, cat_int, cat_long, cat_ref, cat_null])
  rw [lg_entry_eq]
  generalize (lg_sl [rn v0, .int v1] ++ List.replicate (2 - (lg_sl [rn v0, .int v1]).length) Slot.unset).toArray = ls at hl ⊢
  have hl : lv_has ls 2 [(0, rn v0), (1, .int v1)] := by simpa [lv_args, rn_cat, cat_int, cat_long, cat_ref, cat_null] using hl
  exact t_Store_init_0 E hr (name_of_methodNamed B.named B.method).1 m v0 v1 _ _ _ 0 0 (by omega) (by omega) h hp va_S.rf (lv_sub hl [0, 1] rfl)
abbrev rm_Handle_detach : Room := { frames := 0, cells := 0, slots := 0, locals := 0 }
set_option maxHeartbeats 4000000 in
set_option maxRecDepth 100000 in
theorem t_Handle_detach_0 {G : Gc} {P : Mm → Prop} (E : En G R_Handle b_Handle_detach 1 p s mt args meth c) (hr : meth.sig.returnType = none) (m : Mm) (v0 : Nat) (H : Heap) (locs : List Loc) (ls : Array Slot) (h : wp_Handle_detach_0 P m v0) (hp : pic G m H) (hS : va_S (fr G) s.heap H locs) (hl : lv_has ls 1 [(0, rn v0)]) : W p l e rm_Handle_detach s mt args below meth c H locs 0 0 (MQ below (PoV G P) args s 0 0 (fr G)) (F0 mt 0 ls []) := by
  have hx := E.1
  have hb := E.2.1
  unfold wp_Handle_detach_0 at h
  refine rr_aload_n hx hb d_Handle_detach_0 rfl (lv_at hl 0 rfl) ?_
  refine rr_null hx hb d_Handle_detach_1 ?_
  obtain ⟨g_1, h⟩ := h
  refine rp_Handle_store E hp hS g_1 lk_16 d_Handle_detach_2 (fun m_2 em_2 H locs hp hS => ?_)
  replace h := h m_2 em_2
  refine rr_aload_n hx hb d_Handle_detach_5 rfl (lv_at hl 0 rfl) ?_
  refine lv_iconst (v := 0) hx hb d_Handle_detach_6 (by decide) ?_
  obtain ⟨g_3, h⟩ := h
  refine rp_Handle_mode E hp hS g_3 lk_17 d_Handle_detach_7 (fun m_4 em_4 H locs hp hS => ?_)
  replace h := h m_4 em_4
  refine rr_aload_n hx hb d_Handle_detach_10 rfl (lv_at hl 0 rfl) ?_
  refine lv_iconst (v := 0) hx hb d_Handle_detach_11 (by decide) ?_
  obtain ⟨g_5, h⟩ := h
  refine rp_Handle_isOfJob E hp hS g_5 lk_18 (by decide) d_Handle_detach_12 (fun m_6 em_6 H locs hp hS => ?_)
  replace h := h m_6 em_6
  refine rr_aload_n hx hb d_Handle_detach_15 rfl (lv_at hl 0 rfl) ?_
  refine lv_iconst (v := 0) hx hb d_Handle_detach_16 (by decide) ?_
  obtain ⟨g_7, h⟩ := h
  refine rp_Handle_place E hp hS g_7 lk_19 d_Handle_detach_17 (fun m_8 em_8 H locs hp hS => ?_)
  replace h := h m_8 em_8
  refine rr_aload_n hx hb d_Handle_detach_20 rfl (lv_at hl 0 rfl) ?_
  refine lv_iconst (v := 0) hx hb d_Handle_detach_21 (by decide) ?_
  obtain ⟨g_9, h⟩ := h
  refine rp_Handle_filterCount E hp hS g_9 lk_20 d_Handle_detach_22 (fun m_10 em_10 H locs hp hS => ?_)
  replace h := h m_10 em_10
  refine rr_aload_n hx hb d_Handle_detach_25 rfl (lv_at hl 0 rfl) ?_
  refine lv_iconst (v := 0) hx hb d_Handle_detach_26 (by decide) ?_
  obtain ⟨g_11, h⟩ := h
  refine rp_Handle_keptFilterCount E hp hS g_11 lk_21 d_Handle_detach_27 (fun m_12 em_12 H locs hp hS => ?_)
  replace h := h m_12 em_12
  exact mp_vret E hr hp hS h d_Handle_detach_30
set_option maxHeartbeats 4000000 in
set_option maxRecDepth 100000 in
theorem c_Handle_detach (l : Launch) (G : Gc) (m : Mm) (v0 : Nat) (P : Mm → Prop) (h : wp_Handle_detach m v0 P) : Met l y_Handle_detach (Cond.code y_Handle_detach b_Handle_detach 1 none :: lw_good) rm_Handle_detach (Pre9 G m [rn v0]) (PoV G P) 0 0 (fr G) := by
  refine Met.ofW (cc := b_Handle_detach) (maxL := 1) (ret := none) (by decide) rfl ?_
  intro p e s mt args below meth c s₁ B hml hv
  obtain ⟨rfl, hp, hC⟩ := hv
  have hts := atoms_spec (ws := Cond.code y_Handle_detach b_Handle_detach 1 none :: lw_good) B.pre
  have E : En G R_Handle b_Handle_detach 1 p s mt _ meth c := ⟨B.exec, B.bytes, hml, findClass_of_methodNamed B.named, fun w hw => hts w (List.mem_cons_of_mem _ hw), hC, B.notSynchronized⟩
  have hr := B.returns
  have hl := lv_entry [rn v0] (n := 1) (by simp [lg_sl, rn_cat, cat_int, cat_long, cat_ref, cat_null])
  rw [lg_entry_eq]
  generalize (lg_sl [rn v0] ++ List.replicate (1 - (lg_sl [rn v0]).length) Slot.unset).toArray = ls at hl ⊢
  have hl : lv_has ls 1 [(0, rn v0)] := by simpa [lv_args, rn_cat, cat_int, cat_long, cat_ref, cat_null] using hl
  exact t_Handle_detach_0 E hr m v0 _ _ _ h hp va_S.rf (lv_sub hl [0] rfl)
abbrev rm_Handle_init : Room := { frames := 1, cells := 1, slots := 3, locals := 64 }
set_option maxHeartbeats 4000000 in
set_option maxRecDepth 100000 in
theorem t_Handle_init_0 {G : Gc} {P : Mm → Prop} (E : En G R_Handle b_Handle_init 1 p s mt args meth c) (hr : meth.sig.returnType = none) (hin : meth.name = "<init>") (m : Mm) (v0 : Nat) (H : Heap) (locs : List Loc) (ls : Array Slot) (cs sl : Nat) (hc : cs + (1) ≤ 1) (hs : sl + (3) ≤ 3) (h : wp_Handle_init_0 P m v0) (hp : pic G m H) (hS : va_S (fr G) s.heap H locs) (hl : lv_has ls 1 [(0, rn v0)]) : W p l e rm_Handle_init s mt args below meth c H locs cs sl (MQ below (PoV G P) args s 1 3 (fr G)) (F0 mt 0 ls []) := by
  have hx := E.1
  have hb := E.2.1
  unfold wp_Handle_init_0 at h
  refine rr_aload_n hx hb d_Handle_init_0 rfl (lv_at hl 0 rfl) ?_
  obtain ⟨g_1, h⟩ := h
  refine mc_obj E ⟨lk_22, lk_2, lk_3⟩ g_1 hl.1 d_Handle_init_1 (by decide) (by simp [JFrame.monitorRoom, rn_cat, cat_int, cat_long, cat_ref, cat_null, rm_Handle_init]) ?_
  refine rr_aload_n hx hb d_Handle_init_4 rfl (lv_at hl 0 rfl) ?_
  refine lv_iconst (v := 3) hx hb d_Handle_init_5 (by decide) ?_
  refine na_27 (n := 3) (N' := 3) E hp hS (by decide) (by decide) (by decide) (by show _ + _ ≤ (1 : Nat); omega) (by show _ + _ ≤ (3 : Nat); omega) d_Handle_init_6 (fun q_2 g_4 g_5 m_3 em_3 H hp hS => ?_)
  replace h := h q_2 g_4 g_5 m_3 em_3
  obtain ⟨g_8, h⟩ := h
  refine rp_Handle_filters E hp hS g_8 lk_23 hin d_Handle_init_8 (fun m_9 em_9 H locs hp hS => ?_)
  replace h := h m_9 em_9
  refine rr_aload_n hx hb d_Handle_init_11 rfl (lv_at hl 0 rfl) ?_
  obtain ⟨g_12, h⟩ := h
  refine mc_v hS (mc_runV (As := []) (rest := []) E (c_Handle_detach l G m_9 v0 _ h) wd_Handle_detach ⟨lk_24, lk_25, lk_26⟩ rfl rfl ⟨Nat.le_of_ble_eq_true rfl, Nat.le_of_ble_eq_true rfl⟩ hp hS g_12 (by decide) rfl rfl rfl hl.1 rfl (lv_room (Nat.le_of_ble_eq_true rfl)) d_Handle_init_12 ⟨by show _ + _ ≤ (1 : Nat); omega, by show _ + _ ≤ (3 : Nat); omega⟩) (fun m_10 h H locs hp hS => ?_)
  try dsimp only at h
  refine W.widen (k := 1) (n := 3) (by omega) (by omega) ?_
  exact mp_vret E hr hp hS h d_Handle_init_15
set_option maxHeartbeats 4000000 in
set_option maxRecDepth 100000 in
theorem c_Handle_init (l : Launch) (G : Gc) (m : Mm) (v0 : Nat) (P : Mm → Prop) (h : wp_Handle_init m v0 P) : Met l y_Handle_init (Cond.code y_Handle_init b_Handle_init 1 none :: lw_good) rm_Handle_init (Pre9 G m [rn v0]) (PoV G P) 1 3 (fr G) := by
  refine Met.ofW (cc := b_Handle_init) (maxL := 1) (ret := none) (by decide) rfl ?_
  intro p e s mt args below meth c s₁ B hml hv
  obtain ⟨rfl, hp, hC⟩ := hv
  have hts := atoms_spec (ws := Cond.code y_Handle_init b_Handle_init 1 none :: lw_good) B.pre
  have E : En G R_Handle b_Handle_init 1 p s mt _ meth c := ⟨B.exec, B.bytes, hml, findClass_of_methodNamed B.named, fun w hw => hts w (List.mem_cons_of_mem _ hw), hC, B.notSynchronized⟩
  have hr := B.returns
  have hl := lv_entry [rn v0] (n := 1) (by simp [lg_sl, rn_cat, cat_int, cat_long, cat_ref, cat_null])
  rw [lg_entry_eq]
  generalize (lg_sl [rn v0] ++ List.replicate (1 - (lg_sl [rn v0]).length) Slot.unset).toArray = ls at hl ⊢
  have hl : lv_has ls 1 [(0, rn v0)] := by simpa [lv_args, rn_cat, cat_int, cat_long, cat_ref, cat_null] using hl
  exact t_Handle_init_0 E hr (name_of_methodNamed B.named B.method).1 m v0 _ _ _ 0 0 (by omega) (by omega) h hp va_S.rf (lv_sub hl [0] rfl)
abbrev rm_Handle_attach : Room := { frames := 1, cells := 0, slots := 0, locals := 20 }
set_option maxHeartbeats 4000000 in
set_option maxRecDepth 100000 in
theorem t_Handle_attach_0 {G : Gc} {P : Mm → Prop} (E : En G R_Handle b_Handle_attach 4 p s mt args meth c) (hr : meth.sig.returnType = none) (m : Mm) (v0 : Nat) (v1 : Nat) (v2 : Int32) (v3 : Int32) (H : Heap) (locs : List Loc) (ls : Array Slot) (h : wp_Handle_attach_0 P m v0 v1 v2 v3) (hp : pic G m H) (hS : va_S (fr G) s.heap H locs) (hl : lv_has ls 4 [(0, rn v0), (1, rn v1), (2, .int v2), (3, .int v3)]) : W p l e rm_Handle_attach s mt args below meth c H locs 0 0 (MQ below (PoV G P) args s 0 0 (fr G)) (F0 mt 0 ls []) := by
  have hx := E.1
  have hb := E.2.1
  unfold wp_Handle_attach_0 at h
  refine rr_aload_n hx hb d_Handle_attach_0 rfl (lv_at hl 0 rfl) ?_
  obtain ⟨g_3, h⟩ := h
  refine mc_v hS (mc_runV (As := []) (rest := []) E (c_Handle_detach l G m v0 _ h) wd_Handle_detach ⟨lk_24, lk_25, lk_26⟩ rfl rfl ⟨Nat.le_of_ble_eq_true rfl, Nat.le_of_ble_eq_true rfl⟩ hp hS g_3 (by decide) rfl rfl rfl hl.1 rfl (lv_room (Nat.le_of_ble_eq_true rfl)) d_Handle_attach_1 ⟨Nat.le_of_ble_eq_true rfl, Nat.le_of_ble_eq_true rfl⟩) (fun m_1 h H locs hp hS => ?_)
  try dsimp only at h
  refine rr_aload_n hx hb d_Handle_attach_4 rfl (lv_at hl 0 rfl) ?_
  refine rr_aload_n hx hb d_Handle_attach_5 rfl (lv_at hl 1 rfl) ?_
  obtain ⟨g_4, h⟩ := h
  refine rp_Handle_store E hp hS g_4 lk_16 d_Handle_attach_6 (fun m_5 em_5 H locs hp hS => ?_)
  replace h := h m_5 em_5
  refine rr_aload_n hx hb d_Handle_attach_9 rfl (lv_at hl 0 rfl) ?_
  refine lv_iload_n hx hb d_Handle_attach_10 rfl (lv_at hl 2 rfl) ?_
  obtain ⟨g_6, h⟩ := h
  refine rp_Handle_mode E hp hS g_6 lk_17 d_Handle_attach_11 (fun m_7 em_7 H locs hp hS => ?_)
  replace h := h m_7 em_7
  refine rr_aload_n hx hb d_Handle_attach_14 rfl (lv_at hl 0 rfl) ?_
  refine lv_iload_n hx hb d_Handle_attach_15 rfl (lv_at hl 3 rfl) ?_
  obtain ⟨g_8, g_10, h⟩ := h
  refine rp_Handle_isOfJob E hp hS g_8 lk_18 g_10 d_Handle_attach_16 (fun m_9 em_9 H locs hp hS => ?_)
  replace h := h m_9 em_9
  exact mp_vret E hr hp hS h d_Handle_attach_19
set_option maxHeartbeats 4000000 in
set_option maxRecDepth 100000 in
theorem c_Handle_attach (l : Launch) (G : Gc) (m : Mm) (v0 : Nat) (v1 : Nat) (v2 : Int32) (v3 : Int32) (P : Mm → Prop) (h : wp_Handle_attach m v0 v1 v2 v3 P) : Met l y_Handle_attach (Cond.code y_Handle_attach b_Handle_attach 4 none :: lw_good) rm_Handle_attach (Pre9 G m [rn v0, rn v1, .int v2, .int v3]) (PoV G P) 0 0 (fr G) := by
  refine Met.ofW (cc := b_Handle_attach) (maxL := 4) (ret := none) (by decide) rfl ?_
  intro p e s mt args below meth c s₁ B hml hv
  obtain ⟨rfl, hp, hC⟩ := hv
  have hts := atoms_spec (ws := Cond.code y_Handle_attach b_Handle_attach 4 none :: lw_good) B.pre
  have E : En G R_Handle b_Handle_attach 4 p s mt _ meth c := ⟨B.exec, B.bytes, hml, findClass_of_methodNamed B.named, fun w hw => hts w (List.mem_cons_of_mem _ hw), hC, B.notSynchronized⟩
  have hr := B.returns
  have hl := lv_entry [rn v0, rn v1, .int v2, .int v3] (n := 4) (by simp [lg_sl, rn_cat, cat_int, cat_long, cat_ref, cat_null])
  rw [lg_entry_eq]
  generalize (lg_sl [rn v0, rn v1, .int v2, .int v3] ++ List.replicate (4 - (lg_sl [rn v0, rn v1, .int v2, .int v3]).length) Slot.unset).toArray = ls at hl ⊢
  have hl : lv_has ls 4 [(0, rn v0), (1, rn v1), (2, .int v2), (3, .int v3)] := by simpa [lv_args, rn_cat, cat_int, cat_long, cat_ref, cat_null] using hl
  exact t_Handle_attach_0 E hr m v0 v1 v2 v3 _ _ _ h hp va_S.rf (lv_sub hl [0, 1, 2, 3] rfl)
abbrev rm_FileTree_init : Room := { frames := 2, cells := 42, slots := 4934, locals := 85 }
set_option maxHeartbeats 4000000 in
set_option maxRecDepth 100000 in
theorem t_FileTree_init_92 {G : Gc} {P : Mm → Prop} (E : En G R_FileTree b_FileTree_init 3 p s mt args meth c) (hr : meth.sig.returnType = none) (hin : meth.name = "<init>") : ∀ (n : Nat) (m : Mm) (v0 : Nat) (v2 : Int32) (H : Heap) (locs : List Loc) (ls : Array Slot) (cs sl : Nat) (_ : cs + (n * 2 + 0) ≤ 42) (_ : sl + (n * 10 + 0) ≤ 4934) (_ : wp_FileTree_init_92 P n m v0 v2) (_ : pic G m H) (_ : va_S (fr G) s.heap H locs) (_ : lv_has ls 3 [(0, rn v0), (2, .int v2)]), W p l e rm_FileTree_init s mt args below meth c H locs cs sl (MQ below (PoV G P) args s 42 4934 (fr G)) (F0 mt 92 ls []) := by
  intro n
  induction n with
  | zero => intro m v0 v2 H locs ls cs sl hc hs h hp hS hl; exact h.elim
  | succ n ih =>
    intro m v0 v2 H locs ls cs sl hc hs h hp hS hl
    have hx := E.1
    have hb := E.2.1
    unfold wp_FileTree_init_92 at h
    refine lv_iload_n hx hb d_FileTree_init_92 rfl (lv_at hl 1 rfl) ?_
    refine lv_bipush (v := 7) hx hb d_FileTree_init_93 (by decide) ?_
    refine lv_icmp_gt (tgt := 117) hx hb d_FileTree_init_95 (by decide) (fun g_1 => ?_) (fun g_1 => ?_)
    · replace h := h.1 g_1
      refine W.widen (k := 42) (n := 4934) (by omega) (by omega) ?_
      exact mp_vret E hr hp hS h d_FileTree_init_117
    · replace h := h.2 g_1
      refine rr_aload_n hx hb d_FileTree_init_98 rfl (lv_at hl 0 rfl) ?_
      obtain ⟨g_3, h⟩ := h
      refine rg_FileTree_handles E hp g_3 lk_27 d_FileTree_init_99 (fun x_2 ex_2 => ?_)
      replace h := h x_2 ex_2
      refine lv_iload_n hx hb d_FileTree_init_102 rfl (lv_at hl 1 rfl) ?_
      refine rn_Handle E hp hS lk_28 (by show _ + _ ≤ (42 : Nat); omega) (by show _ + _ ≤ (4934 : Nat); omega) d_FileTree_init_103 (fun q_4 g_6 g_7 m_5 em_5 H hp hS => ?_)
      replace h := h q_4 g_6 g_7 m_5 em_5
      refine lv_dup hx hb d_FileTree_init_106 (rn_cat _) ?_
      refine mc_v hS (mc_runI (As := []) (rest := [rn q_4, .int v2, rn x_2]) E (c_Handle_init l G m_5 q_4 _ h) wd_Handle_init ⟨lk_29, lk_30⟩ rfl rfl rfl ⟨Nat.le_of_ble_eq_true rfl, Nat.le_of_ble_eq_true rfl⟩ hp hS g_7 rfl hl.1 rfl (lv_room (by simp [rn_cat, cat_int, cat_long, cat_ref, cat_null])) d_FileTree_init_107 ⟨by show _ + _ ≤ (42 : Nat); omega, by show _ + _ ≤ (4934 : Nat); omega⟩) (fun m_8 h H locs hp hS => ?_)
      try dsimp only at h
      obtain ⟨g_10, g_11, g_13, h⟩ := h
      refine mp_aast (t0 := 3) E hp hS g_10 (by decide) rfl cw_19 rfl g_13 (by decide) rfl rfl g_11 d_FileTree_init_110 (fun m_12 em_12 H locs hp hS => ?_)
      replace h := h m_12 em_12
      obtain ⟨x_14, ex_14⟩ : ∃ y : Int32, y = v2 + 1 := ⟨_, rfl⟩
      replace h := h x_14 ex_14
      refine lv_iinc (v := x_14) (lv' := [(2, .int x_14), (0, rn v0)]) hx hb d_FileTree_init_111 hl (k := 1) rfl (by rw [ex_14]; rfl) (by decide) rfl (fun ls hl => ?_)
      refine lv_goto (tgt := 92) hx hb d_FileTree_init_114 (by decide) ?_
      exact ih m_12 v0 x_14 _ _ _ _ _ (by omega) (by omega) h hp hS (lv_sub hl [1, 0] rfl)
set_option maxHeartbeats 4000000 in
set_option maxRecDepth 100000 in
theorem t_FileTree_init_15 {G : Gc} {P : Mm → Prop} (E : En G R_FileTree b_FileTree_init 3 p s mt args meth c) (hr : meth.sig.returnType = none) (hin : meth.name = "<init>") : ∀ (n : Nat) (m : Mm) (v0 : Nat) (v1 : Int32) (H : Heap) (locs : List Loc) (ls : Array Slot) (cs sl : Nat) (_ : cs + (n * 2 + 19) ≤ 42) (_ : sl + (n * 403 + 491) ≤ 4934) (_ : wp_FileTree_init_15 P n m v0 v1) (_ : pic G m H) (_ : va_S (fr G) s.heap H locs) (_ : lv_has ls 3 [(0, rn v0), (1, .int v1)]), W p l e rm_FileTree_init s mt args below meth c H locs cs sl (MQ below (PoV G P) args s 42 4934 (fr G)) (F0 mt 15 ls []) := by
  intro n
  induction n with
  | zero => intro m v0 v1 H locs ls cs sl hc hs h hp hS hl; exact h.elim
  | succ n ih =>
    intro m v0 v1 H locs ls cs sl hc hs h hp hS hl
    have hx := E.1
    have hb := E.2.1
    unfold wp_FileTree_init_15 at h
    refine lv_iload_n hx hb d_FileTree_init_15 rfl (lv_at hl 1 rfl) ?_
    refine lv_bipush (v := 10) hx hb d_FileTree_init_16 (by decide) ?_
    refine lv_icmp_ge (tgt := 42) hx hb d_FileTree_init_18 (by decide) (fun g_1 => ?_) (fun g_1 => ?_)
    · replace h := h.1 g_1
      refine rr_aload_n hx hb d_FileTree_init_42 rfl (lv_at hl 0 rfl) ?_
      refine rn_Store E hp hS lk_31 (by show _ + _ ≤ (42 : Nat); omega) (by show _ + _ ≤ (4934 : Nat); omega) d_FileTree_init_43 (fun q_2 g_4 g_5 m_3 em_3 H hp hS => ?_)
      replace h := h q_2 g_4 g_5 m_3 em_3
      refine lv_dup hx hb d_FileTree_init_46 (rn_cat _) ?_
      refine lv_sipush (v := 400) hx hb d_FileTree_init_47 (by decide) ?_
      refine mc_v hS (mc_runI (As := [.int 400]) (rest := [rn q_2, rn v0]) E (c_Store_init l G m_3 q_2 400 _ h) wd_Store_init ⟨lk_32, lk_33⟩ rfl rfl rfl ⟨Nat.le_of_ble_eq_true rfl, Nat.le_of_ble_eq_true rfl⟩ hp hS g_5 rfl hl.1 rfl (lv_room (by simp [rn_cat, cat_int, cat_long, cat_ref, cat_null])) d_FileTree_init_50 ⟨by show _ + _ ≤ (42 : Nat); omega, by show _ + _ ≤ (4934 : Nat); omega⟩) (fun m_6 h H locs hp hS => ?_)
      try dsimp only at h
      obtain ⟨g_8, h⟩ := h
      refine rp_FileTree_output E hp hS g_8 lk_34 hin d_FileTree_init_53 (fun m_9 em_9 H locs hp hS => ?_)
      replace h := h m_9 em_9
      refine rn_Handle E hp hS lk_28 (by show _ + _ ≤ (42 : Nat); omega) (by show _ + _ ≤ (4934 : Nat); omega) d_FileTree_init_56 (fun q_10 g_12 g_13 m_11 em_11 H hp hS => ?_)
      replace h := h q_10 g_12 g_13 m_11 em_11
      refine lv_dup hx hb d_FileTree_init_59 (rn_cat _) ?_
      refine mc_v hS (mc_runI (As := []) (rest := [rn q_10]) E (c_Handle_init l G m_11 q_10 _ h) wd_Handle_init ⟨lk_29, lk_30⟩ rfl rfl rfl ⟨Nat.le_of_ble_eq_true rfl, Nat.le_of_ble_eq_true rfl⟩ hp hS g_13 rfl hl.1 rfl (lv_room (by simp [rn_cat, cat_int, cat_long, cat_ref, cat_null])) d_FileTree_init_60 ⟨by show _ + _ ≤ (42 : Nat); omega, by show _ + _ ≤ (4934 : Nat); omega⟩) (fun m_14 h H locs hp hS => ?_)
      try dsimp only at h
      refine rr_astore_n (lv' := [(1, rn q_10), (0, rn v0)]) hx hb d_FileTree_init_63 rfl hl (by decide) (by simp [rn_cat]) (fun ls hl => ?_)
      refine rr_aload_n hx hb d_FileTree_init_64 rfl (lv_at hl 0 rfl) ?_
      refine rr_aload_n hx hb d_FileTree_init_65 rfl (lv_at hl 1 rfl) ?_
      obtain ⟨g_17, h⟩ := h
      refine rg_FileTree_output E hp g_17 lk_34 d_FileTree_init_66 (fun x_16 ex_16 => ?_)
      replace h := h x_16 ex_16
      refine lv_iconst (v := 1) hx hb d_FileTree_init_69 (by decide) ?_
      refine lv_iconst (v := 0) hx hb d_FileTree_init_70 (by decide) ?_
      obtain ⟨g_20, h⟩ := h
      refine mc_v hS (mc_runV (As := [rn x_16, .int 1, .int 0]) (rest := []) E (c_Handle_attach l G m_14 q_10 x_16 1 0 _ h) wd_Handle_attach ⟨lk_35, lk_36, lk_37⟩ rfl rfl ⟨Nat.le_of_ble_eq_true rfl, Nat.le_of_ble_eq_true rfl⟩ hp hS g_20 (by decide) rfl rfl rfl hl.1 rfl (lv_room (Nat.le_of_ble_eq_true rfl)) d_FileTree_init_71 ⟨by show _ + _ ≤ (42 : Nat); omega, by show _ + _ ≤ (4934 : Nat); omega⟩) (fun m_18 h H locs hp hS => ?_)
      try dsimp only at h
      refine rr_aload_n hx hb d_FileTree_init_74 rfl (lv_at hl 1 rfl) ?_
      refine lv_bipush (v := 8) hx hb d_FileTree_init_75 (by decide) ?_
      refine na_19 (n := 8) (N' := 8) E hp hS lk_28 (by decide) (by decide) (by decide) (by show _ + _ ≤ (42 : Nat); omega) (by show _ + _ ≤ (4934 : Nat); omega) d_FileTree_init_77 (fun q_21 g_23 g_24 m_22 em_22 H hp hS => ?_)
      replace h := h q_21 g_23 g_24 m_22 em_22
      obtain ⟨g_27, h⟩ := h
      refine rp_FileTree_handles E hp hS g_27 lk_27 hin d_FileTree_init_80 (fun m_28 em_28 H locs hp hS => ?_)
      replace h := h m_28 em_28
      refine rr_aload_n hx hb d_FileTree_init_83 rfl (lv_at hl 1 rfl) ?_
      obtain ⟨g_30, h⟩ := h
      refine rg_FileTree_handles E hp g_30 lk_27 d_FileTree_init_84 (fun x_29 ex_29 => ?_)
      replace h := h x_29 ex_29
      refine lv_iconst (v := 1) hx hb d_FileTree_init_87 (by decide) ?_
      refine rr_aload_n hx hb d_FileTree_init_88 rfl (lv_at hl 0 rfl) ?_
      obtain ⟨g_31, g_32, g_34, h⟩ := h
      refine mp_aast (t0 := 3) E hp hS g_31 (by decide) rfl cw_19 rfl g_34 (by decide) rfl rfl g_32 d_FileTree_init_89 (fun m_33 em_33 H locs hp hS => ?_)
      replace h := h m_33 em_33
      refine lv_iconst (v := 2) hx hb d_FileTree_init_90 (by decide) ?_
      refine lv_istore_n (lv' := [(2, .int 2), (1, rn q_10), (0, rn v0)]) hx hb d_FileTree_init_91 rfl hl (by decide) (by simp [rn_cat]) (fun ls hl => ?_)
      exact t_FileTree_init_92 E hr hin 7 m_33 v0 2 _ _ _ _ _ (by omega) (by omega) h hp hS (lv_sub hl [2, 0] rfl)
    · replace h := h.2 g_1
      refine rr_aload_n hx hb d_FileTree_init_21 rfl (lv_at hl 0 rfl) ?_
      obtain ⟨g_36, h⟩ := h
      refine rg_FileTree_stores E hp g_36 lk_38 d_FileTree_init_22 (fun x_35 ex_35 => ?_)
      replace h := h x_35 ex_35
      refine lv_iload_n hx hb d_FileTree_init_25 rfl (lv_at hl 1 rfl) ?_
      refine rn_Store E hp hS lk_31 (by show _ + _ ≤ (42 : Nat); omega) (by show _ + _ ≤ (4934 : Nat); omega) d_FileTree_init_26 (fun q_37 g_39 g_40 m_38 em_38 H hp hS => ?_)
      replace h := h q_37 g_39 g_40 m_38 em_38
      refine lv_dup hx hb d_FileTree_init_29 (rn_cat _) ?_
      refine lv_bipush (v := 100) hx hb d_FileTree_init_30 (by decide) ?_
      refine mc_v hS (mc_runI (As := [.int 100]) (rest := [rn q_37, .int v1, rn x_35]) E (c_Store_init l G m_38 q_37 100 _ h) wd_Store_init ⟨lk_32, lk_33⟩ rfl rfl rfl ⟨Nat.le_of_ble_eq_true rfl, Nat.le_of_ble_eq_true rfl⟩ hp hS g_40 rfl hl.1 rfl (lv_room (by simp [rn_cat, cat_int, cat_long, cat_ref, cat_null])) d_FileTree_init_32 ⟨by show _ + _ ≤ (42 : Nat); omega, by show _ + _ ≤ (4934 : Nat); omega⟩) (fun m_41 h H locs hp hS => ?_)
      try dsimp only at h
      obtain ⟨g_43, g_44, g_46, h⟩ := h
      refine mp_aast (t0 := 2) E hp hS g_43 (by decide) rfl cw_18 rfl g_46 (by decide) rfl rfl g_44 d_FileTree_init_35 (fun m_45 em_45 H locs hp hS => ?_)
      replace h := h m_45 em_45
      obtain ⟨x_47, ex_47⟩ : ∃ y : Int32, y = v1 + 1 := ⟨_, rfl⟩
      replace h := h x_47 ex_47
      refine lv_iinc (v := x_47) (lv' := [(1, .int x_47), (0, rn v0)]) hx hb d_FileTree_init_36 hl (k := 1) rfl (by rw [ex_47]; rfl) (by decide) (by simp [rn_cat]) (fun ls hl => ?_)
      refine lv_goto (tgt := 15) hx hb d_FileTree_init_39 (by decide) ?_
      exact ih m_45 v0 x_47 _ _ _ _ _ (by omega) (by omega) h hp hS (lv_sub hl [1, 0] rfl)
set_option maxHeartbeats 4000000 in
set_option maxRecDepth 100000 in
theorem t_FileTree_init_0 {G : Gc} {P : Mm → Prop} (E : En G R_FileTree b_FileTree_init 3 p s mt args meth c) (hr : meth.sig.returnType = none) (hin : meth.name = "<init>") (m : Mm) (v0 : Nat) (H : Heap) (locs : List Loc) (ls : Array Slot) (cs sl : Nat) (hc : cs + (42) ≤ 42) (hs : sl + (4934) ≤ 4934) (h : wp_FileTree_init_0 P m v0) (hp : pic G m H) (hS : va_S (fr G) s.heap H locs) (hl : lv_has ls 3 [(0, rn v0)]) : W p l e rm_FileTree_init s mt args below meth c H locs cs sl (MQ below (PoV G P) args s 42 4934 (fr G)) (F0 mt 0 ls []) := by
  have hx := E.1
  have hb := E.2.1
  unfold wp_FileTree_init_0 at h
  refine rr_aload_n hx hb d_FileTree_init_0 rfl (lv_at hl 0 rfl) ?_
  obtain ⟨g_1, h⟩ := h
  refine mc_obj E ⟨lk_39, lk_2, lk_3⟩ g_1 hl.1 d_FileTree_init_1 (by decide) (by simp [JFrame.monitorRoom, rn_cat, cat_int, cat_long, cat_ref, cat_null, rm_FileTree_init]) ?_
  refine rr_aload_n hx hb d_FileTree_init_4 rfl (lv_at hl 0 rfl) ?_
  refine lv_bipush (v := 10) hx hb d_FileTree_init_5 (by decide) ?_
  refine na_18 (n := 10) (N' := 10) E hp hS lk_31 (by decide) (by decide) (by decide) (by show _ + _ ≤ (42 : Nat); omega) (by show _ + _ ≤ (4934 : Nat); omega) d_FileTree_init_7 (fun q_2 g_4 g_5 m_3 em_3 H hp hS => ?_)
  replace h := h q_2 g_4 g_5 m_3 em_3
  obtain ⟨g_8, h⟩ := h
  refine rp_FileTree_stores E hp hS g_8 lk_38 hin d_FileTree_init_10 (fun m_9 em_9 H locs hp hS => ?_)
  replace h := h m_9 em_9
  refine lv_iconst (v := 0) hx hb d_FileTree_init_13 (by decide) ?_
  refine lv_istore_n (lv' := [(1, .int 0), (0, rn v0)]) hx hb d_FileTree_init_14 rfl hl (by decide) (by simp [rn_cat]) (fun ls hl => ?_)
  exact t_FileTree_init_15 E hr hin 11 m_9 v0 0 _ _ _ _ _ (by omega) (by omega) h hp hS (lv_sub hl [1, 0] rfl)
set_option maxHeartbeats 4000000 in
set_option maxRecDepth 100000 in
theorem c_FileTree_init (l : Launch) (G : Gc) (m : Mm) (v0 : Nat) (P : Mm → Prop) (h : wp_FileTree_init m v0 P) : Met l y_FileTree_init (Cond.code y_FileTree_init b_FileTree_init 3 none :: lw_good) rm_FileTree_init (Pre9 G m [rn v0]) (PoV G P) 42 4934 (fr G) := by
  refine Met.ofW (cc := b_FileTree_init) (maxL := 3) (ret := none) (by decide) rfl ?_
  intro p e s mt args below meth c s₁ B hml hv
  obtain ⟨rfl, hp, hC⟩ := hv
  have hts := atoms_spec (ws := Cond.code y_FileTree_init b_FileTree_init 3 none :: lw_good) B.pre
  have E : En G R_FileTree b_FileTree_init 3 p s mt _ meth c := ⟨B.exec, B.bytes, hml, findClass_of_methodNamed B.named, fun w hw => hts w (List.mem_cons_of_mem _ hw), hC, B.notSynchronized⟩
  have hr := B.returns
  have hl := lv_entry [rn v0] (n := 3) (by simp [lg_sl, rn_cat, cat_int, cat_long, cat_ref, cat_null])
  rw [lg_entry_eq]
  generalize (lg_sl [rn v0] ++ List.replicate (3 - (lg_sl [rn v0]).length) Slot.unset).toArray = ls at hl ⊢
  have hl : lv_has ls 3 [(0, rn v0)] := by simpa [lv_args, rn_cat, cat_int, cat_long, cat_ref, cat_null] using hl
  exact t_FileTree_init_0 E hr (name_of_methodNamed B.named B.method).1 m v0 _ _ _ 0 0 (by omega) (by omega) h hp va_S.rf (lv_sub hl [0] rfl)
abbrev rm_Numbers_init : Room := { frames := 1, cells := 1, slots := 20, locals := 64 }
set_option maxHeartbeats 4000000 in
set_option maxRecDepth 100000 in
theorem t_Numbers_init_0 {G : Gc} {P : Mm → Prop} (E : En G R_Numbers b_Numbers_init 1 p s mt args meth c) (hr : meth.sig.returnType = none) (hin : meth.name = "<init>") (m : Mm) (v0 : Nat) (H : Heap) (locs : List Loc) (ls : Array Slot) (cs sl : Nat) (hc : cs + (1) ≤ 1) (hs : sl + (20) ≤ 20) (h : wp_Numbers_init_0 P m v0) (hp : pic G m H) (hS : va_S (fr G) s.heap H locs) (hl : lv_has ls 1 [(0, rn v0)]) : W p l e rm_Numbers_init s mt args below meth c H locs cs sl (MQ below (PoV G P) args s 1 20 (fr G)) (F0 mt 0 ls []) := by
  have hx := E.1
  have hb := E.2.1
  unfold wp_Numbers_init_0 at h
  refine rr_aload_n hx hb d_Numbers_init_0 rfl (lv_at hl 0 rfl) ?_
  obtain ⟨g_1, h⟩ := h
  refine mc_obj E ⟨lk_40, lk_2, lk_3⟩ g_1 hl.1 d_Numbers_init_1 (by decide) (by simp [JFrame.monitorRoom, rn_cat, cat_int, cat_long, cat_ref, cat_null, rm_Numbers_init]) ?_
  refine rr_aload_n hx hb d_Numbers_init_4 rfl (lv_at hl 0 rfl) ?_
  refine lv_bipush (v := 20) hx hb d_Numbers_init_5 (by decide) ?_
  refine na_20 (n := 20) (N' := 20) E hp hS (by decide) (by decide) (by decide) (by show _ + _ ≤ (1 : Nat); omega) (by show _ + _ ≤ (20 : Nat); omega) d_Numbers_init_7 (fun q_2 g_4 g_5 m_3 em_3 H hp hS => ?_)
  replace h := h q_2 g_4 g_5 m_3 em_3
  obtain ⟨g_8, h⟩ := h
  refine rp_Numbers_numbers E hp hS g_8 lk_41 hin d_Numbers_init_9 (fun m_9 em_9 H locs hp hS => ?_)
  replace h := h m_9 em_9
  refine rr_aload_n hx hb d_Numbers_init_12 rfl (lv_at hl 0 rfl) ?_
  refine lv_iconst (v := 0) hx hb d_Numbers_init_13 (by decide) ?_
  obtain ⟨g_10, h⟩ := h
  refine rp_Numbers_height E hp hS g_10 lk_42 d_Numbers_init_14 (fun m_11 em_11 H locs hp hS => ?_)
  replace h := h m_11 em_11
  refine W.widen (k := 1) (n := 20) (by omega) (by omega) ?_
  exact mp_vret E hr hp hS h d_Numbers_init_17
set_option maxHeartbeats 4000000 in
set_option maxRecDepth 100000 in
theorem c_Numbers_init (l : Launch) (G : Gc) (m : Mm) (v0 : Nat) (P : Mm → Prop) (h : wp_Numbers_init m v0 P) : Met l y_Numbers_init (Cond.code y_Numbers_init b_Numbers_init 1 none :: lw_good) rm_Numbers_init (Pre9 G m [rn v0]) (PoV G P) 1 20 (fr G) := by
  refine Met.ofW (cc := b_Numbers_init) (maxL := 1) (ret := none) (by decide) rfl ?_
  intro p e s mt args below meth c s₁ B hml hv
  obtain ⟨rfl, hp, hC⟩ := hv
  have hts := atoms_spec (ws := Cond.code y_Numbers_init b_Numbers_init 1 none :: lw_good) B.pre
  have E : En G R_Numbers b_Numbers_init 1 p s mt _ meth c := ⟨B.exec, B.bytes, hml, findClass_of_methodNamed B.named, fun w hw => hts w (List.mem_cons_of_mem _ hw), hC, B.notSynchronized⟩
  have hr := B.returns
  have hl := lv_entry [rn v0] (n := 1) (by simp [lg_sl, rn_cat, cat_int, cat_long, cat_ref, cat_null])
  rw [lg_entry_eq]
  generalize (lg_sl [rn v0] ++ List.replicate (1 - (lg_sl [rn v0]).length) Slot.unset).toArray = ls at hl ⊢
  have hl : lv_has ls 1 [(0, rn v0)] := by simpa [lv_args, rn_cat, cat_int, cat_long, cat_ref, cat_null] using hl
  exact t_Numbers_init_0 E hr (name_of_methodNamed B.named B.method).1 m v0 _ _ _ 0 0 (by omega) (by omega) h hp va_S.rf (lv_sub hl [0] rfl)
abbrev rm_Plan_init : Room := { frames := 1, cells := 3, slots := 600, locals := 64 }
set_option maxHeartbeats 4000000 in
set_option maxRecDepth 100000 in
theorem t_Plan_init_0 {G : Gc} {P : Mm → Prop} (E : En G R_Plan b_Plan_init 1 p s mt args meth c) (hr : meth.sig.returnType = none) (hin : meth.name = "<init>") (m : Mm) (v0 : Nat) (H : Heap) (locs : List Loc) (ls : Array Slot) (cs sl : Nat) (hc : cs + (3) ≤ 3) (hs : sl + (600) ≤ 600) (h : wp_Plan_init_0 P m v0) (hp : pic G m H) (hS : va_S (fr G) s.heap H locs) (hl : lv_has ls 1 [(0, rn v0)]) : W p l e rm_Plan_init s mt args below meth c H locs cs sl (MQ below (PoV G P) args s 3 600 (fr G)) (F0 mt 0 ls []) := by
  have hx := E.1
  have hb := E.2.1
  unfold wp_Plan_init_0 at h
  refine rr_aload_n hx hb d_Plan_init_0 rfl (lv_at hl 0 rfl) ?_
  obtain ⟨g_1, h⟩ := h
  refine mc_obj E ⟨lk_43, lk_2, lk_3⟩ g_1 hl.1 d_Plan_init_1 (by decide) (by simp [JFrame.monitorRoom, rn_cat, cat_int, cat_long, cat_ref, cat_null, rm_Plan_init]) ?_
  refine rr_aload_n hx hb d_Plan_init_4 rfl (lv_at hl 0 rfl) ?_
  refine lv_sipush (v := 200) hx hb d_Plan_init_5 (by decide) ?_
  refine na_21 (n := 200) (N' := 200) E hp hS (by decide) (by decide) (by decide) (by show _ + _ ≤ (3 : Nat); omega) (by show _ + _ ≤ (600 : Nat); omega) d_Plan_init_8 (fun q_2 g_4 g_5 m_3 em_3 H hp hS => ?_)
  replace h := h q_2 g_4 g_5 m_3 em_3
  obtain ⟨g_8, h⟩ := h
  refine rp_Plan_doneFrom E hp hS g_8 lk_44 hin d_Plan_init_10 (fun m_9 em_9 H locs hp hS => ?_)
  replace h := h m_9 em_9
  refine rr_aload_n hx hb d_Plan_init_13 rfl (lv_at hl 0 rfl) ?_
  refine lv_sipush (v := 200) hx hb d_Plan_init_14 (by decide) ?_
  refine na_22 (n := 200) (N' := 200) E hp hS (by decide) (by decide) (by decide) (by show _ + _ ≤ (3 : Nat); omega) (by show _ + _ ≤ (600 : Nat); omega) d_Plan_init_17 (fun q_10 g_12 g_13 m_11 em_11 H hp hS => ?_)
  replace h := h q_10 g_12 g_13 m_11 em_11
  obtain ⟨g_16, h⟩ := h
  refine rp_Plan_mates E hp hS g_16 lk_45 hin d_Plan_init_19 (fun m_17 em_17 H locs hp hS => ?_)
  replace h := h m_17 em_17
  refine rr_aload_n hx hb d_Plan_init_22 rfl (lv_at hl 0 rfl) ?_
  refine lv_sipush (v := 200) hx hb d_Plan_init_23 (by decide) ?_
  refine na_23 (n := 200) (N' := 200) E hp hS (by decide) (by decide) (by decide) (by show _ + _ ≤ (3 : Nat); omega) (by show _ + _ ≤ (600 : Nat); omega) d_Plan_init_26 (fun q_18 g_20 g_21 m_19 em_19 H hp hS => ?_)
  replace h := h q_18 g_20 g_21 m_19 em_19
  obtain ⟨g_24, h⟩ := h
  refine rp_Plan_openBraces E hp hS g_24 lk_46 hin d_Plan_init_28 (fun m_25 em_25 H locs hp hS => ?_)
  replace h := h m_25 em_25
  refine rr_aload_n hx hb d_Plan_init_31 rfl (lv_at hl 0 rfl) ?_
  refine lv_iconst (v := 0) hx hb d_Plan_init_32 (by decide) ?_
  obtain ⟨g_26, h⟩ := h
  refine rp_Plan_length E hp hS g_26 lk_47 d_Plan_init_33 (fun m_27 em_27 H locs hp hS => ?_)
  replace h := h m_27 em_27
  refine W.widen (k := 3) (n := 600) (by omega) (by omega) ?_
  exact mp_vret E hr hp hS h d_Plan_init_36
set_option maxHeartbeats 4000000 in
set_option maxRecDepth 100000 in
theorem c_Plan_init (l : Launch) (G : Gc) (m : Mm) (v0 : Nat) (P : Mm → Prop) (h : wp_Plan_init m v0 P) : Met l y_Plan_init (Cond.code y_Plan_init b_Plan_init 1 none :: lw_good) rm_Plan_init (Pre9 G m [rn v0]) (PoV G P) 3 600 (fr G) := by
  refine Met.ofW (cc := b_Plan_init) (maxL := 1) (ret := none) (by decide) rfl ?_
  intro p e s mt args below meth c s₁ B hml hv
  obtain ⟨rfl, hp, hC⟩ := hv
  have hts := atoms_spec (ws := Cond.code y_Plan_init b_Plan_init 1 none :: lw_good) B.pre
  have E : En G R_Plan b_Plan_init 1 p s mt _ meth c := ⟨B.exec, B.bytes, hml, findClass_of_methodNamed B.named, fun w hw => hts w (List.mem_cons_of_mem _ hw), hC, B.notSynchronized⟩
  have hr := B.returns
  have hl := lv_entry [rn v0] (n := 1) (by simp [lg_sl, rn_cat, cat_int, cat_long, cat_ref, cat_null])
  rw [lg_entry_eq]
  generalize (lg_sl [rn v0] ++ List.replicate (1 - (lg_sl [rn v0]).length) Slot.unset).toArray = ls at hl ⊢
  have hl : lv_has ls 1 [(0, rn v0)] := by simpa [lv_args, rn_cat, cat_int, cat_long, cat_ref, cat_null] using hl
  exact t_Plan_init_0 E hr (name_of_methodNamed B.named B.method).1 m v0 _ _ _ 0 0 (by omega) (by omega) h hp va_S.rf (lv_sub hl [0] rfl)
abbrev rm_Machine_init : Room := { frames := 3, cells := 56, slots := 5659, locals := 107 }
set_option maxHeartbeats 4000000 in
set_option maxRecDepth 100000 in
theorem t_Machine_init_0 {G : Gc} {P : Mm → Prop} (E : En G R_Machine b_Machine_init 3 p s mt args meth c) (hr : meth.sig.returnType = none) (hin : meth.name = "<init>") (m : Mm) (v0 : Nat) (v1 : Int64) (H : Heap) (locs : List Loc) (ls : Array Slot) (cs sl : Nat) (hc : cs + (56) ≤ 56) (hs : sl + (5659) ≤ 5659) (h : wp_Machine_init_0 P m v0 v1) (hp : pic G m H) (hS : va_S (fr G) s.heap H locs) (hl : lv_has ls 3 [(0, rn v0), (1, .long v1)]) : W p l e rm_Machine_init s mt args below meth c H locs cs sl (MQ below (PoV G P) args s 56 5659 (fr G)) (F0 mt 0 ls []) := by
  have hx := E.1
  have hb := E.2.1
  unfold wp_Machine_init_0 at h
  refine rr_aload_n hx hb d_Machine_init_0 rfl (lv_at hl 0 rfl) ?_
  obtain ⟨g_1, h⟩ := h
  refine mc_obj E ⟨lk_48, lk_2, lk_3⟩ g_1 hl.1 d_Machine_init_1 (by decide) (by simp [JFrame.monitorRoom, rn_cat, cat_int, cat_long, cat_ref, cat_null, rm_Machine_init]) ?_
  refine rr_aload_n hx hb d_Machine_init_4 rfl (lv_at hl 0 rfl) ?_
  refine rn_Device E hp hS lk_49 (by show _ + _ ≤ (56 : Nat); omega) (by show _ + _ ≤ (5659 : Nat); omega) d_Machine_init_5 (fun q_2 g_4 g_5 m_3 em_3 H hp hS => ?_)
  replace h := h q_2 g_4 g_5 m_3 em_3
  refine lv_dup hx hb d_Machine_init_8 (rn_cat _) ?_
  refine mc_v hS (mc_runI (As := []) (rest := [rn q_2, rn v0]) E (c_Device_init l G m_3 q_2 _ h) wd_Device_init ⟨lk_50, lk_51⟩ rfl rfl rfl ⟨Nat.le_of_ble_eq_true rfl, Nat.le_of_ble_eq_true rfl⟩ hp hS g_5 rfl hl.1 rfl (lv_room (by simp [rn_cat, cat_int, cat_long, cat_ref, cat_null])) d_Machine_init_9 ⟨by show _ + _ ≤ (56 : Nat); omega, by show _ + _ ≤ (5659 : Nat); omega⟩) (fun m_6 h H locs hp hS => ?_)
  try dsimp only at h
  obtain ⟨g_8, h⟩ := h
  refine rp_Machine_device E hp hS g_8 lk_52 hin d_Machine_init_12 (fun m_9 em_9 H locs hp hS => ?_)
  replace h := h m_9 em_9
  refine rr_aload_n hx hb d_Machine_init_15 rfl (lv_at hl 0 rfl) ?_
  refine rn_Resources E hp hS lk_53 (by show _ + _ ≤ (56 : Nat); omega) (by show _ + _ ≤ (5659 : Nat); omega) d_Machine_init_16 (fun q_10 g_12 g_13 m_11 em_11 H hp hS => ?_)
  replace h := h q_10 g_12 g_13 m_11 em_11
  refine lv_dup hx hb d_Machine_init_19 (rn_cat _) ?_
  refine mc_v hS (mc_runI (As := []) (rest := [rn q_10, rn v0]) E (c_Resources_init l G m_11 q_10 _ h) wd_Resources_init ⟨lk_54, lk_55⟩ rfl rfl rfl ⟨Nat.le_of_ble_eq_true rfl, Nat.le_of_ble_eq_true rfl⟩ hp hS g_13 rfl hl.1 rfl (lv_room (by simp [rn_cat, cat_int, cat_long, cat_ref, cat_null])) d_Machine_init_20 ⟨by show _ + _ ≤ (56 : Nat); omega, by show _ + _ ≤ (5659 : Nat); omega⟩) (fun m_14 h H locs hp hS => ?_)
  try dsimp only at h
  obtain ⟨g_16, h⟩ := h
  refine rp_Machine_resources E hp hS g_16 lk_56 hin d_Machine_init_23 (fun m_17 em_17 H locs hp hS => ?_)
  replace h := h m_17 em_17
  refine rr_aload_n hx hb d_Machine_init_26 rfl (lv_at hl 0 rfl) ?_
  refine rn_FileTree E hp hS lk_57 (by show _ + _ ≤ (56 : Nat); omega) (by show _ + _ ≤ (5659 : Nat); omega) d_Machine_init_27 (fun q_18 g_20 g_21 m_19 em_19 H hp hS => ?_)
  replace h := h q_18 g_20 g_21 m_19 em_19
  refine lv_dup hx hb d_Machine_init_30 (rn_cat _) ?_
  refine mc_v hS (mc_runI (As := []) (rest := [rn q_18, rn v0]) E (c_FileTree_init l G m_19 q_18 _ h) wd_FileTree_init ⟨lk_58, lk_59⟩ rfl rfl rfl ⟨Nat.le_of_ble_eq_true rfl, Nat.le_of_ble_eq_true rfl⟩ hp hS g_21 rfl hl.1 rfl (lv_room (by simp [rn_cat, cat_int, cat_long, cat_ref, cat_null])) d_Machine_init_31 ⟨by show _ + _ ≤ (56 : Nat); omega, by show _ + _ ≤ (5659 : Nat); omega⟩) (fun m_22 h H locs hp hS => ?_)
  try dsimp only at h
  obtain ⟨g_24, h⟩ := h
  refine rp_Machine_files E hp hS g_24 lk_60 hin d_Machine_init_34 (fun m_25 em_25 H locs hp hS => ?_)
  replace h := h m_25 em_25
  refine rr_aload_n hx hb d_Machine_init_37 rfl (lv_at hl 0 rfl) ?_
  refine lv_lconst (v := 0) hx hb d_Machine_init_38 (by decide) ?_
  refine lv_lload_n hx hb d_Machine_init_39 rfl (lv_at hl 1 rfl) ?_
  refine lv_ldc2 hx hb E.2.2.2.1 (E.2.2.2.2.1 _ lk_61) d_Machine_init_40 ?_
  refine va_mmin_long hx hb (E.2.2.1.trans hl.1.symm) E.2.2.2.1 (E.2.2.2.2.1 _ lk_62) (E.2.2.2.2.1 _ lk_63) (E.2.2.2.2.1 _ lk_11) (E.2.2.2.2.1 _ lk_64) (by decide) (by simp [rn_cat, cat_int, cat_long, cat_ref, cat_null, rm_Machine_init]) (by show _ ≤ (56 : Nat); omega) (by show _ ≤ (5659 : Nat); omega) d_Machine_init_43 ?_
  refine lv_topl (fun x_26 ex_26 => ?_)
  replace h := h x_26 ex_26
  refine va_mmax_long hx hb (E.2.2.1.trans hl.1.symm) E.2.2.2.1 (E.2.2.2.2.1 _ lk_65) (E.2.2.2.2.1 _ lk_66) (E.2.2.2.2.1 _ lk_11) (E.2.2.2.2.1 _ lk_67) (by decide) (by simp [rn_cat, cat_int, cat_long, cat_ref, cat_null, rm_Machine_init]) (by show _ ≤ (56 : Nat); omega) (by show _ ≤ (5659 : Nat); omega) d_Machine_init_46 ?_
  refine lv_topl (fun x_27 ex_27 => ?_)
  replace h := h x_27 ex_27
  obtain ⟨x_28, ex_28⟩ : ∃ y : Int32, y = x_27.toInt32 := ⟨_, rfl⟩
  replace h := h x_28 ex_28
  refine lv_l2i hx hb d_Machine_init_49 ex_28.symm ?_
  obtain ⟨g_29, h⟩ := h
  refine rp_Machine_stepLimit E hp hS g_29 lk_68 hin d_Machine_init_50 (fun m_30 em_30 H locs hp hS => ?_)
  replace h := h m_30 em_30
  refine rr_aload_n hx hb d_Machine_init_53 rfl (lv_at hl 0 rfl) ?_
  refine rn_Numbers E hp hS lk_69 (by show _ + _ ≤ (56 : Nat); omega) (by show _ + _ ≤ (5659 : Nat); omega) d_Machine_init_54 (fun q_31 g_33 g_34 m_32 em_32 H hp hS => ?_)
  replace h := h q_31 g_33 g_34 m_32 em_32
  refine lv_dup hx hb d_Machine_init_57 (rn_cat _) ?_
  refine mc_v hS (mc_runI (As := []) (rest := [rn q_31, rn v0]) E (c_Numbers_init l G m_32 q_31 _ h) wd_Numbers_init ⟨lk_70, lk_71⟩ rfl rfl rfl ⟨Nat.le_of_ble_eq_true rfl, Nat.le_of_ble_eq_true rfl⟩ hp hS g_34 rfl hl.1 rfl (lv_room (by simp [rn_cat, cat_int, cat_long, cat_ref, cat_null])) d_Machine_init_58 ⟨by show _ + _ ≤ (56 : Nat); omega, by show _ + _ ≤ (5659 : Nat); omega⟩) (fun m_35 h H locs hp hS => ?_)
  try dsimp only at h
  obtain ⟨g_37, h⟩ := h
  refine rp_Machine_stack E hp hS g_37 lk_72 hin d_Machine_init_61 (fun m_38 em_38 H locs hp hS => ?_)
  replace h := h m_38 em_38
  refine rr_aload_n hx hb d_Machine_init_64 rfl (lv_at hl 0 rfl) ?_
  refine rn_Plan E hp hS lk_73 (by show _ + _ ≤ (56 : Nat); omega) (by show _ + _ ≤ (5659 : Nat); omega) d_Machine_init_65 (fun q_39 g_41 g_42 m_40 em_40 H hp hS => ?_)
  replace h := h q_39 g_41 g_42 m_40 em_40
  refine lv_dup hx hb d_Machine_init_68 (rn_cat _) ?_
  refine mc_v hS (mc_runI (As := []) (rest := [rn q_39, rn v0]) E (c_Plan_init l G m_40 q_39 _ h) wd_Plan_init ⟨lk_74, lk_75⟩ rfl rfl rfl ⟨Nat.le_of_ble_eq_true rfl, Nat.le_of_ble_eq_true rfl⟩ hp hS g_42 rfl hl.1 rfl (lv_room (by simp [rn_cat, cat_int, cat_long, cat_ref, cat_null])) d_Machine_init_69 ⟨by show _ + _ ≤ (56 : Nat); omega, by show _ + _ ≤ (5659 : Nat); omega⟩) (fun m_43 h H locs hp hS => ?_)
  try dsimp only at h
  obtain ⟨g_45, h⟩ := h
  refine rp_Machine_plan E hp hS g_45 lk_76 hin d_Machine_init_72 (fun m_46 em_46 H locs hp hS => ?_)
  replace h := h m_46 em_46
  refine rr_aload_n hx hb d_Machine_init_75 rfl (lv_at hl 0 rfl) ?_
  refine lv_iconst (v := 4) hx hb d_Machine_init_76 (by decide) ?_
  refine na_13 (n := 4) (N' := 4) E hp hS (by decide) (by decide) (by decide) (by show _ + _ ≤ (56 : Nat); omega) (by show _ + _ ≤ (5659 : Nat); omega) d_Machine_init_77 (fun q_47 g_49 g_50 m_48 em_48 H hp hS => ?_)
  replace h := h q_47 g_49 g_50 m_48 em_48
  obtain ⟨g_53, h⟩ := h
  refine rp_Machine_timesLeft E hp hS g_53 lk_77 hin d_Machine_init_79 (fun m_54 em_54 H locs hp hS => ?_)
  replace h := h m_54 em_54
  refine rr_aload_n hx hb d_Machine_init_82 rfl (lv_at hl 0 rfl) ?_
  refine lv_iconst (v := 0) hx hb d_Machine_init_83 (by decide) ?_
  obtain ⟨g_55, h⟩ := h
  refine rp_Machine_loopCount E hp hS g_55 lk_78 d_Machine_init_84 (fun m_56 em_56 H locs hp hS => ?_)
  replace h := h m_56 em_56
  refine rr_aload_n hx hb d_Machine_init_87 rfl (lv_at hl 0 rfl) ?_
  refine lv_iconst (v := 0) hx hb d_Machine_init_88 (by decide) ?_
  obtain ⟨g_57, h⟩ := h
  refine rp_Machine_marks E hp hS g_57 lk_79 d_Machine_init_89 (fun m_58 em_58 H locs hp hS => ?_)
  replace h := h m_58 em_58
  refine rr_aload_n hx hb d_Machine_init_92 rfl (lv_at hl 0 rfl) ?_
  refine lv_iconst (v := 0) hx hb d_Machine_init_93 (by decide) ?_
  obtain ⟨g_59, h⟩ := h
  refine rp_Machine_nextPlace E hp hS g_59 lk_80 d_Machine_init_94 (fun m_60 em_60 H locs hp hS => ?_)
  replace h := h m_60 em_60
  refine W.widen (k := 56) (n := 5659) (by omega) (by omega) ?_
  exact mp_vret E hr hp hS h d_Machine_init_97
set_option maxHeartbeats 4000000 in
set_option maxRecDepth 100000 in
theorem c_Machine_init (l : Launch) (G : Gc) (m : Mm) (v0 : Nat) (v1 : Int64) (P : Mm → Prop) (h : wp_Machine_init m v0 v1 P) : Met l y_Machine_init (Cond.code y_Machine_init b_Machine_init 3 none :: lw_good) rm_Machine_init (Pre9 G m [rn v0, .long v1]) (PoV G P) 56 5659 (fr G) := by
  refine Met.ofW (cc := b_Machine_init) (maxL := 3) (ret := none) (by decide) rfl ?_
  intro p e s mt args below meth c s₁ B hml hv
  obtain ⟨rfl, hp, hC⟩ := hv
  have hts := atoms_spec (ws := Cond.code y_Machine_init b_Machine_init 3 none :: lw_good) B.pre
  have E : En G R_Machine b_Machine_init 3 p s mt _ meth c := ⟨B.exec, B.bytes, hml, findClass_of_methodNamed B.named, fun w hw => hts w (List.mem_cons_of_mem _ hw), hC, B.notSynchronized⟩
  have hr := B.returns
  have hl := lv_entry [rn v0, .long v1] (n := 3) (by simp [lg_sl, rn_cat, cat_int, cat_long, cat_ref, cat_null])
  rw [lg_entry_eq]
  generalize (lg_sl [rn v0, .long v1] ++ List.replicate (3 - (lg_sl [rn v0, .long v1]).length) Slot.unset).toArray = ls at hl ⊢
  have hl : lv_has ls 3 [(0, rn v0), (1, .long v1)] := by simpa [lv_args, rn_cat, cat_int, cat_long, cat_ref, cat_null] using hl
  exact t_Machine_init_0 E hr (name_of_methodNamed B.named B.method).1 m v0 v1 _ _ _ 0 0 (by omega) (by omega) h hp va_S.rf (lv_sub hl [0, 1] rfl)
end WK
