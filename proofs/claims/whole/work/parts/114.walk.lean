section WK
variable {p : Program} {l : Launch} {e : Env} {s : State} {mt : MethodId} {args : Array Value} {below : List Frame} {meth : Method} {c : Code}
abbrev rm_Mo_closeFile : Room := { frames := 2, cells := 0, slots := 0, locals := 43 }
set_option maxHeartbeats 4000000 in
set_option maxRecDepth 100000 in
theorem t_Mo_closeFile_17 {G : Gc} {P : Mm → Prop} (E : En G R_Mo b_Mo_closeFile 2 p s mt args meth c) (hr : meth.sig.returnType = none) (m : Mm) (v0 : Nat) (H : Heap) (locs : List Loc) (ls : Array Slot) (h : wp_Mo_closeFile_17 P m v0) (hp : pic G m H) (hS : va_S (fr G) s.heap H locs) (hl : lv_has ls 2 [(0, rn v0)]) : W p l e rm_Mo_closeFile s mt args below meth c H locs 0 0 (MQ below (PoV G P) args s 0 0 (fr G)) (F0 mt 17 ls []) := by
  have hx := E.1
  have hb := E.2.1
  unfold wp_Mo_closeFile_17 at h
  refine rr_aload_n hx hb d_Mo_closeFile_17 rfl (lv_at hl 0 rfl) ?_
  refine lv_iconst (v := 4) hx hb d_Mo_closeFile_18 (by decide) ?_
  obtain ⟨g_1, h⟩ := h
  refine rp_Mo_error E hp hS g_1 lk_392 d_Mo_closeFile_19 (fun m_2 em_2 H locs hp hS => ?_)
  replace h := h m_2 em_2
  exact mp_vret E hr hp hS h d_Mo_closeFile_22
set_option maxHeartbeats 4000000 in
set_option maxRecDepth 100000 in
theorem t_Mo_closeFile_0 {G : Gc} {P : Mm → Prop} (E : En G R_Mo b_Mo_closeFile 2 p s mt args meth c) (hr : meth.sig.returnType = none) (m : Mm) (v0 : Nat) (v1 : Int32) (H : Heap) (locs : List Loc) (ls : Array Slot) (h : wp_Mo_closeFile_0 P m v0 v1) (hp : pic G m H) (hS : va_S (fr G) s.heap H locs) (hl : lv_has ls 2 [(0, rn v0), (1, .int v1)]) : W p l e rm_Mo_closeFile s mt args below meth c H locs 0 0 (MQ below (PoV G P) args s 0 0 (fr G)) (F0 mt 0 ls []) := by
  have hx := E.1
  have hb := E.2.1
  unfold wp_Mo_closeFile_0 at h
  refine rr_aload_n hx hb d_Mo_closeFile_0 rfl (lv_at hl 0 rfl) ?_
  refine lv_iload_n hx hb d_Mo_closeFile_1 rfl (lv_at hl 1 rfl) ?_
  obtain ⟨g_3, h⟩ := h
  refine mc_i hS (mc_runV (As := [.int v1]) (rest := []) E (c_Mo_isOpen l G m v0 v1 _ h) wd_Mo_isOpen ⟨lk_368, lk_369, lk_370⟩ rfl rfl ⟨Nat.le_of_ble_eq_true rfl, Nat.le_of_ble_eq_true rfl⟩ hp hS g_3 (by decide) rfl rfl rfl hl.1 rfl (lv_room (Nat.le_of_ble_eq_true rfl)) d_Mo_closeFile_2 ⟨Nat.le_of_ble_eq_true rfl, Nat.le_of_ble_eq_true rfl⟩) (fun r_2 m_1 h H locs hp hS => ?_)
  try dsimp only at h
  refine lv_if_eq (tgt := 17) hx hb d_Mo_closeFile_5 (by decide) (fun g_4 => ?_) (fun g_4 => ?_)
  · replace h := h.1 g_4
    exact t_Mo_closeFile_17 E hr m_1 v0 _ _ _ h hp hS (lv_sub hl [0] rfl)
  · replace h := h.2 g_4
    refine rr_aload_n hx hb d_Mo_closeFile_8 rfl (lv_at hl 0 rfl) ?_
    obtain ⟨g_6, h⟩ := h
    refine rg_Mo_own E hp g_6 lk_351 d_Mo_closeFile_9 (fun x_5 ex_5 => ?_)
    replace h := h x_5 ex_5
    refine lv_iload_n hx hb d_Mo_closeFile_12 rfl (lv_at hl 1 rfl) ?_
    obtain ⟨g_8, g_9, h⟩ := h
    refine mp_zald (t0 := 5) E hp g_8 (by decide) rfl rfl g_9 d_Mo_closeFile_13 (fun x_7 ex_7 => ?_)
    replace h := h x_7 ex_7
    refine lv_if_ne (tgt := 23) hx hb d_Mo_closeFile_14 (by decide) (fun g_10 => ?_) (fun g_10 => ?_)
    · replace h := h.2 g_10
      refine rr_aload_n hx hb d_Mo_closeFile_23 rfl (lv_at hl 0 rfl) ?_
      obtain ⟨g_12, h⟩ := h
      refine rg_Mo_open E hp g_12 lk_330 d_Mo_closeFile_24 (fun x_11 ex_11 => ?_)
      replace h := h x_11 ex_11
      refine lv_iload_n hx hb d_Mo_closeFile_27 rfl (lv_at hl 1 rfl) ?_
      refine lv_iconst (v := 0) hx hb d_Mo_closeFile_28 (by decide) ?_
      obtain ⟨g_13, g_14, h⟩ := h
      refine mp_zast (t0 := 5) E hp hS g_13 (by decide) rfl cw_40 rfl g_14 d_Mo_closeFile_29 (fun m_15 em_15 H locs hp hS => ?_)
      replace h := h m_15 em_15
      refine rr_aload_n hx hb d_Mo_closeFile_30 rfl (lv_at hl 0 rfl) ?_
      obtain ⟨g_17, h⟩ := h
      refine rg_Mo_own E hp g_17 lk_351 d_Mo_closeFile_31 (fun x_16 ex_16 => ?_)
      replace h := h x_16 ex_16
      refine lv_iload_n hx hb d_Mo_closeFile_34 rfl (lv_at hl 1 rfl) ?_
      refine lv_iconst (v := 0) hx hb d_Mo_closeFile_35 (by decide) ?_
      obtain ⟨g_18, g_19, h⟩ := h
      refine mp_zast (t0 := 5) E hp hS g_18 (by decide) rfl cw_47 rfl g_19 d_Mo_closeFile_36 (fun m_20 em_20 H locs hp hS => ?_)
      replace h := h m_20 em_20
      exact mp_vret E hr hp hS h d_Mo_closeFile_37
    · replace h := h.1 g_10
      exact t_Mo_closeFile_17 E hr m_1 v0 _ _ _ h hp hS (lv_sub hl [0] rfl)
set_option maxHeartbeats 4000000 in
set_option maxRecDepth 100000 in
theorem c_Mo_closeFile (l : Launch) (G : Gc) (m : Mm) (v0 : Nat) (v1 : Int32) (P : Mm → Prop) (h : wp_Mo_closeFile m v0 v1 P) : Met l y_Mo_closeFile (Cond.code y_Mo_closeFile b_Mo_closeFile 2 none :: lw_good) rm_Mo_closeFile (Pre9 G m [rn v0, .int v1]) (PoV G P) 0 0 (fr G) := by
  refine Met.ofW (cc := b_Mo_closeFile) (maxL := 2) (ret := none) (by decide) rfl ?_
  intro p e s mt args below meth c s₁ B hml hv
  obtain ⟨rfl, hp, hC⟩ := hv
  have hts := atoms_spec (ws := Cond.code y_Mo_closeFile b_Mo_closeFile 2 none :: lw_good) B.pre
  have E : En G R_Mo b_Mo_closeFile 2 p s mt _ meth c := ⟨B.exec, B.bytes, hml, findClass_of_methodNamed B.named, fun w hw => hts w (List.mem_cons_of_mem _ hw), hC, B.notSynchronized⟩
  have hr := B.returns
  have hl := lv_entry [rn v0, .int v1] (n := 2) (by simp [lg_sl, rn_cat, cat_int, cat_long, cat_ref, cat_null])
  rw [lg_entry_eq]
  generalize (lg_sl [rn v0, .int v1] ++ List.replicate (2 - (lg_sl [rn v0, .int v1]).length) Slot.unset).toArray = ls at hl ⊢
  have hl : lv_has ls 2 [(0, rn v0), (1, .int v1)] := by simpa [lv_args, rn_cat, cat_int, cat_long, cat_ref, cat_null] using hl
  exact t_Mo_closeFile_0 E hr m v0 v1 _ _ _ h hp va_S.rf (lv_sub hl [0, 1] rfl)
abbrev rm_Mo_readFile : Room := { frames := 3, cells := 0, slots := 0, locals := 67 }
set_option maxHeartbeats 4000000 in
set_option maxRecDepth 100000 in
theorem t_Mo_readFile_31 {G : Gc} {P : Mm → Prop} (E : En G R_Mo b_Mo_readFile 3 p s mt args meth c) (hr : meth.sig.returnType = none) (m : Mm) (s0 : Int32) (s1 : Nat) (H : Heap) (locs : List Loc) (ls : Array Slot) (h : wp_Mo_readFile_31 P m s0 s1) (hp : pic G m H) (hS : va_S (fr G) s.heap H locs) (hl : lv_has ls 3 []) : W p l e rm_Mo_readFile s mt args below meth c H locs 0 0 (MQ below (PoV G P) args s 0 0 (fr G)) (F0 mt 31 ls [.int s0, rn s1]) := by
  have hx := E.1
  have hb := E.2.1
  unfold wp_Mo_readFile_31 at h
  obtain ⟨g_3, h⟩ := h
  refine mc_v hS (mc_runV (As := [.int s0]) (rest := []) E (c_Mo_lay l G m s1 s0 _ h) wd_Mo_lay ⟨lk_403, lk_404, lk_405⟩ rfl rfl ⟨Nat.le_of_ble_eq_true rfl, Nat.le_of_ble_eq_true rfl⟩ hp hS g_3 (by decide) rfl rfl rfl hl.1 rfl (lv_room (Nat.le_of_ble_eq_true rfl)) d_Mo_readFile_31 ⟨Nat.le_of_ble_eq_true rfl, Nat.le_of_ble_eq_true rfl⟩) (fun m_1 h H locs hp hS => ?_)
  try dsimp only at h
  exact mp_vret E hr hp hS h d_Mo_readFile_34
set_option maxHeartbeats 4000000 in
set_option maxRecDepth 100000 in
theorem t_Mo_readFile_0 {G : Gc} {P : Mm → Prop} (E : En G R_Mo b_Mo_readFile 3 p s mt args meth c) (hr : meth.sig.returnType = none) (m : Mm) (v0 : Nat) (v1 : Int32) (H : Heap) (locs : List Loc) (ls : Array Slot) (h : wp_Mo_readFile_0 P m v0 v1) (hp : pic G m H) (hS : va_S (fr G) s.heap H locs) (hl : lv_has ls 3 [(0, rn v0), (1, .int v1)]) : W p l e rm_Mo_readFile s mt args below meth c H locs 0 0 (MQ below (PoV G P) args s 0 0 (fr G)) (F0 mt 0 ls []) := by
  have hx := E.1
  have hb := E.2.1
  unfold wp_Mo_readFile_0 at h
  refine rr_aload_n hx hb d_Mo_readFile_0 rfl (lv_at hl 0 rfl) ?_
  refine lv_iload_n hx hb d_Mo_readFile_1 rfl (lv_at hl 1 rfl) ?_
  obtain ⟨g_3, h⟩ := h
  refine mc_i hS (mc_runV (As := [.int v1]) (rest := []) E (c_Mo_taken l G m v0 v1 _ h) wd_Mo_taken ⟨lk_377, lk_378, lk_379⟩ rfl rfl ⟨Nat.le_of_ble_eq_true rfl, Nat.le_of_ble_eq_true rfl⟩ hp hS g_3 (by decide) rfl rfl rfl hl.1 rfl (lv_room (Nat.le_of_ble_eq_true rfl)) d_Mo_readFile_2 ⟨Nat.le_of_ble_eq_true rfl, Nat.le_of_ble_eq_true rfl⟩) (fun r_2 m_1 h H locs hp hS => ?_)
  try dsimp only at h
  refine lv_istore_n (lv' := [(2, .int r_2), (0, rn v0), (1, .int v1)]) hx hb d_Mo_readFile_5 rfl hl (by decide) rfl (fun ls hl => ?_)
  refine lv_iload_n hx hb d_Mo_readFile_6 rfl (lv_at hl 0 rfl) ?_
  refine lv_if_ge (tgt := 18) hx hb d_Mo_readFile_7 (by decide) (fun g_4 => ?_) (fun g_4 => ?_)
  · replace h := h.1 g_4
    refine rr_aload_n hx hb d_Mo_readFile_18 rfl (lv_at hl 1 rfl) ?_
    refine lv_iload_n hx hb d_Mo_readFile_19 rfl (lv_at hl 0 rfl) ?_
    refine lv_sipush (v := 256) hx hb d_Mo_readFile_20 (by decide) ?_
    refine lv_icmp_ne (tgt := 30) hx hb d_Mo_readFile_23 (by decide) (fun g_5 => ?_) (fun g_5 => ?_)
    · replace h := h.2 g_5
      refine lv_iload_n hx hb d_Mo_readFile_30 rfl (lv_at hl 0 rfl) ?_
      exact t_Mo_readFile_31 E hr m_1 r_2 v0 _ _ _ h hp hS (lv_sub hl [] rfl)
    · replace h := h.1 g_5
      refine lv_iconst (v := (-1)) hx hb d_Mo_readFile_26 (by decide) ?_
      refine lv_goto (tgt := 31) hx hb d_Mo_readFile_27 (by decide) ?_
      exact t_Mo_readFile_31 E hr m_1 (-1) v0 _ _ _ h hp hS (lv_sub hl [] rfl)
  · replace h := h.2 g_4
    refine rr_aload_n hx hb d_Mo_readFile_10 rfl (lv_at hl 1 rfl) ?_
    refine lv_iconst (v := 4) hx hb d_Mo_readFile_11 (by decide) ?_
    obtain ⟨g_6, h⟩ := h
    refine rp_Mo_error E hp hS g_6 lk_392 d_Mo_readFile_12 (fun m_7 em_7 H locs hp hS => ?_)
    replace h := h m_7 em_7
    refine lv_goto (tgt := 34) hx hb d_Mo_readFile_15 (by decide) ?_
    exact mp_vret E hr hp hS h d_Mo_readFile_34
set_option maxHeartbeats 4000000 in
set_option maxRecDepth 100000 in
theorem c_Mo_readFile (l : Launch) (G : Gc) (m : Mm) (v0 : Nat) (v1 : Int32) (P : Mm → Prop) (h : wp_Mo_readFile m v0 v1 P) : Met l y_Mo_readFile (Cond.code y_Mo_readFile b_Mo_readFile 3 none :: lw_good) rm_Mo_readFile (Pre9 G m [rn v0, .int v1]) (PoV G P) 0 0 (fr G) := by
  refine Met.ofW (cc := b_Mo_readFile) (maxL := 3) (ret := none) (by decide) rfl ?_
  intro p e s mt args below meth c s₁ B hml hv
  obtain ⟨rfl, hp, hC⟩ := hv
  have hts := atoms_spec (ws := Cond.code y_Mo_readFile b_Mo_readFile 3 none :: lw_good) B.pre
  have E : En G R_Mo b_Mo_readFile 3 p s mt _ meth c := ⟨B.exec, B.bytes, hml, findClass_of_methodNamed B.named, fun w hw => hts w (List.mem_cons_of_mem _ hw), hC, B.notSynchronized⟩
  have hr := B.returns
  have hl := lv_entry [rn v0, .int v1] (n := 3) (by simp [lg_sl, rn_cat, cat_int, cat_long, cat_ref, cat_null])
  rw [lg_entry_eq]
  generalize (lg_sl [rn v0, .int v1] ++ List.replicate (3 - (lg_sl [rn v0, .int v1]).length) Slot.unset).toArray = ls at hl ⊢
  have hl : lv_has ls 3 [(0, rn v0), (1, .int v1)] := by simpa [lv_args, rn_cat, cat_int, cat_long, cat_ref, cat_null] using hl
  exact t_Mo_readFile_0 E hr m v0 v1 _ _ _ h hp va_S.rf (lv_sub hl [0, 1] rfl)
abbrev rm_Mo_act : Room := { frames := 4, cells := 0, slots := 0, locals := 89 }
set_option maxHeartbeats 4000000 in
set_option maxRecDepth 100000 in
theorem t_Mo_act_669 {G : Gc} {P : Mm → Prop} (E : En G R_Mo b_Mo_act 6 p s mt args meth c) (hr : meth.sig.returnType = none) (m : Mm) (s0 : Int32) (s1 : Nat) (H : Heap) (locs : List Loc) (ls : Array Slot) (h : wp_Mo_act_669 P m s0 s1) (hp : pic G m H) (hS : va_S (fr G) s.heap H locs) (hl : lv_has ls 6 []) : W p l e rm_Mo_act s mt args below meth c H locs 0 0 (MQ below (PoV G P) args s 0 0 (fr G)) (F0 mt 669 ls [.int s0, rn s1]) := by
  have hx := E.1
  have hb := E.2.1
  unfold wp_Mo_act_669 at h
  obtain ⟨g_1, h⟩ := h
  refine rp_Mo_error E hp hS g_1 lk_392 d_Mo_act_669 (fun m_2 em_2 H locs hp hS => ?_)
  replace h := h m_2 em_2
  refine lv_goto (tgt := 703) hx hb d_Mo_act_672 (by decide) ?_
  exact mp_vret E hr hp hS h d_Mo_act_703
set_option maxHeartbeats 4000000 in
set_option maxRecDepth 100000 in
theorem t_Mo_act_639 {G : Gc} {P : Mm → Prop} (E : En G R_Mo b_Mo_act 6 p s mt args meth c) (hr : meth.sig.returnType = none) (m : Mm) (s0 : Int32) (s1 : Nat) (H : Heap) (locs : List Loc) (ls : Array Slot) (h : wp_Mo_act_639 P m s0 s1) (hp : pic G m H) (hS : va_S (fr G) s.heap H locs) (hl : lv_has ls 6 []) : W p l e rm_Mo_act s mt args below meth c H locs 0 0 (MQ below (PoV G P) args s 0 0 (fr G)) (F0 mt 639 ls [.int s0, rn s1]) := by
  have hx := E.1
  have hb := E.2.1
  unfold wp_Mo_act_639 at h
  obtain ⟨g_1, h⟩ := h
  refine rp_Mo_error E hp hS g_1 lk_392 d_Mo_act_639 (fun m_2 em_2 H locs hp hS => ?_)
  replace h := h m_2 em_2
  refine lv_goto (tgt := 703) hx hb d_Mo_act_642 (by decide) ?_
  exact mp_vret E hr hp hS h d_Mo_act_703
set_option maxHeartbeats 4000000 in
set_option maxRecDepth 100000 in
theorem t_Mo_act_599 {G : Gc} {P : Mm → Prop} (E : En G R_Mo b_Mo_act 6 p s mt args meth c) (hr : meth.sig.returnType = none) (m : Mm) (s0 : Int32) (s1 : Nat) (H : Heap) (locs : List Loc) (ls : Array Slot) (h : wp_Mo_act_599 P m s0 s1) (hp : pic G m H) (hS : va_S (fr G) s.heap H locs) (hl : lv_has ls 6 []) : W p l e rm_Mo_act s mt args below meth c H locs 0 0 (MQ below (PoV G P) args s 0 0 (fr G)) (F0 mt 599 ls [.int s0, rn s1]) := by
  have hx := E.1
  have hb := E.2.1
  unfold wp_Mo_act_599 at h
  obtain ⟨g_1, h⟩ := h
  refine rp_Mo_error E hp hS g_1 lk_392 d_Mo_act_599 (fun m_2 em_2 H locs hp hS => ?_)
  replace h := h m_2 em_2
  refine lv_goto (tgt := 703) hx hb d_Mo_act_602 (by decide) ?_
  exact mp_vret E hr hp hS h d_Mo_act_703
set_option maxHeartbeats 4000000 in
set_option maxRecDepth 100000 in
theorem t_Mo_act_112 {G : Gc} {P : Mm → Prop} (E : En G R_Mo b_Mo_act 6 p s mt args meth c) (hr : meth.sig.returnType = none) (m : Mm) (v0 : Nat) (v1 : Int32) (v3 : Int32) (v4 : Int32) (v5 : Int32) (H : Heap) (locs : List Loc) (ls : Array Slot) (h : wp_Mo_act_112 P m v0 v1 v3 v4 v5) (hp : pic G m H) (hS : va_S (fr G) s.heap H locs) (hl : lv_has ls 6 [(0, rn v0), (1, .int v1), (3, .int v3), (4, .int v4), (5, .int v5)]) : W p l e rm_Mo_act s mt args below meth c H locs 0 0 (MQ below (PoV G P) args s 0 0 (fr G)) (F0 mt 112 ls []) := by
  have hx := E.1
  have hb := E.2.1
  unfold wp_Mo_act_112 at h
  refine lv_iload_n hx hb d_Mo_act_112 rfl (lv_at hl 1 rfl) ?_
  by_cases g_1 : v1 = 42
  · replace h := h.1 g_1
    refine lv_tableIn (x := v1) (off := 384) (tgt := 497) hx hb d_Mo_act_113 (by rw [g_1]; decide) (by rw [g_1]; decide) (by rw [g_1]; decide) (by decide) ?_
    refine rr_aload_n hx hb d_Mo_act_497 rfl (lv_at hl 0 rfl) ?_
    refine lv_iload_n hx hb d_Mo_act_498 rfl (lv_at hl 2 rfl) ?_
    refine lv_iload hx hb d_Mo_act_499 (lv_at hl 3 rfl) ?_
    refine lv_imul hx hb d_Mo_act_501 ?_
    refine lv_topi (fun x_2 ex_2 => ?_)
    replace h := h x_2 ex_2
    obtain ⟨g_5, h⟩ := h
    refine mc_v hS (mc_runV (As := [.int x_2]) (rest := []) E (c_Mo_lay l G m v0 x_2 _ h) wd_Mo_lay ⟨lk_403, lk_404, lk_405⟩ rfl rfl ⟨Nat.le_of_ble_eq_true rfl, Nat.le_of_ble_eq_true rfl⟩ hp hS g_5 (by decide) rfl rfl rfl hl.1 rfl (lv_room (Nat.le_of_ble_eq_true rfl)) d_Mo_act_502 ⟨Nat.le_of_ble_eq_true rfl, Nat.le_of_ble_eq_true rfl⟩) (fun m_3 h H locs hp hS => ?_)
    try dsimp only at h
    refine lv_goto (tgt := 703) hx hb d_Mo_act_505 (by decide) ?_
    exact mp_vret E hr hp hS h d_Mo_act_703
  · replace h := h.2 g_1
    by_cases g_6 : v1 = 43
    · replace h := h.1 g_6
      refine lv_tableIn (x := v1) (off := 362) (tgt := 475) hx hb d_Mo_act_113 (by rw [g_6]; decide) (by rw [g_6]; decide) (by rw [g_6]; decide) (by decide) ?_
      refine rr_aload_n hx hb d_Mo_act_475 rfl (lv_at hl 0 rfl) ?_
      refine lv_iload_n hx hb d_Mo_act_476 rfl (lv_at hl 2 rfl) ?_
      refine lv_iload hx hb d_Mo_act_477 (lv_at hl 3 rfl) ?_
      refine lv_iadd hx hb d_Mo_act_479 ?_
      refine lv_topi (fun x_7 ex_7 => ?_)
      replace h := h x_7 ex_7
      obtain ⟨g_10, h⟩ := h
      refine mc_v hS (mc_runV (As := [.int x_7]) (rest := []) E (c_Mo_lay l G m v0 x_7 _ h) wd_Mo_lay ⟨lk_403, lk_404, lk_405⟩ rfl rfl ⟨Nat.le_of_ble_eq_true rfl, Nat.le_of_ble_eq_true rfl⟩ hp hS g_10 (by decide) rfl rfl rfl hl.1 rfl (lv_room (Nat.le_of_ble_eq_true rfl)) d_Mo_act_480 ⟨Nat.le_of_ble_eq_true rfl, Nat.le_of_ble_eq_true rfl⟩) (fun m_8 h H locs hp hS => ?_)
      try dsimp only at h
      refine lv_goto (tgt := 703) hx hb d_Mo_act_483 (by decide) ?_
      exact mp_vret E hr hp hS h d_Mo_act_703
    · replace h := h.2 g_6
      by_cases g_11 : v1 = 45
      · replace h := h.1 g_11
        refine lv_tableIn (x := v1) (off := 373) (tgt := 486) hx hb d_Mo_act_113 (by rw [g_11]; decide) (by rw [g_11]; decide) (by rw [g_11]; decide) (by decide) ?_
        refine rr_aload_n hx hb d_Mo_act_486 rfl (lv_at hl 0 rfl) ?_
        refine lv_iload_n hx hb d_Mo_act_487 rfl (lv_at hl 2 rfl) ?_
        refine lv_iload hx hb d_Mo_act_488 (lv_at hl 3 rfl) ?_
        refine lv_isub hx hb d_Mo_act_490 ?_
        refine lv_topi (fun x_12 ex_12 => ?_)
        replace h := h x_12 ex_12
        obtain ⟨g_15, h⟩ := h
        refine mc_v hS (mc_runV (As := [.int x_12]) (rest := []) E (c_Mo_lay l G m v0 x_12 _ h) wd_Mo_lay ⟨lk_403, lk_404, lk_405⟩ rfl rfl ⟨Nat.le_of_ble_eq_true rfl, Nat.le_of_ble_eq_true rfl⟩ hp hS g_15 (by decide) rfl rfl rfl hl.1 rfl (lv_room (Nat.le_of_ble_eq_true rfl)) d_Mo_act_491 ⟨Nat.le_of_ble_eq_true rfl, Nat.le_of_ble_eq_true rfl⟩) (fun m_13 h H locs hp hS => ?_)
        try dsimp only at h
        refine lv_goto (tgt := 703) hx hb d_Mo_act_494 (by decide) ?_
        exact mp_vret E hr hp hS h d_Mo_act_703
      · replace h := h.2 g_11
        by_cases g_16 : v1 = 68
        · replace h := h.1 g_16
          refine lv_tableIn (x := v1) (off := 468) (tgt := 581) hx hb d_Mo_act_113 (by rw [g_16]; decide) (by rw [g_16]; decide) (by rw [g_16]; decide) (by decide) ?_
          refine rr_aload_n hx hb d_Mo_act_581 rfl (lv_at hl 0 rfl) ?_
          refine rr_aload_n hx hb d_Mo_act_582 rfl (lv_at hl 0 rfl) ?_
          refine lv_iload_n hx hb d_Mo_act_583 rfl (lv_at hl 2 rfl) ?_
          refine lv_iload hx hb d_Mo_act_584 (lv_at hl 3 rfl) ?_
          refine lv_iload hx hb d_Mo_act_586 (lv_at hl 4 rfl) ?_
          obtain ⟨g_19, h⟩ := h
          refine mc_i hS (mc_runV (As := [.int v3, .int v4, .int v5]) (rest := [rn v0]) E (c_Mo_define l G m v0 v3 v4 v5 _ h) wd_Mo_define ⟨lk_409, lk_410, lk_411⟩ rfl rfl ⟨Nat.le_of_ble_eq_true rfl, Nat.le_of_ble_eq_true rfl⟩ hp hS g_19 (by decide) rfl rfl rfl hl.1 rfl (lv_room (by simp [rn_cat, cat_int, cat_long, cat_ref, cat_null])) d_Mo_act_588 ⟨Nat.le_of_ble_eq_true rfl, Nat.le_of_ble_eq_true rfl⟩) (fun r_18 m_17 h H locs hp hS => ?_)
          try dsimp only at h
          refine lv_if_ge (tgt := 598) hx hb d_Mo_act_591 (by decide) (fun g_20 => ?_) (fun g_20 => ?_)
          · replace h := h.1 g_20
            refine lv_iconst (v := 0) hx hb d_Mo_act_598 (by decide) ?_
            exact t_Mo_act_599 E hr m_17 0 v0 _ _ _ h hp hS (lv_sub hl [] rfl)
          · replace h := h.2 g_20
            refine lv_iconst (v := 2) hx hb d_Mo_act_594 (by decide) ?_
            refine lv_goto (tgt := 599) hx hb d_Mo_act_595 (by decide) ?_
            exact t_Mo_act_599 E hr m_17 2 v0 _ _ _ h hp hS (lv_sub hl [] rfl)
        · replace h := h.2 g_16
          by_cases g_21 : v1 = 82
          · replace h := h.1 g_21
            refine lv_tableIn (x := v1) (off := 458) (tgt := 571) hx hb d_Mo_act_113 (by rw [g_21]; decide) (by rw [g_21]; decide) (by rw [g_21]; decide) (by decide) ?_
            refine rr_aload_n hx hb d_Mo_act_571 rfl (lv_at hl 0 rfl) ?_
            refine lv_iload_n hx hb d_Mo_act_572 rfl (lv_at hl 2 rfl) ?_
            refine lv_iload hx hb d_Mo_act_573 (lv_at hl 3 rfl) ?_
            obtain ⟨g_24, h⟩ := h
            refine mc_v hS (mc_runV (As := [.int v3, .int v4]) (rest := []) E (c_Mo_readResource l G m v0 v3 v4 _ h) wd_Mo_readResource ⟨lk_412, lk_413, lk_414⟩ rfl rfl ⟨Nat.le_of_ble_eq_true rfl, Nat.le_of_ble_eq_true rfl⟩ hp hS g_24 (by decide) rfl rfl rfl hl.1 rfl (lv_room (Nat.le_of_ble_eq_true rfl)) d_Mo_act_575 ⟨Nat.le_of_ble_eq_true rfl, Nat.le_of_ble_eq_true rfl⟩) (fun m_22 h H locs hp hS => ?_)
            try dsimp only at h
            refine lv_goto (tgt := 703) hx hb d_Mo_act_578 (by decide) ?_
            exact mp_vret E hr hp hS h d_Mo_act_703
          · replace h := h.2 g_21
            by_cases g_25 : v1 = 99
            · replace h := h.1 g_25
              refine lv_tableIn (x := v1) (off := 502) (tgt := 615) hx hb d_Mo_act_113 (by rw [g_25]; decide) (by rw [g_25]; decide) (by rw [g_25]; decide) (by decide) ?_
              refine rr_aload_n hx hb d_Mo_act_615 rfl (lv_at hl 0 rfl) ?_
              refine lv_iload_n hx hb d_Mo_act_616 rfl (lv_at hl 2 rfl) ?_
              obtain ⟨g_28, h⟩ := h
              refine mc_v hS (mc_runV (As := [.int v3]) (rest := []) E (c_Mo_closeFile l G m v0 v3 _ h) wd_Mo_closeFile ⟨lk_415, lk_416, lk_417⟩ rfl rfl ⟨Nat.le_of_ble_eq_true rfl, Nat.le_of_ble_eq_true rfl⟩ hp hS g_28 (by decide) rfl rfl rfl hl.1 rfl (lv_room (Nat.le_of_ble_eq_true rfl)) d_Mo_act_617 ⟨Nat.le_of_ble_eq_true rfl, Nat.le_of_ble_eq_true rfl⟩) (fun m_26 h H locs hp hS => ?_)
              try dsimp only at h
              refine lv_goto (tgt := 703) hx hb d_Mo_act_620 (by decide) ?_
              exact mp_vret E hr hp hS h d_Mo_act_703
            · replace h := h.2 g_25
              by_cases g_29 : v1 = 100
              · replace h := h.1 g_29
                refine lv_tableIn (x := v1) (off := 395) (tgt := 508) hx hb d_Mo_act_113 (by rw [g_29]; decide) (by rw [g_29]; decide) (by rw [g_29]; decide) (by decide) ?_
                refine rr_aload_n hx hb d_Mo_act_508 rfl (lv_at hl 0 rfl) ?_
                refine lv_iload_n hx hb d_Mo_act_509 rfl (lv_at hl 2 rfl) ?_
                obtain ⟨g_32, h⟩ := h
                refine mc_v hS (mc_runV (As := [.int v3]) (rest := []) E (c_Mo_lay l G m v0 v3 _ h) wd_Mo_lay ⟨lk_403, lk_404, lk_405⟩ rfl rfl ⟨Nat.le_of_ble_eq_true rfl, Nat.le_of_ble_eq_true rfl⟩ hp hS g_32 (by decide) rfl rfl rfl hl.1 rfl (lv_room (Nat.le_of_ble_eq_true rfl)) d_Mo_act_510 ⟨Nat.le_of_ble_eq_true rfl, Nat.le_of_ble_eq_true rfl⟩) (fun m_30 h H locs hp hS => ?_)
                try dsimp only at h
                refine rr_aload_n hx hb d_Mo_act_513 rfl (lv_at hl 0 rfl) ?_
                refine lv_iload_n hx hb d_Mo_act_514 rfl (lv_at hl 2 rfl) ?_
                obtain ⟨g_35, h⟩ := h
                refine mc_v hS (mc_runV (As := [.int v3]) (rest := []) E (c_Mo_lay l G m_30 v0 v3 _ h) wd_Mo_lay ⟨lk_403, lk_404, lk_405⟩ rfl rfl ⟨Nat.le_of_ble_eq_true rfl, Nat.le_of_ble_eq_true rfl⟩ hp hS g_35 (by decide) rfl rfl rfl hl.1 rfl (lv_room (Nat.le_of_ble_eq_true rfl)) d_Mo_act_515 ⟨Nat.le_of_ble_eq_true rfl, Nat.le_of_ble_eq_true rfl⟩) (fun m_33 h H locs hp hS => ?_)
                try dsimp only at h
                refine lv_goto (tgt := 703) hx hb d_Mo_act_518 (by decide) ?_
                exact mp_vret E hr hp hS h d_Mo_act_703
              · replace h := h.2 g_29
                by_cases g_36 : v1 = 102
                · replace h := h.1 g_36
                  refine lv_tableIn (x := v1) (off := 540) (tgt := 653) hx hb d_Mo_act_113 (by rw [g_36]; decide) (by rw [g_36]; decide) (by rw [g_36]; decide) (by decide) ?_
                  refine rr_aload_n hx hb d_Mo_act_653 rfl (lv_at hl 0 rfl) ?_
                  refine rr_aload_n hx hb d_Mo_act_654 rfl (lv_at hl 0 rfl) ?_
                  refine lv_iload_n hx hb d_Mo_act_655 rfl (lv_at hl 2 rfl) ?_
                  refine lv_iload hx hb d_Mo_act_656 (lv_at hl 3 rfl) ?_
                  obtain ⟨g_39, h⟩ := h
                  refine mc_i hS (mc_runV (As := [.int v3, .int v4]) (rest := [rn v0]) E (c_Mo_filtered l G m v0 v3 v4 _ h) wd_Mo_filtered ⟨lk_380, lk_381, lk_382⟩ rfl rfl ⟨Nat.le_of_ble_eq_true rfl, Nat.le_of_ble_eq_true rfl⟩ hp hS g_39 (by decide) rfl rfl rfl hl.1 rfl (lv_room (by simp [rn_cat, cat_int, cat_long, cat_ref, cat_null])) d_Mo_act_658 ⟨Nat.le_of_ble_eq_true rfl, Nat.le_of_ble_eq_true rfl⟩) (fun r_38 m_37 h H locs hp hS => ?_)
                  try dsimp only at h
                  refine lv_if_ge (tgt := 668) hx hb d_Mo_act_661 (by decide) (fun g_40 => ?_) (fun g_40 => ?_)
                  · replace h := h.1 g_40
                    refine lv_iconst (v := 0) hx hb d_Mo_act_668 (by decide) ?_
                    exact t_Mo_act_669 E hr m_37 0 v0 _ _ _ h hp hS (lv_sub hl [] rfl)
                  · replace h := h.2 g_40
                    refine lv_iconst (v := 4) hx hb d_Mo_act_664 (by decide) ?_
                    refine lv_goto (tgt := 669) hx hb d_Mo_act_665 (by decide) ?_
                    exact t_Mo_act_669 E hr m_37 4 v0 _ _ _ h hp hS (lv_sub hl [] rfl)
                · replace h := h.2 g_36
                  by_cases g_41 : v1 = 103
                  · replace h := h.1 g_41
                    refine lv_tableIn (x := v1) (off := 448) (tgt := 561) hx hb d_Mo_act_113 (by rw [g_41]; decide) (by rw [g_41]; decide) (by rw [g_41]; decide) (by decide) ?_
                    refine rr_aload_n hx hb d_Mo_act_561 rfl (lv_at hl 0 rfl) ?_
                    refine lv_iload_n hx hb d_Mo_act_562 rfl (lv_at hl 2 rfl) ?_
                    refine lv_iload hx hb d_Mo_act_563 (lv_at hl 3 rfl) ?_
                    obtain ⟨g_44, h⟩ := h
                    refine mc_v hS (mc_runV (As := [.int v3, .int v4]) (rest := []) E (c_Mo_set l G m v0 v3 v4 _ h) wd_Mo_set ⟨lk_418, lk_419, lk_420⟩ rfl rfl ⟨Nat.le_of_ble_eq_true rfl, Nat.le_of_ble_eq_true rfl⟩ hp hS g_44 (by decide) rfl rfl rfl hl.1 rfl (lv_room (Nat.le_of_ble_eq_true rfl)) d_Mo_act_565 ⟨Nat.le_of_ble_eq_true rfl, Nat.le_of_ble_eq_true rfl⟩) (fun m_42 h H locs hp hS => ?_)
                    try dsimp only at h
                    refine lv_goto (tgt := 703) hx hb d_Mo_act_568 (by decide) ?_
                    exact mp_vret E hr hp hS h d_Mo_act_703
                  · replace h := h.2 g_41
                    by_cases g_45 : v1 = 109
                    · replace h := h.1 g_45
                      refine lv_tableIn (x := v1) (off := 425) (tgt := 538) hx hb d_Mo_act_113 (by rw [g_45]; decide) (by rw [g_45]; decide) (by rw [g_45]; decide) (by decide) ?_
                      refine rr_aload_n hx hb d_Mo_act_538 rfl (lv_at hl 0 rfl) ?_
                      refine lv_bipush (v := 31) hx hb d_Mo_act_539 (by decide) ?_
                      refine rr_aload_n hx hb d_Mo_act_541 rfl (lv_at hl 0 rfl) ?_
                      obtain ⟨g_47, h⟩ := h
                      refine rg_Mo_marks E hp g_47 lk_393 d_Mo_act_542 (fun x_46 ex_46 => ?_)
                      replace h := h x_46 ex_46
                      refine lv_imul hx hb d_Mo_act_545 ?_
                      refine lv_topi (fun x_48 ex_48 => ?_)
                      replace h := h x_48 ex_48
                      refine lv_iload_n hx hb d_Mo_act_546 rfl (lv_at hl 2 rfl) ?_
                      refine lv_iadd hx hb d_Mo_act_547 ?_
                      refine lv_topi (fun x_49 ex_49 => ?_)
                      replace h := h x_49 ex_49
                      obtain ⟨g_50, h⟩ := h
                      refine rp_Mo_marks E hp hS g_50 lk_393 d_Mo_act_548 (fun m_51 em_51 H locs hp hS => ?_)
                      replace h := h m_51 em_51
                      refine lv_goto (tgt := 703) hx hb d_Mo_act_551 (by decide) ?_
                      exact mp_vret E hr hp hS h d_Mo_act_703
                    · replace h := h.2 g_45
                      by_cases g_52 : v1 = 111
                      · replace h := h.1 g_52
                        refine lv_tableIn (x := v1) (off := 492) (tgt := 605) hx hb d_Mo_act_113 (by rw [g_52]; decide) (by rw [g_52]; decide) (by rw [g_52]; decide) (by decide) ?_
                        refine rr_aload_n hx hb d_Mo_act_605 rfl (lv_at hl 0 rfl) ?_
                        refine lv_iload_n hx hb d_Mo_act_606 rfl (lv_at hl 2 rfl) ?_
                        refine lv_iload hx hb d_Mo_act_607 (lv_at hl 3 rfl) ?_
                        obtain ⟨g_55, h⟩ := h
                        refine mc_v hS (mc_runV (As := [.int v3, .int v4]) (rest := []) E (c_Mo_openFile l G m v0 v3 v4 _ h) wd_Mo_openFile ⟨lk_421, lk_422, lk_423⟩ rfl rfl ⟨Nat.le_of_ble_eq_true rfl, Nat.le_of_ble_eq_true rfl⟩ hp hS g_55 (by decide) rfl rfl rfl hl.1 rfl (lv_room (Nat.le_of_ble_eq_true rfl)) d_Mo_act_609 ⟨Nat.le_of_ble_eq_true rfl, Nat.le_of_ble_eq_true rfl⟩) (fun m_53 h H locs hp hS => ?_)
                        try dsimp only at h
                        refine lv_goto (tgt := 703) hx hb d_Mo_act_612 (by decide) ?_
                        exact mp_vret E hr hp hS h d_Mo_act_703
                      · replace h := h.2 g_52
                        by_cases g_56 : v1 = 112
                        · replace h := h.1 g_56
                          refine lv_tableIn (x := v1) (off := 422) (tgt := 535) hx hb d_Mo_act_113 (by rw [g_56]; decide) (by rw [g_56]; decide) (by rw [g_56]; decide) (by decide) ?_
                          refine lv_goto (tgt := 703) hx hb d_Mo_act_535 (by decide) ?_
                          exact mp_vret E hr hp hS h d_Mo_act_703
                        · replace h := h.2 g_56
                          by_cases g_57 : v1 = 113
                          · replace h := h.1 g_57
                            refine lv_tableIn (x := v1) (off := 577) (tgt := 690) hx hb d_Mo_act_113 (by rw [g_57]; decide) (by rw [g_57]; decide) (by rw [g_57]; decide) (by decide) ?_
                            refine rr_aload_n hx hb d_Mo_act_690 rfl (lv_at hl 0 rfl) ?_
                            refine lv_iconst (v := 1) hx hb d_Mo_act_691 (by decide) ?_
                            obtain ⟨g_58, h⟩ := h
                            refine rp_Mo_done E hp hS g_58 lk_424 (by decide) d_Mo_act_692 (fun m_59 em_59 H locs hp hS => ?_)
                            replace h := h m_59 em_59
                            refine lv_goto (tgt := 703) hx hb d_Mo_act_695 (by decide) ?_
                            exact mp_vret E hr hp hS h d_Mo_act_703
                          · replace h := h.2 g_57
                            by_cases g_60 : v1 = 114
                            · replace h := h.1 g_60
                              refine lv_tableIn (x := v1) (off := 532) (tgt := 645) hx hb d_Mo_act_113 (by rw [g_60]; decide) (by rw [g_60]; decide) (by rw [g_60]; decide) (by decide) ?_
                              refine rr_aload_n hx hb d_Mo_act_645 rfl (lv_at hl 0 rfl) ?_
                              refine lv_iload_n hx hb d_Mo_act_646 rfl (lv_at hl 2 rfl) ?_
                              obtain ⟨g_63, h⟩ := h
                              refine mc_v hS (mc_runV (As := [.int v3]) (rest := []) E (c_Mo_readFile l G m v0 v3 _ h) wd_Mo_readFile ⟨lk_425, lk_426, lk_427⟩ rfl rfl ⟨Nat.le_of_ble_eq_true rfl, Nat.le_of_ble_eq_true rfl⟩ hp hS g_63 (by decide) rfl rfl rfl hl.1 rfl (lv_room (Nat.le_of_ble_eq_true rfl)) d_Mo_act_647 ⟨Nat.le_of_ble_eq_true rfl, Nat.le_of_ble_eq_true rfl⟩) (fun m_61 h H locs hp hS => ?_)
                              try dsimp only at h
                              refine lv_goto (tgt := 703) hx hb d_Mo_act_650 (by decide) ?_
                              exact mp_vret E hr hp hS h d_Mo_act_703
                            · replace h := h.2 g_60
                              by_cases g_64 : v1 = 115
                              · replace h := h.1 g_64
                                refine lv_tableIn (x := v1) (off := 441) (tgt := 554) hx hb d_Mo_act_113 (by rw [g_64]; decide) (by rw [g_64]; decide) (by rw [g_64]; decide) (by decide) ?_
                                refine rr_aload_n hx hb d_Mo_act_554 rfl (lv_at hl 0 rfl) ?_
                                obtain ⟨g_67, h⟩ := h
                                refine mc_v hS (mc_runV (As := []) (rest := []) E (c_Mo_show l G m v0 _ h) wd_Mo_show ⟨lk_428, lk_429, lk_430⟩ rfl rfl ⟨Nat.le_of_ble_eq_true rfl, Nat.le_of_ble_eq_true rfl⟩ hp hS g_67 (by decide) rfl rfl rfl hl.1 rfl (lv_room (Nat.le_of_ble_eq_true rfl)) d_Mo_act_555 ⟨Nat.le_of_ble_eq_true rfl, Nat.le_of_ble_eq_true rfl⟩) (fun m_65 h H locs hp hS => ?_)
                                try dsimp only at h
                                refine lv_goto (tgt := 703) hx hb d_Mo_act_558 (by decide) ?_
                                exact mp_vret E hr hp hS h d_Mo_act_703
                              · replace h := h.2 g_64
                                by_cases g_68 : v1 = 116
                                · replace h := h.1 g_68
                                  refine lv_tableIn (x := v1) (off := 351) (tgt := 464) hx hb d_Mo_act_113 (by rw [g_68]; decide) (by rw [g_68]; decide) (by rw [g_68]; decide) (by decide) ?_
                                  refine rr_aload_n hx hb d_Mo_act_464 rfl (lv_at hl 0 rfl) ?_
                                  refine lv_bipush (v := 10) hx hb d_Mo_act_465 (by decide) ?_
                                  refine lv_iload_n hx hb d_Mo_act_467 rfl (lv_at hl 2 rfl) ?_
                                  refine lv_imul hx hb d_Mo_act_468 ?_
                                  refine lv_topi (fun x_69 ex_69 => ?_)
                                  replace h := h x_69 ex_69
                                  obtain ⟨g_72, h⟩ := h
                                  refine mc_v hS (mc_runV (As := [.int x_69]) (rest := []) E (c_Mo_lay l G m v0 x_69 _ h) wd_Mo_lay ⟨lk_403, lk_404, lk_405⟩ rfl rfl ⟨Nat.le_of_ble_eq_true rfl, Nat.le_of_ble_eq_true rfl⟩ hp hS g_72 (by decide) rfl rfl rfl hl.1 rfl (lv_room (Nat.le_of_ble_eq_true rfl)) d_Mo_act_469 ⟨Nat.le_of_ble_eq_true rfl, Nat.le_of_ble_eq_true rfl⟩) (fun m_70 h H locs hp hS => ?_)
                                  try dsimp only at h
                                  refine lv_goto (tgt := 703) hx hb d_Mo_act_472 (by decide) ?_
                                  exact mp_vret E hr hp hS h d_Mo_act_703
                                · replace h := h.2 g_68
                                  by_cases g_73 : v1 = 119
                                  · replace h := h.1 g_73
                                    refine lv_tableIn (x := v1) (off := 510) (tgt := 623) hx hb d_Mo_act_113 (by rw [g_73]; decide) (by rw [g_73]; decide) (by rw [g_73]; decide) (by decide) ?_
                                    refine rr_aload_n hx hb d_Mo_act_623 rfl (lv_at hl 0 rfl) ?_
                                    refine rr_aload_n hx hb d_Mo_act_624 rfl (lv_at hl 0 rfl) ?_
                                    refine lv_iload_n hx hb d_Mo_act_625 rfl (lv_at hl 2 rfl) ?_
                                    refine lv_iload hx hb d_Mo_act_626 (lv_at hl 3 rfl) ?_
                                    obtain ⟨g_76, h⟩ := h
                                    refine mc_i hS (mc_runV (As := [.int v3, .int v4]) (rest := [rn v0]) E (c_Mo_written l G m v0 v3 v4 _ h) wd_Mo_written ⟨lk_374, lk_375, lk_376⟩ rfl rfl ⟨Nat.le_of_ble_eq_true rfl, Nat.le_of_ble_eq_true rfl⟩ hp hS g_76 (by decide) rfl rfl rfl hl.1 rfl (lv_room (by simp [rn_cat, cat_int, cat_long, cat_ref, cat_null])) d_Mo_act_628 ⟨Nat.le_of_ble_eq_true rfl, Nat.le_of_ble_eq_true rfl⟩) (fun r_75 m_74 h H locs hp hS => ?_)
                                    try dsimp only at h
                                    refine lv_if_ge (tgt := 638) hx hb d_Mo_act_631 (by decide) (fun g_77 => ?_) (fun g_77 => ?_)
                                    · replace h := h.1 g_77
                                      refine lv_iconst (v := 0) hx hb d_Mo_act_638 (by decide) ?_
                                      exact t_Mo_act_639 E hr m_74 0 v0 _ _ _ h hp hS (lv_sub hl [] rfl)
                                    · replace h := h.2 g_77
                                      refine lv_iconst (v := 4) hx hb d_Mo_act_634 (by decide) ?_
                                      refine lv_goto (tgt := 639) hx hb d_Mo_act_635 (by decide) ?_
                                      exact t_Mo_act_639 E hr m_74 4 v0 _ _ _ h hp hS (lv_sub hl [] rfl)
                                  · replace h := h.2 g_73
                                    by_cases g_78 : v1 = 120
                                    · replace h := h.1 g_78
                                      refine lv_tableIn (x := v1) (off := 408) (tgt := 521) hx hb d_Mo_act_113 (by rw [g_78]; decide) (by rw [g_78]; decide) (by rw [g_78]; decide) (by decide) ?_
                                      refine rr_aload_n hx hb d_Mo_act_521 rfl (lv_at hl 0 rfl) ?_
                                      refine lv_iload hx hb d_Mo_act_522 (lv_at hl 3 rfl) ?_
                                      obtain ⟨g_81, h⟩ := h
                                      refine mc_v hS (mc_runV (As := [.int v4]) (rest := []) E (c_Mo_lay l G m v0 v4 _ h) wd_Mo_lay ⟨lk_403, lk_404, lk_405⟩ rfl rfl ⟨Nat.le_of_ble_eq_true rfl, Nat.le_of_ble_eq_true rfl⟩ hp hS g_81 (by decide) rfl rfl rfl hl.1 rfl (lv_room (Nat.le_of_ble_eq_true rfl)) d_Mo_act_524 ⟨Nat.le_of_ble_eq_true rfl, Nat.le_of_ble_eq_true rfl⟩) (fun m_79 h H locs hp hS => ?_)
                                      try dsimp only at h
                                      refine rr_aload_n hx hb d_Mo_act_527 rfl (lv_at hl 0 rfl) ?_
                                      refine lv_iload_n hx hb d_Mo_act_528 rfl (lv_at hl 2 rfl) ?_
                                      obtain ⟨g_84, h⟩ := h
                                      refine mc_v hS (mc_runV (As := [.int v3]) (rest := []) E (c_Mo_lay l G m_79 v0 v3 _ h) wd_Mo_lay ⟨lk_403, lk_404, lk_405⟩ rfl rfl ⟨Nat.le_of_ble_eq_true rfl, Nat.le_of_ble_eq_true rfl⟩ hp hS g_84 (by decide) rfl rfl rfl hl.1 rfl (lv_room (Nat.le_of_ble_eq_true rfl)) d_Mo_act_529 ⟨Nat.le_of_ble_eq_true rfl, Nat.le_of_ble_eq_true rfl⟩) (fun m_82 h H locs hp hS => ?_)
                                      try dsimp only at h
                                      refine lv_goto (tgt := 703) hx hb d_Mo_act_532 (by decide) ?_
                                      exact mp_vret E hr hp hS h d_Mo_act_703
                                    · replace h := h.2 g_78
                                      by_cases g_85 : v1 = 123
                                      · replace h := h.1 g_85
                                        refine lv_tableIn (x := v1) (off := 562) (tgt := 675) hx hb d_Mo_act_113 (by rw [g_85]; decide) (by rw [g_85]; decide) (by rw [g_85]; decide) (by decide) ?_
                                        refine rr_aload_n hx hb d_Mo_act_675 rfl (lv_at hl 0 rfl) ?_
                                        refine lv_iload_n hx hb d_Mo_act_676 rfl (lv_at hl 2 rfl) ?_
                                        obtain ⟨g_88, h⟩ := h
                                        refine mc_v hS (mc_runV (As := [.int v3]) (rest := []) E (c_Mo_beginLoop l G m v0 v3 _ h) wd_Mo_beginLoop ⟨lk_431, lk_432, lk_433⟩ rfl rfl ⟨Nat.le_of_ble_eq_true rfl, Nat.le_of_ble_eq_true rfl⟩ hp hS g_88 (by decide) rfl rfl rfl hl.1 rfl (lv_room (Nat.le_of_ble_eq_true rfl)) d_Mo_act_677 ⟨Nat.le_of_ble_eq_true rfl, Nat.le_of_ble_eq_true rfl⟩) (fun m_86 h H locs hp hS => ?_)
                                        try dsimp only at h
                                        refine lv_goto (tgt := 703) hx hb d_Mo_act_680 (by decide) ?_
                                        exact mp_vret E hr hp hS h d_Mo_act_703
                                      · replace h := h.2 g_85
                                        by_cases g_89 : v1 = 125
                                        · replace h := h.1 g_89
                                          refine lv_tableIn (x := v1) (off := 570) (tgt := 683) hx hb d_Mo_act_113 (by rw [g_89]; decide) (by rw [g_89]; decide) (by rw [g_89]; decide) (by decide) ?_
                                          refine rr_aload_n hx hb d_Mo_act_683 rfl (lv_at hl 0 rfl) ?_
                                          obtain ⟨g_92, h⟩ := h
                                          refine mc_v hS (mc_runV (As := []) (rest := []) E (c_Mo_endLoop l G m v0 _ h) wd_Mo_endLoop ⟨lk_434, lk_435, lk_436⟩ rfl rfl ⟨Nat.le_of_ble_eq_true rfl, Nat.le_of_ble_eq_true rfl⟩ hp hS g_92 (by decide) rfl rfl rfl hl.1 rfl (lv_room (Nat.le_of_ble_eq_true rfl)) d_Mo_act_684 ⟨Nat.le_of_ble_eq_true rfl, Nat.le_of_ble_eq_true rfl⟩) (fun m_90 h H locs hp hS => ?_)
                                          try dsimp only at h
                                          refine lv_goto (tgt := 703) hx hb d_Mo_act_687 (by decide) ?_
                                          exact mp_vret E hr hp hS h d_Mo_act_703
                                        · replace h := h.2 g_89
                                          have ng_1 := lv_neT g_1 (show (42 : Int32).toInt = 42 from by decide)
                                          have ng_6 := lv_neT g_6 (show (43 : Int32).toInt = 43 from by decide)
                                          have ng_11 := lv_neT g_11 (show (45 : Int32).toInt = 45 from by decide)
                                          have ng_16 := lv_neT g_16 (show (68 : Int32).toInt = 68 from by decide)
                                          have ng_21 := lv_neT g_21 (show (82 : Int32).toInt = 82 from by decide)
                                          have ng_25 := lv_neT g_25 (show (99 : Int32).toInt = 99 from by decide)
                                          have ng_29 := lv_neT g_29 (show (100 : Int32).toInt = 100 from by decide)
                                          have ng_36 := lv_neT g_36 (show (102 : Int32).toInt = 102 from by decide)
                                          have ng_41 := lv_neT g_41 (show (103 : Int32).toInt = 103 from by decide)
                                          have ng_45 := lv_neT g_45 (show (109 : Int32).toInt = 109 from by decide)
                                          have ng_52 := lv_neT g_52 (show (111 : Int32).toInt = 111 from by decide)
                                          have ng_56 := lv_neT g_56 (show (112 : Int32).toInt = 112 from by decide)
                                          have ng_57 := lv_neT g_57 (show (113 : Int32).toInt = 113 from by decide)
                                          have ng_60 := lv_neT g_60 (show (114 : Int32).toInt = 114 from by decide)
                                          have ng_64 := lv_neT g_64 (show (115 : Int32).toInt = 115 from by decide)
                                          have ng_68 := lv_neT g_68 (show (116 : Int32).toInt = 116 from by decide)
                                          have ng_73 := lv_neT g_73 (show (119 : Int32).toInt = 119 from by decide)
                                          have ng_78 := lv_neT g_78 (show (120 : Int32).toInt = 120 from by decide)
                                          have ng_85 := lv_neT g_85 (show (123 : Int32).toInt = 123 from by decide)
                                          have ng_89 := lv_neT g_89 (show (125 : Int32).toInt = 125 from by decide)
                                          refine lv_tableD (x := v1) (tgt := 698) (real := [0, 1, 3, 26, 40, 57, 58, 60, 61, 67, 69, 70, 71, 72, 73, 74, 77, 78, 81, 83]) hx hb d_Mo_act_113 (by decide) (fun q1 q2 => ⟨by simp only [List.size_toArray, List.length_cons, List.length_nil]; omega, by simp only [List.mem_cons, List.not_mem_nil, or_false]; omega⟩) (by decide) ?_
                                          refine rr_aload_n hx hb d_Mo_act_698 rfl (lv_at hl 0 rfl) ?_
                                          refine lv_iconst (v := 1) hx hb d_Mo_act_699 (by decide) ?_
                                          obtain ⟨g_93, h⟩ := h
                                          refine rp_Mo_error E hp hS g_93 lk_392 d_Mo_act_700 (fun m_94 em_94 H locs hp hS => ?_)
                                          replace h := h m_94 em_94
                                          exact mp_vret E hr hp hS h d_Mo_act_703
set_option maxHeartbeats 4000000 in
set_option maxRecDepth 100000 in
theorem t_Mo_act_89 {G : Gc} {P : Mm → Prop} (E : En G R_Mo b_Mo_act 6 p s mt args meth c) (hr : meth.sig.returnType = none) (m : Mm) (v0 : Nat) (v1 : Int32) (v3 : Int32) (v4 : Int32) (s0 : Int32) (H : Heap) (locs : List Loc) (ls : Array Slot) (h : wp_Mo_act_89 P m v0 v1 v3 v4 s0) (hp : pic G m H) (hS : va_S (fr G) s.heap H locs) (hl : lv_has ls 6 [(0, rn v0), (1, .int v1), (3, .int v3), (4, .int v4)]) : W p l e rm_Mo_act s mt args below meth c H locs 0 0 (MQ below (PoV G P) args s 0 0 (fr G)) (F0 mt 89 ls [.int s0]) := by
  have hx := E.1
  have hb := E.2.1
  unfold wp_Mo_act_89 at h
  refine lv_istore (lv' := [(5, .int s0), (0, rn v0), (1, .int v1), (3, .int v3), (4, .int v4)]) hx hb d_Mo_act_89 hl (by decide) rfl (fun ls hl => ?_)
  refine lv_iload_n hx hb d_Mo_act_91 rfl (lv_at hl 2 rfl) ?_
  refine lv_bipush (v := 48) hx hb d_Mo_act_92 (by decide) ?_
  refine lv_icmp_lt (tgt := 112) hx hb d_Mo_act_94 (by decide) (fun g_1 => ?_) (fun g_1 => ?_)
  · replace h := h.1 g_1
    exact t_Mo_act_112 E hr m v0 v1 v3 v4 s0 _ _ _ h hp hS (lv_sub hl [1, 2, 3, 4, 0] rfl)
  · replace h := h.2 g_1
    refine lv_iload_n hx hb d_Mo_act_97 rfl (lv_at hl 2 rfl) ?_
    refine lv_bipush (v := 57) hx hb d_Mo_act_98 (by decide) ?_
    refine lv_icmp_gt (tgt := 112) hx hb d_Mo_act_100 (by decide) (fun g_2 => ?_) (fun g_2 => ?_)
    · replace h := h.1 g_2
      exact t_Mo_act_112 E hr m v0 v1 v3 v4 s0 _ _ _ h hp hS (lv_sub hl [1, 2, 3, 4, 0] rfl)
    · replace h := h.2 g_2
      refine rr_aload_n hx hb d_Mo_act_103 rfl (lv_at hl 1 rfl) ?_
      refine lv_iload_n hx hb d_Mo_act_104 rfl (lv_at hl 2 rfl) ?_
      refine lv_bipush (v := 48) hx hb d_Mo_act_105 (by decide) ?_
      refine lv_isub hx hb d_Mo_act_107 ?_
      refine lv_topi (fun x_3 ex_3 => ?_)
      replace h := h x_3 ex_3
      obtain ⟨g_6, h⟩ := h
      refine mc_v hS (mc_runV (As := [.int x_3]) (rest := []) E (c_Mo_lay l G m v0 x_3 _ h) wd_Mo_lay ⟨lk_403, lk_404, lk_405⟩ rfl rfl ⟨Nat.le_of_ble_eq_true rfl, Nat.le_of_ble_eq_true rfl⟩ hp hS g_6 (by decide) rfl rfl rfl hl.1 rfl (lv_room (Nat.le_of_ble_eq_true rfl)) d_Mo_act_108 ⟨Nat.le_of_ble_eq_true rfl, Nat.le_of_ble_eq_true rfl⟩) (fun m_4 h H locs hp hS => ?_)
      try dsimp only at h
      exact mp_vret E hr hp hS h d_Mo_act_111
set_option maxHeartbeats 4000000 in
set_option maxRecDepth 100000 in
theorem t_Mo_act_67 {G : Gc} {P : Mm → Prop} (E : En G R_Mo b_Mo_act 6 p s mt args meth c) (hr : meth.sig.returnType = none) (m : Mm) (v0 : Nat) (v1 : Int32) (v2 : Int32) (v3 : Int32) (s0 : Int32) (H : Heap) (locs : List Loc) (ls : Array Slot) (h : wp_Mo_act_67 P m v0 v1 v2 v3 s0) (hp : pic G m H) (hS : va_S (fr G) s.heap H locs) (hl : lv_has ls 6 [(0, rn v0), (1, .int v1), (2, .int v2), (3, .int v3)]) : W p l e rm_Mo_act s mt args below meth c H locs 0 0 (MQ below (PoV G P) args s 0 0 (fr G)) (F0 mt 67 ls [.int s0]) := by
  have hx := E.1
  have hb := E.2.1
  unfold wp_Mo_act_67 at h
  refine lv_istore (lv' := [(4, .int s0), (0, rn v0), (1, .int v1), (2, .int v2), (3, .int v3)]) hx hb d_Mo_act_67 hl (by decide) rfl (fun ls hl => ?_)
  refine lv_iload_n hx hb d_Mo_act_69 rfl (lv_at hl 3 rfl) ?_
  refine lv_iconst (v := 2) hx hb d_Mo_act_70 (by decide) ?_
  refine lv_icmp_le (tgt := 88) hx hb d_Mo_act_71 (by decide) (fun g_1 => ?_) (fun g_1 => ?_)
  · replace h := h.1 g_1
    refine lv_iconst (v := 0) hx hb d_Mo_act_88 (by decide) ?_
    exact t_Mo_act_89 E hr m v0 v1 v3 s0 0 _ _ _ h hp hS (lv_sub hl [1, 2, 4, 0] rfl)
  · replace h := h.2 g_1
    refine rr_aload_n hx hb d_Mo_act_74 rfl (lv_at hl 1 rfl) ?_
    obtain ⟨g_3, h⟩ := h
    refine rg_Mo_stack E hp g_3 lk_352 d_Mo_act_75 (fun x_2 ex_2 => ?_)
    replace h := h x_2 ex_2
    refine rr_aload_n hx hb d_Mo_act_78 rfl (lv_at hl 1 rfl) ?_
    obtain ⟨g_5, h⟩ := h
    refine rg_Mo_high E hp g_5 lk_391 d_Mo_act_79 (fun x_4 ex_4 => ?_)
    replace h := h x_4 ex_4
    refine lv_iconst (v := 2) hx hb d_Mo_act_82 (by decide) ?_
    refine lv_iadd hx hb d_Mo_act_83 ?_
    refine lv_topi (fun x_6 ex_6 => ?_)
    replace h := h x_6 ex_6
    obtain ⟨g_8, g_9, h⟩ := h
    refine mp_iald (t0 := 1) E hp g_8 (by decide) rfl rfl g_9 d_Mo_act_84 (fun x_7 ex_7 => ?_)
    replace h := h x_7 ex_7
    refine lv_goto (tgt := 89) hx hb d_Mo_act_85 (by decide) ?_
    exact t_Mo_act_89 E hr m v0 v1 v3 s0 x_7 _ _ _ h hp hS (lv_sub hl [1, 2, 4, 0] rfl)
set_option maxHeartbeats 4000000 in
set_option maxRecDepth 100000 in
theorem t_Mo_act_46 {G : Gc} {P : Mm → Prop} (E : En G R_Mo b_Mo_act 6 p s mt args meth c) (hr : meth.sig.returnType = none) (m : Mm) (v0 : Nat) (v1 : Int32) (v2 : Int32) (s0 : Int32) (H : Heap) (locs : List Loc) (ls : Array Slot) (h : wp_Mo_act_46 P m v0 v1 v2 s0) (hp : pic G m H) (hS : va_S (fr G) s.heap H locs) (hl : lv_has ls 6 [(0, rn v0), (1, .int v1), (2, .int v2)]) : W p l e rm_Mo_act s mt args below meth c H locs 0 0 (MQ below (PoV G P) args s 0 0 (fr G)) (F0 mt 46 ls [.int s0]) := by
  have hx := E.1
  have hb := E.2.1
  unfold wp_Mo_act_46 at h
  refine lv_istore_n (lv' := [(3, .int s0), (0, rn v0), (1, .int v1), (2, .int v2)]) hx hb d_Mo_act_46 rfl hl (by decide) rfl (fun ls hl => ?_)
  refine lv_iload_n hx hb d_Mo_act_47 rfl (lv_at hl 3 rfl) ?_
  refine lv_iconst (v := 1) hx hb d_Mo_act_48 (by decide) ?_
  refine lv_icmp_le (tgt := 66) hx hb d_Mo_act_49 (by decide) (fun g_1 => ?_) (fun g_1 => ?_)
  · replace h := h.1 g_1
    refine lv_iconst (v := 0) hx hb d_Mo_act_66 (by decide) ?_
    exact t_Mo_act_67 E hr m v0 v1 v2 s0 0 _ _ _ h hp hS (lv_sub hl [1, 2, 3, 0] rfl)
  · replace h := h.2 g_1
    refine rr_aload_n hx hb d_Mo_act_52 rfl (lv_at hl 1 rfl) ?_
    obtain ⟨g_3, h⟩ := h
    refine rg_Mo_stack E hp g_3 lk_352 d_Mo_act_53 (fun x_2 ex_2 => ?_)
    replace h := h x_2 ex_2
    refine rr_aload_n hx hb d_Mo_act_56 rfl (lv_at hl 1 rfl) ?_
    obtain ⟨g_5, h⟩ := h
    refine rg_Mo_high E hp g_5 lk_391 d_Mo_act_57 (fun x_4 ex_4 => ?_)
    replace h := h x_4 ex_4
    refine lv_iconst (v := 1) hx hb d_Mo_act_60 (by decide) ?_
    refine lv_iadd hx hb d_Mo_act_61 ?_
    refine lv_topi (fun x_6 ex_6 => ?_)
    replace h := h x_6 ex_6
    obtain ⟨g_8, g_9, h⟩ := h
    refine mp_iald (t0 := 1) E hp g_8 (by decide) rfl rfl g_9 d_Mo_act_62 (fun x_7 ex_7 => ?_)
    replace h := h x_7 ex_7
    refine lv_goto (tgt := 67) hx hb d_Mo_act_63 (by decide) ?_
    exact t_Mo_act_67 E hr m v0 v1 v2 s0 x_7 _ _ _ h hp hS (lv_sub hl [1, 2, 3, 0] rfl)
set_option maxHeartbeats 4000000 in
set_option maxRecDepth 100000 in
theorem t_Mo_act_0 {G : Gc} {P : Mm → Prop} (E : En G R_Mo b_Mo_act 6 p s mt args meth c) (hr : meth.sig.returnType = none) (m : Mm) (v0 : Nat) (v1 : Int32) (H : Heap) (locs : List Loc) (ls : Array Slot) (h : wp_Mo_act_0 P m v0 v1) (hp : pic G m H) (hS : va_S (fr G) s.heap H locs) (hl : lv_has ls 6 [(0, rn v0), (1, .int v1)]) : W p l e rm_Mo_act s mt args below meth c H locs 0 0 (MQ below (PoV G P) args s 0 0 (fr G)) (F0 mt 0 ls []) := by
  have hx := E.1
  have hb := E.2.1
  unfold wp_Mo_act_0 at h
  refine lv_iload_n hx hb d_Mo_act_0 rfl (lv_at hl 1 rfl) ?_
  refine mc_i hS (mc_runS (As := [.int v1]) (rest := []) E (c_Mo_wants l G m v1 _ h) wd_Mo_wants ⟨lk_437, lk_438⟩ rfl rfl ⟨Nat.le_of_ble_eq_true rfl, Nat.le_of_ble_eq_true rfl⟩ hp hS rfl hl.1 rfl (lv_room (Nat.le_of_ble_eq_true rfl)) d_Mo_act_1 ⟨Nat.le_of_ble_eq_true rfl, Nat.le_of_ble_eq_true rfl⟩) (fun r_2 m_1 h H locs hp hS => ?_)
  try dsimp only at h
  refine lv_istore_n (lv' := [(2, .int r_2), (0, rn v0), (1, .int v1)]) hx hb d_Mo_act_4 rfl hl (by decide) rfl (fun ls hl => ?_)
  refine rr_aload_n hx hb d_Mo_act_5 rfl (lv_at hl 1 rfl) ?_
  obtain ⟨g_4, h⟩ := h
  refine rg_Mo_high E hp g_4 lk_391 d_Mo_act_6 (fun x_3 ex_3 => ?_)
  replace h := h x_3 ex_3
  refine lv_iload_n hx hb d_Mo_act_9 rfl (lv_at hl 0 rfl) ?_
  refine lv_icmp_ge (tgt := 19) hx hb d_Mo_act_10 (by decide) (fun g_5 => ?_) (fun g_5 => ?_)
  · replace h := h.1 g_5
    refine rr_aload_n hx hb d_Mo_act_19 rfl (lv_at hl 1 rfl) ?_
    refine lv_dup hx hb d_Mo_act_20 (rn_cat _) ?_
    obtain ⟨g_7, h⟩ := h
    refine rg_Mo_high E hp g_7 lk_391 d_Mo_act_21 (fun x_6 ex_6 => ?_)
    replace h := h x_6 ex_6
    refine lv_iload_n hx hb d_Mo_act_24 rfl (lv_at hl 0 rfl) ?_
    refine lv_isub hx hb d_Mo_act_25 ?_
    refine lv_topi (fun x_8 ex_8 => ?_)
    replace h := h x_8 ex_8
    obtain ⟨g_9, h⟩ := h
    refine rp_Mo_high E hp hS g_9 lk_391 d_Mo_act_26 (fun m_10 em_10 H locs hp hS => ?_)
    replace h := h m_10 em_10
    refine lv_iload_n hx hb d_Mo_act_29 rfl (lv_at hl 0 rfl) ?_
    refine lv_if_le (tgt := 45) hx hb d_Mo_act_30 (by decide) (fun g_11 => ?_) (fun g_11 => ?_)
    · replace h := h.1 g_11
      refine lv_iconst (v := 0) hx hb d_Mo_act_45 (by decide) ?_
      exact t_Mo_act_46 E hr m_10 v0 v1 r_2 0 _ _ _ h hp hS (lv_sub hl [1, 2, 0] rfl)
    · replace h := h.2 g_11
      refine rr_aload_n hx hb d_Mo_act_33 rfl (lv_at hl 1 rfl) ?_
      obtain ⟨g_13, h⟩ := h
      refine rg_Mo_stack E hp g_13 lk_352 d_Mo_act_34 (fun x_12 ex_12 => ?_)
      replace h := h x_12 ex_12
      refine rr_aload_n hx hb d_Mo_act_37 rfl (lv_at hl 1 rfl) ?_
      obtain ⟨g_15, h⟩ := h
      refine rg_Mo_high E hp g_15 lk_391 d_Mo_act_38 (fun x_14 ex_14 => ?_)
      replace h := h x_14 ex_14
      obtain ⟨g_17, g_18, h⟩ := h
      refine mp_iald (t0 := 1) E hp g_17 (by decide) rfl rfl g_18 d_Mo_act_41 (fun x_16 ex_16 => ?_)
      replace h := h x_16 ex_16
      refine lv_goto (tgt := 46) hx hb d_Mo_act_42 (by decide) ?_
      exact t_Mo_act_46 E hr m_10 v0 v1 r_2 x_16 _ _ _ h hp hS (lv_sub hl [1, 2, 0] rfl)
  · replace h := h.2 g_5
    refine rr_aload_n hx hb d_Mo_act_13 rfl (lv_at hl 1 rfl) ?_
    refine lv_iconst (v := 5) hx hb d_Mo_act_14 (by decide) ?_
    obtain ⟨g_19, h⟩ := h
    refine rp_Mo_error E hp hS g_19 lk_392 d_Mo_act_15 (fun m_20 em_20 H locs hp hS => ?_)
    replace h := h m_20 em_20
    exact mp_vret E hr hp hS h d_Mo_act_18
set_option maxHeartbeats 4000000 in
set_option maxRecDepth 100000 in
theorem c_Mo_act (l : Launch) (G : Gc) (m : Mm) (v0 : Nat) (v1 : Int32) (P : Mm → Prop) (h : wp_Mo_act m v0 v1 P) : Met l y_Mo_act (Cond.code y_Mo_act b_Mo_act 6 none :: lw_good) rm_Mo_act (Pre9 G m [rn v0, .int v1]) (PoV G P) 0 0 (fr G) := by
  refine Met.ofW (cc := b_Mo_act) (maxL := 6) (ret := none) (by decide) rfl ?_
  intro p e s mt args below meth c s₁ B hml hv
  obtain ⟨rfl, hp, hC⟩ := hv
  have hts := atoms_spec (ws := Cond.code y_Mo_act b_Mo_act 6 none :: lw_good) B.pre
  have E : En G R_Mo b_Mo_act 6 p s mt _ meth c := ⟨B.exec, B.bytes, hml, findClass_of_methodNamed B.named, fun w hw => hts w (List.mem_cons_of_mem _ hw), hC, B.notSynchronized⟩
  have hr := B.returns
  have hl := lv_entry [rn v0, .int v1] (n := 6) (by simp [lg_sl, rn_cat, cat_int, cat_long, cat_ref, cat_null])
  rw [lg_entry_eq]
  generalize (lg_sl [rn v0, .int v1] ++ List.replicate (6 - (lg_sl [rn v0, .int v1]).length) Slot.unset).toArray = ls at hl ⊢
  have hl : lv_has ls 6 [(0, rn v0), (1, .int v1)] := by simpa [lv_args, rn_cat, cat_int, cat_long, cat_ref, cat_null] using hl
  exact t_Mo_act_0 E hr m v0 v1 _ _ _ h hp va_S.rf (lv_sub hl [0, 1] rfl)
end WK
