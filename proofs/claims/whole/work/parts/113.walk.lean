section WK
variable {p : Program} {l : Launch} {e : Env} {s : State} {mt : MethodId} {args : Array Value} {below : List Frame} {meth : Method} {c : Code}
abbrev rm_Mo_beginLoop : Room := { frames := 3, cells := 0, slots := 0, locals := 67 }
set_option maxHeartbeats 4000000 in
set_option maxRecDepth 100000 in
theorem t_Mo_beginLoop_0 {G : Gc} {P : Mm → Prop} (E : En G R_Mo b_Mo_beginLoop 3 p s mt args meth c) (hr : meth.sig.returnType = none) (m : Mm) (v0 : Nat) (v1 : Int32) (H : Heap) (locs : List Loc) (ls : Array Slot) (h : wp_Mo_beginLoop_0 P m v0 v1) (hp : pic G m H) (hS : va_S (fr G) s.heap H locs) (hl : lv_has ls 3 [(0, rn v0), (1, .int v1)]) : W p l e rm_Mo_beginLoop s mt args below meth c H locs 0 0 (MQ below (PoV G P) args s 0 0 (fr G)) (F0 mt 0 ls []) := by
  have hx := E.1
  have hb := E.2.1
  unfold wp_Mo_beginLoop_0 at h
  refine rr_aload_n hx hb d_Mo_beginLoop_0 rfl (lv_at hl 0 rfl) ?_
  refine rr_aload_n hx hb d_Mo_beginLoop_1 rfl (lv_at hl 0 rfl) ?_
  obtain ⟨g_2, h⟩ := h
  refine rg_Mo_at E hp g_2 lk_396 d_Mo_beginLoop_2 (fun x_1 ex_1 => ?_)
  replace h := h x_1 ex_1
  obtain ⟨g_5, h⟩ := h
  refine mc_i hS (mc_runV (As := [.int x_1]) (rest := []) E (c_Mo_endOf l G m v0 x_1 _ h) wd_Mo_endOf ⟨lk_397, lk_398, lk_399⟩ rfl rfl ⟨Nat.le_of_ble_eq_true rfl, Nat.le_of_ble_eq_true rfl⟩ hp hS g_5 (by decide) rfl rfl rfl hl.1 rfl (lv_room (Nat.le_of_ble_eq_true rfl)) d_Mo_beginLoop_5 ⟨Nat.le_of_ble_eq_true rfl, Nat.le_of_ble_eq_true rfl⟩) (fun r_4 m_3 h H locs hp hS => ?_)
  try dsimp only at h
  refine lv_istore_n (lv' := [(2, .int r_4), (0, rn v0), (1, .int v1)]) hx hb d_Mo_beginLoop_8 rfl hl (by decide) rfl (fun ls hl => ?_)
  refine rr_aload_n hx hb d_Mo_beginLoop_9 rfl (lv_at hl 1 rfl) ?_
  obtain ⟨g_7, h⟩ := h
  refine rg_Mo_loops E hp g_7 lk_400 d_Mo_beginLoop_10 (fun x_6 ex_6 => ?_)
  replace h := h x_6 ex_6
  refine lv_iconst (v := 4) hx hb d_Mo_beginLoop_13 (by decide) ?_
  refine lv_icmp_ne (tgt := 26) hx hb d_Mo_beginLoop_14 (by decide) (fun g_8 => ?_) (fun g_8 => ?_)
  · replace h := h.2 g_8
    refine lv_iload_n hx hb d_Mo_beginLoop_26 rfl (lv_at hl 0 rfl) ?_
    refine lv_if_ge (tgt := 39) hx hb d_Mo_beginLoop_27 (by decide) (fun g_9 => ?_) (fun g_9 => ?_)
    · replace h := h.1 g_9
      refine lv_iload_n hx hb d_Mo_beginLoop_39 rfl (lv_at hl 2 rfl) ?_
      refine lv_iconst (v := 1) hx hb d_Mo_beginLoop_40 (by decide) ?_
      refine lv_icmp_ge (tgt := 52) hx hb d_Mo_beginLoop_41 (by decide) (fun g_10 => ?_) (fun g_10 => ?_)
      · replace h := h.1 g_10
        refine rr_aload_n hx hb d_Mo_beginLoop_52 rfl (lv_at hl 1 rfl) ?_
        obtain ⟨g_12, h⟩ := h
        refine rg_Mo_begin E hp g_12 lk_354 d_Mo_beginLoop_53 (fun x_11 ex_11 => ?_)
        replace h := h x_11 ex_11
        refine rr_aload_n hx hb d_Mo_beginLoop_56 rfl (lv_at hl 1 rfl) ?_
        obtain ⟨g_14, h⟩ := h
        refine rg_Mo_loops E hp g_14 lk_400 d_Mo_beginLoop_57 (fun x_13 ex_13 => ?_)
        replace h := h x_13 ex_13
        refine rr_aload_n hx hb d_Mo_beginLoop_60 rfl (lv_at hl 1 rfl) ?_
        obtain ⟨g_16, h⟩ := h
        refine rg_Mo_at E hp g_16 lk_396 d_Mo_beginLoop_61 (fun x_15 ex_15 => ?_)
        replace h := h x_15 ex_15
        obtain ⟨g_17, g_18, h⟩ := h
        refine mp_iast (t0 := 1) E hp hS g_17 (by decide) rfl cw_49 rfl g_18 d_Mo_beginLoop_64 (fun m_19 em_19 H locs hp hS => ?_)
        replace h := h m_19 em_19
        refine rr_aload_n hx hb d_Mo_beginLoop_65 rfl (lv_at hl 1 rfl) ?_
        obtain ⟨g_21, h⟩ := h
        refine rg_Mo_left E hp g_21 lk_355 d_Mo_beginLoop_66 (fun x_20 ex_20 => ?_)
        replace h := h x_20 ex_20
        refine rr_aload_n hx hb d_Mo_beginLoop_69 rfl (lv_at hl 1 rfl) ?_
        obtain ⟨g_23, h⟩ := h
        refine rg_Mo_loops E hp g_23 lk_400 d_Mo_beginLoop_70 (fun x_22 ex_22 => ?_)
        replace h := h x_22 ex_22
        refine lv_iload_n hx hb d_Mo_beginLoop_73 rfl (lv_at hl 2 rfl) ?_
        obtain ⟨g_24, g_25, h⟩ := h
        refine mp_iast (t0 := 1) E hp hS g_24 (by decide) rfl cw_50 rfl g_25 d_Mo_beginLoop_74 (fun m_26 em_26 H locs hp hS => ?_)
        replace h := h m_26 em_26
        refine rr_aload_n hx hb d_Mo_beginLoop_75 rfl (lv_at hl 1 rfl) ?_
        refine lv_dup hx hb d_Mo_beginLoop_76 (rn_cat _) ?_
        obtain ⟨g_28, h⟩ := h
        refine rg_Mo_loops E hp g_28 lk_400 d_Mo_beginLoop_77 (fun x_27 ex_27 => ?_)
        replace h := h x_27 ex_27
        refine lv_iconst (v := 1) hx hb d_Mo_beginLoop_80 (by decide) ?_
        refine lv_iadd hx hb d_Mo_beginLoop_81 ?_
        refine lv_topi (fun x_29 ex_29 => ?_)
        replace h := h x_29 ex_29
        obtain ⟨g_30, h⟩ := h
        refine rp_Mo_loops E hp hS g_30 lk_400 d_Mo_beginLoop_82 (fun m_31 em_31 H locs hp hS => ?_)
        replace h := h m_31 em_31
        exact mp_vret E hr hp hS h d_Mo_beginLoop_85
      · replace h := h.2 g_10
        refine rr_aload_n hx hb d_Mo_beginLoop_44 rfl (lv_at hl 1 rfl) ?_
        refine lv_iload_n hx hb d_Mo_beginLoop_45 rfl (lv_at hl 0 rfl) ?_
        obtain ⟨g_32, h⟩ := h
        refine rp_Mo_at E hp hS g_32 lk_396 d_Mo_beginLoop_46 (fun m_33 em_33 H locs hp hS => ?_)
        replace h := h m_33 em_33
        refine lv_goto (tgt := 85) hx hb d_Mo_beginLoop_49 (by decide) ?_
        exact mp_vret E hr hp hS h d_Mo_beginLoop_85
    · replace h := h.2 g_9
      refine rr_aload_n hx hb d_Mo_beginLoop_30 rfl (lv_at hl 1 rfl) ?_
      refine lv_bipush (v := 7) hx hb d_Mo_beginLoop_31 (by decide) ?_
      obtain ⟨g_34, h⟩ := h
      refine rp_Mo_error E hp hS g_34 lk_393 d_Mo_beginLoop_33 (fun m_35 em_35 H locs hp hS => ?_)
      replace h := h m_35 em_35
      refine lv_goto (tgt := 85) hx hb d_Mo_beginLoop_36 (by decide) ?_
      exact mp_vret E hr hp hS h d_Mo_beginLoop_85
  · replace h := h.1 g_8
    refine rr_aload_n hx hb d_Mo_beginLoop_17 rfl (lv_at hl 1 rfl) ?_
    refine lv_bipush (v := 6) hx hb d_Mo_beginLoop_18 (by decide) ?_
    obtain ⟨g_36, h⟩ := h
    refine rp_Mo_error E hp hS g_36 lk_393 d_Mo_beginLoop_20 (fun m_37 em_37 H locs hp hS => ?_)
    replace h := h m_37 em_37
    refine lv_goto (tgt := 85) hx hb d_Mo_beginLoop_23 (by decide) ?_
    exact mp_vret E hr hp hS h d_Mo_beginLoop_85
set_option maxHeartbeats 4000000 in
set_option maxRecDepth 100000 in
theorem c_Mo_beginLoop (l : Launch) (G : Gc) (m : Mm) (v0 : Nat) (v1 : Int32) (P : Mm → Prop) (h : wp_Mo_beginLoop m v0 v1 P) : Met l y_Mo_beginLoop (Cond.code y_Mo_beginLoop b_Mo_beginLoop 3 none :: lw_good) rm_Mo_beginLoop (Pre9 G m [rn v0, .int v1]) (PoV G P) 0 0 (fr G) := by
  refine Met.ofW (cc := b_Mo_beginLoop) (maxL := 3) (ret := none) (by decide) rfl ?_
  intro p e s mt args below meth c s₁ B hml hv
  obtain ⟨rfl, hp, hC⟩ := hv
  have hts := atoms_spec (ws := Cond.code y_Mo_beginLoop b_Mo_beginLoop 3 none :: lw_good) B.pre
  have E : En G R_Mo b_Mo_beginLoop 3 p s mt _ meth c := ⟨B.exec, B.bytes, hml, findClass_of_methodNamed B.named, fun w hw => hts w (List.mem_cons_of_mem _ hw), hC, B.notSynchronized⟩
  have hr := B.returns
  have hl := lv_entry [rn v0, .int v1] (n := 3) (by simp [lg_sl, rn_cat, cat_int, cat_long, cat_ref, cat_null])
  rw [lg_entry_eq]
  generalize (lg_sl [rn v0, .int v1] ++ List.replicate (3 - (lg_sl [rn v0, .int v1]).length) Slot.unset).toArray = ls at hl ⊢
  have hl : lv_has ls 3 [(0, rn v0), (1, .int v1)] := by simpa [lv_args, rn_cat, cat_int, cat_long, cat_ref, cat_null] using hl
  exact t_Mo_beginLoop_0 E hr m v0 v1 _ _ _ h hp va_S.rf (lv_sub hl [0, 1] rfl)
abbrev rm_Mo_endLoop : Room := { frames := 0, cells := 0, slots := 0, locals := 0 }
set_option maxHeartbeats 4000000 in
set_option maxRecDepth 100000 in
theorem t_Mo_endLoop_0 {G : Gc} {P : Mm → Prop} (E : En G R_Mo b_Mo_endLoop 1 p s mt args meth c) (hr : meth.sig.returnType = none) (m : Mm) (v0 : Nat) (H : Heap) (locs : List Loc) (ls : Array Slot) (h : wp_Mo_endLoop_0 P m v0) (hp : pic G m H) (hS : va_S (fr G) s.heap H locs) (hl : lv_has ls 1 [(0, rn v0)]) : W p l e rm_Mo_endLoop s mt args below meth c H locs 0 0 (MQ below (PoV G P) args s 0 0 (fr G)) (F0 mt 0 ls []) := by
  have hx := E.1
  have hb := E.2.1
  unfold wp_Mo_endLoop_0 at h
  refine rr_aload_n hx hb d_Mo_endLoop_0 rfl (lv_at hl 0 rfl) ?_
  obtain ⟨g_2, h⟩ := h
  refine rg_Mo_loops E hp g_2 lk_400 d_Mo_endLoop_1 (fun x_1 ex_1 => ?_)
  replace h := h x_1 ex_1
  refine lv_if_ne (tgt := 13) hx hb d_Mo_endLoop_4 (by decide) (fun g_3 => ?_) (fun g_3 => ?_)
  · replace h := h.2 g_3
    refine rr_aload_n hx hb d_Mo_endLoop_13 rfl (lv_at hl 0 rfl) ?_
    obtain ⟨g_5, h⟩ := h
    refine rg_Mo_left E hp g_5 lk_355 d_Mo_endLoop_14 (fun x_4 ex_4 => ?_)
    replace h := h x_4 ex_4
    refine rr_aload_n hx hb d_Mo_endLoop_17 rfl (lv_at hl 0 rfl) ?_
    obtain ⟨g_7, h⟩ := h
    refine rg_Mo_loops E hp g_7 lk_400 d_Mo_endLoop_18 (fun x_6 ex_6 => ?_)
    replace h := h x_6 ex_6
    refine lv_iconst (v := 1) hx hb d_Mo_endLoop_21 (by decide) ?_
    refine lv_isub hx hb d_Mo_endLoop_22 ?_
    refine lv_topi (fun x_8 ex_8 => ?_)
    replace h := h x_8 ex_8
    refine lv_dup2_11 hx hb d_Mo_endLoop_23 rfl (rn_cat _) ?_
    obtain ⟨g_10, g_11, h⟩ := h
    refine mp_iald (t0 := 1) E hp g_10 (by decide) rfl rfl g_11 d_Mo_endLoop_24 (fun x_9 ex_9 => ?_)
    replace h := h x_9 ex_9
    refine lv_iconst (v := 1) hx hb d_Mo_endLoop_25 (by decide) ?_
    refine lv_isub hx hb d_Mo_endLoop_26 ?_
    refine lv_topi (fun x_12 ex_12 => ?_)
    replace h := h x_12 ex_12
    obtain ⟨g_13, g_14, h⟩ := h
    refine mp_iast (t0 := 1) E hp hS g_13 (by decide) rfl cw_50 rfl g_14 d_Mo_endLoop_27 (fun m_15 em_15 H locs hp hS => ?_)
    replace h := h m_15 em_15
    refine rr_aload_n hx hb d_Mo_endLoop_28 rfl (lv_at hl 0 rfl) ?_
    obtain ⟨g_17, h⟩ := h
    refine rg_Mo_left E hp g_17 lk_355 d_Mo_endLoop_29 (fun x_16 ex_16 => ?_)
    replace h := h x_16 ex_16
    refine rr_aload_n hx hb d_Mo_endLoop_32 rfl (lv_at hl 0 rfl) ?_
    obtain ⟨g_19, h⟩ := h
    refine rg_Mo_loops E hp g_19 lk_400 d_Mo_endLoop_33 (fun x_18 ex_18 => ?_)
    replace h := h x_18 ex_18
    refine lv_iconst (v := 1) hx hb d_Mo_endLoop_36 (by decide) ?_
    refine lv_isub hx hb d_Mo_endLoop_37 ?_
    refine lv_topi (fun x_20 ex_20 => ?_)
    replace h := h x_20 ex_20
    obtain ⟨g_22, g_23, h⟩ := h
    refine mp_iald (t0 := 1) E hp g_22 (by decide) rfl rfl g_23 d_Mo_endLoop_38 (fun x_21 ex_21 => ?_)
    replace h := h x_21 ex_21
    refine lv_if_le (tgt := 60) hx hb d_Mo_endLoop_39 (by decide) (fun g_24 => ?_) (fun g_24 => ?_)
    · replace h := h.1 g_24
      refine rr_aload_n hx hb d_Mo_endLoop_60 rfl (lv_at hl 0 rfl) ?_
      refine lv_dup hx hb d_Mo_endLoop_61 (rn_cat _) ?_
      obtain ⟨g_26, h⟩ := h
      refine rg_Mo_loops E hp g_26 lk_400 d_Mo_endLoop_62 (fun x_25 ex_25 => ?_)
      replace h := h x_25 ex_25
      refine lv_iconst (v := 1) hx hb d_Mo_endLoop_65 (by decide) ?_
      refine lv_isub hx hb d_Mo_endLoop_66 ?_
      refine lv_topi (fun x_27 ex_27 => ?_)
      replace h := h x_27 ex_27
      obtain ⟨g_28, h⟩ := h
      refine rp_Mo_loops E hp hS g_28 lk_400 d_Mo_endLoop_67 (fun m_29 em_29 H locs hp hS => ?_)
      replace h := h m_29 em_29
      exact mp_vret E hr hp hS h d_Mo_endLoop_70
    · replace h := h.2 g_24
      refine rr_aload_n hx hb d_Mo_endLoop_42 rfl (lv_at hl 0 rfl) ?_
      refine rr_aload_n hx hb d_Mo_endLoop_43 rfl (lv_at hl 0 rfl) ?_
      obtain ⟨g_31, h⟩ := h
      refine rg_Mo_begin E hp g_31 lk_354 d_Mo_endLoop_44 (fun x_30 ex_30 => ?_)
      replace h := h x_30 ex_30
      refine rr_aload_n hx hb d_Mo_endLoop_47 rfl (lv_at hl 0 rfl) ?_
      obtain ⟨g_33, h⟩ := h
      refine rg_Mo_loops E hp g_33 lk_400 d_Mo_endLoop_48 (fun x_32 ex_32 => ?_)
      replace h := h x_32 ex_32
      refine lv_iconst (v := 1) hx hb d_Mo_endLoop_51 (by decide) ?_
      refine lv_isub hx hb d_Mo_endLoop_52 ?_
      refine lv_topi (fun x_34 ex_34 => ?_)
      replace h := h x_34 ex_34
      obtain ⟨g_36, g_37, h⟩ := h
      refine mp_iald (t0 := 1) E hp g_36 (by decide) rfl rfl g_37 d_Mo_endLoop_53 (fun x_35 ex_35 => ?_)
      replace h := h x_35 ex_35
      obtain ⟨g_38, h⟩ := h
      refine rp_Mo_at E hp hS g_38 lk_396 d_Mo_endLoop_54 (fun m_39 em_39 H locs hp hS => ?_)
      replace h := h m_39 em_39
      refine lv_goto (tgt := 70) hx hb d_Mo_endLoop_57 (by decide) ?_
      exact mp_vret E hr hp hS h d_Mo_endLoop_70
  · replace h := h.1 g_3
    refine rr_aload_n hx hb d_Mo_endLoop_7 rfl (lv_at hl 0 rfl) ?_
    refine lv_iconst (v := 1) hx hb d_Mo_endLoop_8 (by decide) ?_
    obtain ⟨g_40, h⟩ := h
    refine rp_Mo_error E hp hS g_40 lk_393 d_Mo_endLoop_9 (fun m_41 em_41 H locs hp hS => ?_)
    replace h := h m_41 em_41
    exact mp_vret E hr hp hS h d_Mo_endLoop_12
set_option maxHeartbeats 4000000 in
set_option maxRecDepth 100000 in
theorem c_Mo_endLoop (l : Launch) (G : Gc) (m : Mm) (v0 : Nat) (P : Mm → Prop) (h : wp_Mo_endLoop m v0 P) : Met l y_Mo_endLoop (Cond.code y_Mo_endLoop b_Mo_endLoop 1 none :: lw_good) rm_Mo_endLoop (Pre9 G m [rn v0]) (PoV G P) 0 0 (fr G) := by
  refine Met.ofW (cc := b_Mo_endLoop) (maxL := 1) (ret := none) (by decide) rfl ?_
  intro p e s mt args below meth c s₁ B hml hv
  obtain ⟨rfl, hp, hC⟩ := hv
  have hts := atoms_spec (ws := Cond.code y_Mo_endLoop b_Mo_endLoop 1 none :: lw_good) B.pre
  have E : En G R_Mo b_Mo_endLoop 1 p s mt _ meth c := ⟨B.exec, B.bytes, hml, findClass_of_methodNamed B.named, fun w hw => hts w (List.mem_cons_of_mem _ hw), hC, B.notSynchronized⟩
  have hr := B.returns
  have hl := lv_entry [rn v0] (n := 1) (by simp [lg_sl, rn_cat, cat_int, cat_long, cat_ref, cat_null])
  rw [lg_entry_eq]
  generalize (lg_sl [rn v0] ++ List.replicate (1 - (lg_sl [rn v0]).length) Slot.unset).toArray = ls at hl ⊢
  have hl : lv_has ls 1 [(0, rn v0)] := by simpa [lv_args, rn_cat, cat_int, cat_long, cat_ref, cat_null] using hl
  exact t_Mo_endLoop_0 E hr m v0 _ _ _ h hp va_S.rf (lv_sub hl [0] rfl)
abbrev rm_Mo_readResource : Room := { frames := 2, cells := 0, slots := 0, locals := 44 }
set_option maxHeartbeats 4000000 in
set_option maxRecDepth 100000 in
theorem t_Mo_readResource_0 {G : Gc} {P : Mm → Prop} (E : En G R_Mo b_Mo_readResource 4 p s mt args meth c) (hr : meth.sig.returnType = none) (m : Mm) (v0 : Nat) (v1 : Int32) (v2 : Int32) (H : Heap) (locs : List Loc) (ls : Array Slot) (h : wp_Mo_readResource_0 P m v0 v1 v2) (hp : pic G m H) (hS : va_S (fr G) s.heap H locs) (hl : lv_has ls 4 [(0, rn v0), (1, .int v1), (2, .int v2)]) : W p l e rm_Mo_readResource s mt args below meth c H locs 0 0 (MQ below (PoV G P) args s 0 0 (fr G)) (F0 mt 0 ls []) := by
  have hx := E.1
  have hb := E.2.1
  unfold wp_Mo_readResource_0 at h
  refine rr_aload_n hx hb d_Mo_readResource_0 rfl (lv_at hl 0 rfl) ?_
  refine lv_iload_n hx hb d_Mo_readResource_1 rfl (lv_at hl 1 rfl) ?_
  refine lv_iload_n hx hb d_Mo_readResource_2 rfl (lv_at hl 2 rfl) ?_
  obtain ⟨g_3, h⟩ := h
  refine mc_i hS (mc_runV (As := [.int v1, .int v2]) (rest := []) E (c_Mo_resource l G m v0 v1 v2 _ h) wd_Mo_resource ⟨lk_401, lk_402, lk_403⟩ rfl rfl ⟨Nat.le_of_ble_eq_true rfl, Nat.le_of_ble_eq_true rfl⟩ hp hS g_3 (by decide) rfl rfl rfl hl.1 rfl (lv_room (Nat.le_of_ble_eq_true rfl)) d_Mo_readResource_3 ⟨Nat.le_of_ble_eq_true rfl, Nat.le_of_ble_eq_true rfl⟩) (fun r_2 m_1 h H locs hp hS => ?_)
  try dsimp only at h
  refine lv_istore_n (lv' := [(3, .int r_2), (0, rn v0), (1, .int v1), (2, .int v2)]) hx hb d_Mo_readResource_6 rfl hl (by decide) rfl (fun ls hl => ?_)
  refine lv_iload_n hx hb d_Mo_readResource_7 rfl (lv_at hl 0 rfl) ?_
  refine lv_if_ge (tgt := 19) hx hb d_Mo_readResource_8 (by decide) (fun g_4 => ?_) (fun g_4 => ?_)
  · replace h := h.1 g_4
    refine rr_aload_n hx hb d_Mo_readResource_19 rfl (lv_at hl 1 rfl) ?_
    refine lv_iload_n hx hb d_Mo_readResource_20 rfl (lv_at hl 0 rfl) ?_
    obtain ⟨g_7, h⟩ := h
    refine mc_v hS (mc_runV (As := [.int r_2]) (rest := []) E (c_Mo_lay l G m_1 v0 r_2 _ h) wd_Mo_lay ⟨lk_404, lk_405, lk_406⟩ rfl rfl ⟨Nat.le_of_ble_eq_true rfl, Nat.le_of_ble_eq_true rfl⟩ hp hS g_7 (by decide) rfl rfl rfl hl.1 rfl (lv_room (Nat.le_of_ble_eq_true rfl)) d_Mo_readResource_21 ⟨Nat.le_of_ble_eq_true rfl, Nat.le_of_ble_eq_true rfl⟩) (fun m_5 h H locs hp hS => ?_)
    try dsimp only at h
    exact mp_vret E hr hp hS h d_Mo_readResource_24
  · replace h := h.2 g_4
    refine rr_aload_n hx hb d_Mo_readResource_11 rfl (lv_at hl 1 rfl) ?_
    refine lv_iconst (v := 2) hx hb d_Mo_readResource_12 (by decide) ?_
    obtain ⟨g_8, h⟩ := h
    refine rp_Mo_error E hp hS g_8 lk_393 d_Mo_readResource_13 (fun m_9 em_9 H locs hp hS => ?_)
    replace h := h m_9 em_9
    refine lv_goto (tgt := 24) hx hb d_Mo_readResource_16 (by decide) ?_
    exact mp_vret E hr hp hS h d_Mo_readResource_24
set_option maxHeartbeats 4000000 in
set_option maxRecDepth 100000 in
theorem c_Mo_readResource (l : Launch) (G : Gc) (m : Mm) (v0 : Nat) (v1 : Int32) (v2 : Int32) (P : Mm → Prop) (h : wp_Mo_readResource m v0 v1 v2 P) : Met l y_Mo_readResource (Cond.code y_Mo_readResource b_Mo_readResource 4 none :: lw_good) rm_Mo_readResource (Pre9 G m [rn v0, .int v1, .int v2]) (PoV G P) 0 0 (fr G) := by
  refine Met.ofW (cc := b_Mo_readResource) (maxL := 4) (ret := none) (by decide) rfl ?_
  intro p e s mt args below meth c s₁ B hml hv
  obtain ⟨rfl, hp, hC⟩ := hv
  have hts := atoms_spec (ws := Cond.code y_Mo_readResource b_Mo_readResource 4 none :: lw_good) B.pre
  have E : En G R_Mo b_Mo_readResource 4 p s mt _ meth c := ⟨B.exec, B.bytes, hml, findClass_of_methodNamed B.named, fun w hw => hts w (List.mem_cons_of_mem _ hw), hC, B.notSynchronized⟩
  have hr := B.returns
  have hl := lv_entry [rn v0, .int v1, .int v2] (n := 4) (by simp [lg_sl, rn_cat, cat_int, cat_long, cat_ref, cat_null])
  rw [lg_entry_eq]
  generalize (lg_sl [rn v0, .int v1, .int v2] ++ List.replicate (4 - (lg_sl [rn v0, .int v1, .int v2]).length) Slot.unset).toArray = ls at hl ⊢
  have hl : lv_has ls 4 [(0, rn v0), (1, .int v1), (2, .int v2)] := by simpa [lv_args, rn_cat, cat_int, cat_long, cat_ref, cat_null] using hl
  exact t_Mo_readResource_0 E hr m v0 v1 v2 _ _ _ h hp va_S.rf (lv_sub hl [0, 1, 2] rfl)
abbrev rm_Mo_set : Room := { frames := 3, cells := 0, slots := 0, locals := 65 }
set_option maxHeartbeats 4000000 in
set_option maxRecDepth 100000 in
theorem t_Mo_set_29 {G : Gc} {P : Mm → Prop} (E : En G R_Mo b_Mo_set 4 p s mt args meth c) (hr : meth.sig.returnType = none) (m : Mm) (s0 : Int32) (s1 : Nat) (H : Heap) (locs : List Loc) (ls : Array Slot) (h : wp_Mo_set_29 P m s0 s1) (hp : pic G m H) (hS : va_S (fr G) s.heap H locs) (hl : lv_has ls 4 []) : W p l e rm_Mo_set s mt args below meth c H locs 0 0 (MQ below (PoV G P) args s 0 0 (fr G)) (F0 mt 29 ls [.int s0, rn s1]) := by
  have hx := E.1
  have hb := E.2.1
  unfold wp_Mo_set_29 at h
  obtain ⟨g_1, h⟩ := h
  refine rp_Mo_error E hp hS g_1 lk_393 d_Mo_set_29 (fun m_2 em_2 H locs hp hS => ?_)
  replace h := h m_2 em_2
  exact mp_vret E hr hp hS h d_Mo_set_32
set_option maxHeartbeats 4000000 in
set_option maxRecDepth 100000 in
theorem t_Mo_set_25 {G : Gc} {P : Mm → Prop} (E : En G R_Mo b_Mo_set 4 p s mt args meth c) (hr : meth.sig.returnType = none) (m : Mm) (v0 : Nat) (s0 : Nat) (H : Heap) (locs : List Loc) (ls : Array Slot) (h : wp_Mo_set_25 P m v0 s0) (hp : pic G m H) (hS : va_S (fr G) s.heap H locs) (hl : lv_has ls 4 [(0, rn v0)]) : W p l e rm_Mo_set s mt args below meth c H locs 0 0 (MQ below (PoV G P) args s 0 0 (fr G)) (F0 mt 25 ls [rn s0]) := by
  have hx := E.1
  have hb := E.2.1
  unfold wp_Mo_set_25 at h
  refine rr_aload_n hx hb d_Mo_set_25 rfl (lv_at hl 0 rfl) ?_
  obtain ⟨g_2, h⟩ := h
  refine rg_Mo_error E hp g_2 lk_393 d_Mo_set_26 (fun x_1 ex_1 => ?_)
  replace h := h x_1 ex_1
  exact t_Mo_set_29 E hr m x_1 s0 _ _ _ h hp hS (lv_sub hl [] rfl)
set_option maxHeartbeats 4000000 in
set_option maxRecDepth 100000 in
theorem t_Mo_set_0 {G : Gc} {P : Mm → Prop} (E : En G R_Mo b_Mo_set 4 p s mt args meth c) (hr : meth.sig.returnType = none) (m : Mm) (v0 : Nat) (v1 : Int32) (v2 : Int32) (H : Heap) (locs : List Loc) (ls : Array Slot) (h : wp_Mo_set_0 P m v0 v1 v2) (hp : pic G m H) (hS : va_S (fr G) s.heap H locs) (hl : lv_has ls 4 [(0, rn v0), (1, .int v1), (2, .int v2)]) : W p l e rm_Mo_set s mt args below meth c H locs 0 0 (MQ below (PoV G P) args s 0 0 (fr G)) (F0 mt 0 ls []) := by
  have hx := E.1
  have hb := E.2.1
  unfold wp_Mo_set_0 at h
  refine rr_aload_n hx hb d_Mo_set_0 rfl (lv_at hl 0 rfl) ?_
  refine lv_iload_n hx hb d_Mo_set_1 rfl (lv_at hl 1 rfl) ?_
  refine lv_iload_n hx hb d_Mo_set_2 rfl (lv_at hl 2 rfl) ?_
  obtain ⟨g_3, h⟩ := h
  refine mc_i hS (mc_runV (As := [.int v1, .int v2]) (rest := []) E (c_Mo_device l G m v0 v1 v2 _ h) wd_Mo_device ⟨lk_407, lk_408, lk_409⟩ rfl rfl ⟨Nat.le_of_ble_eq_true rfl, Nat.le_of_ble_eq_true rfl⟩ hp hS g_3 (by decide) rfl rfl rfl hl.1 rfl (lv_room (Nat.le_of_ble_eq_true rfl)) d_Mo_set_3 ⟨Nat.le_of_ble_eq_true rfl, Nat.le_of_ble_eq_true rfl⟩) (fun r_2 m_1 h H locs hp hS => ?_)
  try dsimp only at h
  refine lv_istore_n (lv' := [(3, .int r_2), (0, rn v0), (1, .int v1), (2, .int v2)]) hx hb d_Mo_set_6 rfl hl (by decide) rfl (fun ls hl => ?_)
  refine rr_aload_n hx hb d_Mo_set_7 rfl (lv_at hl 1 rfl) ?_
  refine lv_iload_n hx hb d_Mo_set_8 rfl (lv_at hl 0 rfl) ?_
  refine lv_if_ne (tgt := 25) hx hb d_Mo_set_9 (by decide) (fun g_4 => ?_) (fun g_4 => ?_)
  · replace h := h.2 g_4
    exact t_Mo_set_25 E hr m_1 v0 v0 _ _ _ h hp hS (lv_sub hl [1] rfl)
  · replace h := h.1 g_4
    refine rr_aload_n hx hb d_Mo_set_12 rfl (lv_at hl 1 rfl) ?_
    obtain ⟨g_6, h⟩ := h
    refine rg_Mo_setting E hp g_6 lk_340 d_Mo_set_13 (fun x_5 ex_5 => ?_)
    replace h := h x_5 ex_5
    refine lv_iconst (v := 3) hx hb d_Mo_set_16 (by decide) ?_
    obtain ⟨g_8, g_9, h⟩ := h
    refine mp_iald (t0 := 1) E hp g_8 (by decide) rfl rfl g_9 d_Mo_set_17 (fun x_7 ex_7 => ?_)
    replace h := h x_7 ex_7
    refine lv_if_ne (tgt := 25) hx hb d_Mo_set_18 (by decide) (fun g_10 => ?_) (fun g_10 => ?_)
    · replace h := h.2 g_10
      exact t_Mo_set_25 E hr m_1 v0 v0 _ _ _ h hp hS (lv_sub hl [1] rfl)
    · replace h := h.1 g_10
      refine lv_iconst (v := 3) hx hb d_Mo_set_21 (by decide) ?_
      refine lv_goto (tgt := 29) hx hb d_Mo_set_22 (by decide) ?_
      exact t_Mo_set_29 E hr m_1 3 v0 _ _ _ h hp hS (lv_sub hl [] rfl)
set_option maxHeartbeats 4000000 in
set_option maxRecDepth 100000 in
theorem c_Mo_set (l : Launch) (G : Gc) (m : Mm) (v0 : Nat) (v1 : Int32) (v2 : Int32) (P : Mm → Prop) (h : wp_Mo_set m v0 v1 v2 P) : Met l y_Mo_set (Cond.code y_Mo_set b_Mo_set 4 none :: lw_good) rm_Mo_set (Pre9 G m [rn v0, .int v1, .int v2]) (PoV G P) 0 0 (fr G) := by
  refine Met.ofW (cc := b_Mo_set) (maxL := 4) (ret := none) (by decide) rfl ?_
  intro p e s mt args below meth c s₁ B hml hv
  obtain ⟨rfl, hp, hC⟩ := hv
  have hts := atoms_spec (ws := Cond.code y_Mo_set b_Mo_set 4 none :: lw_good) B.pre
  have E : En G R_Mo b_Mo_set 4 p s mt _ meth c := ⟨B.exec, B.bytes, hml, findClass_of_methodNamed B.named, fun w hw => hts w (List.mem_cons_of_mem _ hw), hC, B.notSynchronized⟩
  have hr := B.returns
  have hl := lv_entry [rn v0, .int v1, .int v2] (n := 4) (by simp [lg_sl, rn_cat, cat_int, cat_long, cat_ref, cat_null])
  rw [lg_entry_eq]
  generalize (lg_sl [rn v0, .int v1, .int v2] ++ List.replicate (4 - (lg_sl [rn v0, .int v1, .int v2]).length) Slot.unset).toArray = ls at hl ⊢
  have hl : lv_has ls 4 [(0, rn v0), (1, .int v1), (2, .int v2)] := by simpa [lv_args, rn_cat, cat_int, cat_long, cat_ref, cat_null] using hl
  exact t_Mo_set_0 E hr m v0 v1 v2 _ _ _ h hp va_S.rf (lv_sub hl [0, 1, 2] rfl)
abbrev rm_Mo_openFile : Room := { frames := 2, cells := 0, slots := 0, locals := 47 }
set_option maxHeartbeats 4000000 in
set_option maxRecDepth 100000 in
theorem t_Mo_openFile_0 {G : Gc} {P : Mm → Prop} (E : En G R_Mo b_Mo_openFile 4 p s mt args meth c) (hr : meth.sig.returnType = none) (m : Mm) (v0 : Nat) (v1 : Int32) (v2 : Int32) (H : Heap) (locs : List Loc) (ls : Array Slot) (h : wp_Mo_openFile_0 P m v0 v1 v2) (hp : pic G m H) (hS : va_S (fr G) s.heap H locs) (hl : lv_has ls 4 [(0, rn v0), (1, .int v1), (2, .int v2)]) : W p l e rm_Mo_openFile s mt args below meth c H locs 0 0 (MQ below (PoV G P) args s 0 0 (fr G)) (F0 mt 0 ls []) := by
  have hx := E.1
  have hb := E.2.1
  unfold wp_Mo_openFile_0 at h
  refine rr_aload_n hx hb d_Mo_openFile_0 rfl (lv_at hl 0 rfl) ?_
  refine lv_iload_n hx hb d_Mo_openFile_1 rfl (lv_at hl 1 rfl) ?_
  refine lv_iload_n hx hb d_Mo_openFile_2 rfl (lv_at hl 2 rfl) ?_
  obtain ⟨g_3, h⟩ := h
  refine mc_i hS (mc_runV (As := [.int v1, .int v2]) (rest := []) E (c_Mo_opened l G m v0 v1 v2 _ h) wd_Mo_opened ⟨lk_372, lk_373, lk_374⟩ rfl rfl ⟨Nat.le_of_ble_eq_true rfl, Nat.le_of_ble_eq_true rfl⟩ hp hS g_3 (by decide) rfl rfl rfl hl.1 rfl (lv_room (Nat.le_of_ble_eq_true rfl)) d_Mo_openFile_3 ⟨Nat.le_of_ble_eq_true rfl, Nat.le_of_ble_eq_true rfl⟩) (fun r_2 m_1 h H locs hp hS => ?_)
  try dsimp only at h
  refine lv_istore_n (lv' := [(3, .int r_2), (0, rn v0), (1, .int v1), (2, .int v2)]) hx hb d_Mo_openFile_6 rfl hl (by decide) rfl (fun ls hl => ?_)
  refine lv_iload_n hx hb d_Mo_openFile_7 rfl (lv_at hl 0 rfl) ?_
  refine lv_if_ge (tgt := 19) hx hb d_Mo_openFile_8 (by decide) (fun g_4 => ?_) (fun g_4 => ?_)
  · replace h := h.1 g_4
    refine rr_aload_n hx hb d_Mo_openFile_19 rfl (lv_at hl 1 rfl) ?_
    obtain ⟨g_6, h⟩ := h
    refine rg_Mo_own E hp g_6 lk_352 d_Mo_openFile_20 (fun x_5 ex_5 => ?_)
    replace h := h x_5 ex_5
    refine lv_iload_n hx hb d_Mo_openFile_23 rfl (lv_at hl 0 rfl) ?_
    refine lv_iconst (v := 1) hx hb d_Mo_openFile_24 (by decide) ?_
    obtain ⟨g_7, g_8, h⟩ := h
    refine mp_zast (t0 := 5) E hp hS g_7 (by decide) rfl cw_47 rfl g_8 d_Mo_openFile_25 (fun m_9 em_9 H locs hp hS => ?_)
    replace h := h m_9 em_9
    refine rr_aload_n hx hb d_Mo_openFile_26 rfl (lv_at hl 1 rfl) ?_
    refine lv_iload_n hx hb d_Mo_openFile_27 rfl (lv_at hl 0 rfl) ?_
    obtain ⟨g_12, h⟩ := h
    refine mc_v hS (mc_runV (As := [.int r_2]) (rest := []) E (c_Mo_lay l G m_9 v0 r_2 _ h) wd_Mo_lay ⟨lk_404, lk_405, lk_406⟩ rfl rfl ⟨Nat.le_of_ble_eq_true rfl, Nat.le_of_ble_eq_true rfl⟩ hp hS g_12 (by decide) rfl rfl rfl hl.1 rfl (lv_room (Nat.le_of_ble_eq_true rfl)) d_Mo_openFile_28 ⟨Nat.le_of_ble_eq_true rfl, Nat.le_of_ble_eq_true rfl⟩) (fun m_10 h H locs hp hS => ?_)
    try dsimp only at h
    exact mp_vret E hr hp hS h d_Mo_openFile_31
  · replace h := h.2 g_4
    refine rr_aload_n hx hb d_Mo_openFile_11 rfl (lv_at hl 1 rfl) ?_
    refine lv_iconst (v := 4) hx hb d_Mo_openFile_12 (by decide) ?_
    obtain ⟨g_13, h⟩ := h
    refine rp_Mo_error E hp hS g_13 lk_393 d_Mo_openFile_13 (fun m_14 em_14 H locs hp hS => ?_)
    replace h := h m_14 em_14
    refine lv_goto (tgt := 31) hx hb d_Mo_openFile_16 (by decide) ?_
    exact mp_vret E hr hp hS h d_Mo_openFile_31
set_option maxHeartbeats 4000000 in
set_option maxRecDepth 100000 in
theorem c_Mo_openFile (l : Launch) (G : Gc) (m : Mm) (v0 : Nat) (v1 : Int32) (v2 : Int32) (P : Mm → Prop) (h : wp_Mo_openFile m v0 v1 v2 P) : Met l y_Mo_openFile (Cond.code y_Mo_openFile b_Mo_openFile 4 none :: lw_good) rm_Mo_openFile (Pre9 G m [rn v0, .int v1, .int v2]) (PoV G P) 0 0 (fr G) := by
  refine Met.ofW (cc := b_Mo_openFile) (maxL := 4) (ret := none) (by decide) rfl ?_
  intro p e s mt args below meth c s₁ B hml hv
  obtain ⟨rfl, hp, hC⟩ := hv
  have hts := atoms_spec (ws := Cond.code y_Mo_openFile b_Mo_openFile 4 none :: lw_good) B.pre
  have E : En G R_Mo b_Mo_openFile 4 p s mt _ meth c := ⟨B.exec, B.bytes, hml, findClass_of_methodNamed B.named, fun w hw => hts w (List.mem_cons_of_mem _ hw), hC, B.notSynchronized⟩
  have hr := B.returns
  have hl := lv_entry [rn v0, .int v1, .int v2] (n := 4) (by simp [lg_sl, rn_cat, cat_int, cat_long, cat_ref, cat_null])
  rw [lg_entry_eq]
  generalize (lg_sl [rn v0, .int v1, .int v2] ++ List.replicate (4 - (lg_sl [rn v0, .int v1, .int v2]).length) Slot.unset).toArray = ls at hl ⊢
  have hl : lv_has ls 4 [(0, rn v0), (1, .int v1), (2, .int v2)] := by simpa [lv_args, rn_cat, cat_int, cat_long, cat_ref, cat_null] using hl
  exact t_Mo_openFile_0 E hr m v0 v1 v2 _ _ _ h hp va_S.rf (lv_sub hl [0, 1, 2] rfl)
abbrev rm_Mo_closeFile : Room := { frames := 2, cells := 0, slots := 0, locals := 43 }
set_option maxHeartbeats 4000000 in
set_option maxRecDepth 100000 in
theorem t_Mo_closeFile_17 {G : Gc} {P : Mm → Prop} (E : En G R_Mo b_Mo_closeFile 2 p s mt args meth c) (hr : meth.sig.returnType = none) (m : Mm) (v0 : Nat) (H : Heap) (locs : List Loc) (ls : Array Slot) (h : wp_Mo_closeFile_17 P m v0) (hp : pic G m H) (hS : va_S (fr G) s.heap H locs) (hl : lv_has ls 2 [(0, rn v0)]) : W p l e rm_Mo_closeFile s mt args below meth c H locs 0 0 (MQ below (PoV G P) args s 0 0 (fr G)) (F0 mt 17 ls []) := by
  have hx := E.1
  have hb := E.2.1
  unfold wp_Mo_closeFile_17 at h
  refine rr_aload_n hx hb d_Mo_closeFile_17 rfl (lv_at hl 0 rfl) ?_
  refine lv_iconst (v := 4) hx hb d_Mo_closeFile_18 (by decide) ?_
  obtain ⟨g_1, h⟩ := h
  refine rp_Mo_error E hp hS g_1 lk_393 d_Mo_closeFile_19 (fun m_2 em_2 H locs hp hS => ?_)
  replace h := h m_2 em_2
  exact mp_vret E hr hp hS h d_Mo_closeFile_22
set_option maxHeartbeats 4000000 in
set_option maxRecDepth 100000 in
theorem t_Mo_closeFile_0 {G : Gc} {P : Mm → Prop} (E : En G R_Mo b_Mo_closeFile 2 p s mt args meth c) (hr : meth.sig.returnType = none) (m : Mm) (v0 : Nat) (v1 : Int32) (H : Heap) (locs : List Loc) (ls : Array Slot) (h : wp_Mo_closeFile_0 P m v0 v1) (hp : pic G m H) (hS : va_S (fr G) s.heap H locs) (hl : lv_has ls 2 [(0, rn v0), (1, .int v1)]) : W p l e rm_Mo_closeFile s mt args below meth c H locs 0 0 (MQ below (PoV G P) args s 0 0 (fr G)) (F0 mt 0 ls []) := by
  have hx := E.1
  have hb := E.2.1
  unfold wp_Mo_closeFile_0 at h
  refine rr_aload_n hx hb d_Mo_closeFile_0 rfl (lv_at hl 0 rfl) ?_
  refine lv_iload_n hx hb d_Mo_closeFile_1 rfl (lv_at hl 1 rfl) ?_
  obtain ⟨g_3, h⟩ := h
  refine mc_i hS (mc_runV (As := [.int v1]) (rest := []) E (c_Mo_isOpen l G m v0 v1 _ h) wd_Mo_isOpen ⟨lk_369, lk_370, lk_371⟩ rfl rfl ⟨Nat.le_of_ble_eq_true rfl, Nat.le_of_ble_eq_true rfl⟩ hp hS g_3 (by decide) rfl rfl rfl hl.1 rfl (lv_room (Nat.le_of_ble_eq_true rfl)) d_Mo_closeFile_2 ⟨Nat.le_of_ble_eq_true rfl, Nat.le_of_ble_eq_true rfl⟩) (fun r_2 m_1 h H locs hp hS => ?_)
  try dsimp only at h
  refine lv_if_eq (tgt := 17) hx hb d_Mo_closeFile_5 (by decide) (fun g_4 => ?_) (fun g_4 => ?_)
  · replace h := h.1 g_4
    exact t_Mo_closeFile_17 E hr m_1 v0 _ _ _ h hp hS (lv_sub hl [0] rfl)
  · replace h := h.2 g_4
    refine rr_aload_n hx hb d_Mo_closeFile_8 rfl (lv_at hl 0 rfl) ?_
    obtain ⟨g_6, h⟩ := h
    refine rg_Mo_own E hp g_6 lk_352 d_Mo_closeFile_9 (fun x_5 ex_5 => ?_)
    replace h := h x_5 ex_5
    refine lv_iload_n hx hb d_Mo_closeFile_12 rfl (lv_at hl 1 rfl) ?_
    obtain ⟨g_8, g_9, h⟩ := h
    refine mp_zald (t0 := 5) E hp g_8 (by decide) rfl rfl g_9 d_Mo_closeFile_13 (fun x_7 ex_7 => ?_)
    replace h := h x_7 ex_7
    refine lv_if_ne (tgt := 23) hx hb d_Mo_closeFile_14 (by decide) (fun g_10 => ?_) (fun g_10 => ?_)
    · replace h := h.2 g_10
      refine rr_aload_n hx hb d_Mo_closeFile_23 rfl (lv_at hl 0 rfl) ?_
      obtain ⟨g_12, h⟩ := h
      refine rg_Mo_open E hp g_12 lk_331 d_Mo_closeFile_24 (fun x_11 ex_11 => ?_)
      replace h := h x_11 ex_11
      refine lv_iload_n hx hb d_Mo_closeFile_27 rfl (lv_at hl 1 rfl) ?_
      refine lv_iconst (v := 0) hx hb d_Mo_closeFile_28 (by decide) ?_
      obtain ⟨g_13, g_14, h⟩ := h
      refine mp_zast (t0 := 5) E hp hS g_13 (by decide) rfl cw_40 rfl g_14 d_Mo_closeFile_29 (fun m_15 em_15 H locs hp hS => ?_)
      replace h := h m_15 em_15
      refine rr_aload_n hx hb d_Mo_closeFile_30 rfl (lv_at hl 0 rfl) ?_
      obtain ⟨g_17, h⟩ := h
      refine rg_Mo_own E hp g_17 lk_352 d_Mo_closeFile_31 (fun x_16 ex_16 => ?_)
      replace h := h x_16 ex_16
      refine lv_iload_n hx hb d_Mo_closeFile_34 rfl (lv_at hl 1 rfl) ?_
      refine lv_iconst (v := 0) hx hb d_Mo_closeFile_35 (by decide) ?_
      obtain ⟨g_18, g_19, h⟩ := h
      refine mp_zast (t0 := 5) E hp hS g_18 (by decide) rfl cw_47 rfl g_19 d_Mo_closeFile_36 (fun m_20 em_20 H locs hp hS => ?_)
      replace h := h m_20 em_20
      exact mp_vret E hr hp hS h d_Mo_closeFile_37
    · replace h := h.1 g_10
      exact t_Mo_closeFile_17 E hr m_1 v0 _ _ _ h hp hS (lv_sub hl [0] rfl)
set_option maxHeartbeats 4000000 in
set_option maxRecDepth 100000 in
theorem c_Mo_closeFile (l : Launch) (G : Gc) (m : Mm) (v0 : Nat) (v1 : Int32) (P : Mm → Prop) (h : wp_Mo_closeFile m v0 v1 P) : Met l y_Mo_closeFile (Cond.code y_Mo_closeFile b_Mo_closeFile 2 none :: lw_good) rm_Mo_closeFile (Pre9 G m [rn v0, .int v1]) (PoV G P) 0 0 (fr G) := by
  refine Met.ofW (cc := b_Mo_closeFile) (maxL := 2) (ret := none) (by decide) rfl ?_
  intro p e s mt args below meth c s₁ B hml hv
  obtain ⟨rfl, hp, hC⟩ := hv
  have hts := atoms_spec (ws := Cond.code y_Mo_closeFile b_Mo_closeFile 2 none :: lw_good) B.pre
  have E : En G R_Mo b_Mo_closeFile 2 p s mt _ meth c := ⟨B.exec, B.bytes, hml, findClass_of_methodNamed B.named, fun w hw => hts w (List.mem_cons_of_mem _ hw), hC, B.notSynchronized⟩
  have hr := B.returns
  have hl := lv_entry [rn v0, .int v1] (n := 2) (by simp [lg_sl, rn_cat, cat_int, cat_long, cat_ref, cat_null])
  rw [lg_entry_eq]
  generalize (lg_sl [rn v0, .int v1] ++ List.replicate (2 - (lg_sl [rn v0, .int v1]).length) Slot.unset).toArray = ls at hl ⊢
  have hl : lv_has ls 2 [(0, rn v0), (1, .int v1)] := by simpa [lv_args, rn_cat, cat_int, cat_long, cat_ref, cat_null] using hl
  exact t_Mo_closeFile_0 E hr m v0 v1 _ _ _ h hp va_S.rf (lv_sub hl [0, 1] rfl)
abbrev rm_Mo_readFile : Room := { frames := 3, cells := 0, slots := 0, locals := 67 }
set_option maxHeartbeats 4000000 in
set_option maxRecDepth 100000 in
theorem t_Mo_readFile_31 {G : Gc} {P : Mm → Prop} (E : En G R_Mo b_Mo_readFile 3 p s mt args meth c) (hr : meth.sig.returnType = none) (m : Mm) (s0 : Int32) (s1 : Nat) (H : Heap) (locs : List Loc) (ls : Array Slot) (h : wp_Mo_readFile_31 P m s0 s1) (hp : pic G m H) (hS : va_S (fr G) s.heap H locs) (hl : lv_has ls 3 []) : W p l e rm_Mo_readFile s mt args below meth c H locs 0 0 (MQ below (PoV G P) args s 0 0 (fr G)) (F0 mt 31 ls [.int s0, rn s1]) := by
  have hx := E.1
  have hb := E.2.1
  unfold wp_Mo_readFile_31 at h
  obtain ⟨g_3, h⟩ := h
  refine mc_v hS (mc_runV (As := [.int s0]) (rest := []) E (c_Mo_lay l G m s1 s0 _ h) wd_Mo_lay ⟨lk_404, lk_405, lk_406⟩ rfl rfl ⟨Nat.le_of_ble_eq_true rfl, Nat.le_of_ble_eq_true rfl⟩ hp hS g_3 (by decide) rfl rfl rfl hl.1 rfl (lv_room (Nat.le_of_ble_eq_true rfl)) d_Mo_readFile_31 ⟨Nat.le_of_ble_eq_true rfl, Nat.le_of_ble_eq_true rfl⟩) (fun m_1 h H locs hp hS => ?_)
  try dsimp only at h
  exact mp_vret E hr hp hS h d_Mo_readFile_34
set_option maxHeartbeats 4000000 in
set_option maxRecDepth 100000 in
theorem t_Mo_readFile_0 {G : Gc} {P : Mm → Prop} (E : En G R_Mo b_Mo_readFile 3 p s mt args meth c) (hr : meth.sig.returnType = none) (m : Mm) (v0 : Nat) (v1 : Int32) (H : Heap) (locs : List Loc) (ls : Array Slot) (h : wp_Mo_readFile_0 P m v0 v1) (hp : pic G m H) (hS : va_S (fr G) s.heap H locs) (hl : lv_has ls 3 [(0, rn v0), (1, .int v1)]) : W p l e rm_Mo_readFile s mt args below meth c H locs 0 0 (MQ below (PoV G P) args s 0 0 (fr G)) (F0 mt 0 ls []) := by
  have hx := E.1
  have hb := E.2.1
  unfold wp_Mo_readFile_0 at h
  refine rr_aload_n hx hb d_Mo_readFile_0 rfl (lv_at hl 0 rfl) ?_
  refine lv_iload_n hx hb d_Mo_readFile_1 rfl (lv_at hl 1 rfl) ?_
  obtain ⟨g_3, h⟩ := h
  refine mc_i hS (mc_runV (As := [.int v1]) (rest := []) E (c_Mo_taken l G m v0 v1 _ h) wd_Mo_taken ⟨lk_378, lk_379, lk_380⟩ rfl rfl ⟨Nat.le_of_ble_eq_true rfl, Nat.le_of_ble_eq_true rfl⟩ hp hS g_3 (by decide) rfl rfl rfl hl.1 rfl (lv_room (Nat.le_of_ble_eq_true rfl)) d_Mo_readFile_2 ⟨Nat.le_of_ble_eq_true rfl, Nat.le_of_ble_eq_true rfl⟩) (fun r_2 m_1 h H locs hp hS => ?_)
  try dsimp only at h
  refine lv_istore_n (lv' := [(2, .int r_2), (0, rn v0), (1, .int v1)]) hx hb d_Mo_readFile_5 rfl hl (by decide) rfl (fun ls hl => ?_)
  refine lv_iload_n hx hb d_Mo_readFile_6 rfl (lv_at hl 0 rfl) ?_
  refine lv_if_ge (tgt := 18) hx hb d_Mo_readFile_7 (by decide) (fun g_4 => ?_) (fun g_4 => ?_)
  · replace h := h.1 g_4
    refine rr_aload_n hx hb d_Mo_readFile_18 rfl (lv_at hl 1 rfl) ?_
    refine lv_iload_n hx hb d_Mo_readFile_19 rfl (lv_at hl 0 rfl) ?_
    refine lv_sipush (v := 256) hx hb d_Mo_readFile_20 (by decide) ?_
    refine lv_icmp_ne (tgt := 30) hx hb d_Mo_readFile_23 (by decide) (fun g_5 => ?_) (fun g_5 => ?_)
    · replace h := h.2 g_5
      refine lv_iload_n hx hb d_Mo_readFile_30 rfl (lv_at hl 0 rfl) ?_
      exact t_Mo_readFile_31 E hr m_1 r_2 v0 _ _ _ h hp hS (lv_sub hl [] rfl)
    · replace h := h.1 g_5
      refine lv_iconst (v := (-1)) hx hb d_Mo_readFile_26 (by decide) ?_
      refine lv_goto (tgt := 31) hx hb d_Mo_readFile_27 (by decide) ?_
      exact t_Mo_readFile_31 E hr m_1 (-1) v0 _ _ _ h hp hS (lv_sub hl [] rfl)
  · replace h := h.2 g_4
    refine rr_aload_n hx hb d_Mo_readFile_10 rfl (lv_at hl 1 rfl) ?_
    refine lv_iconst (v := 4) hx hb d_Mo_readFile_11 (by decide) ?_
    obtain ⟨g_6, h⟩ := h
    refine rp_Mo_error E hp hS g_6 lk_393 d_Mo_readFile_12 (fun m_7 em_7 H locs hp hS => ?_)
    replace h := h m_7 em_7
    refine lv_goto (tgt := 34) hx hb d_Mo_readFile_15 (by decide) ?_
    exact mp_vret E hr hp hS h d_Mo_readFile_34
set_option maxHeartbeats 4000000 in
set_option maxRecDepth 100000 in
theorem c_Mo_readFile (l : Launch) (G : Gc) (m : Mm) (v0 : Nat) (v1 : Int32) (P : Mm → Prop) (h : wp_Mo_readFile m v0 v1 P) : Met l y_Mo_readFile (Cond.code y_Mo_readFile b_Mo_readFile 3 none :: lw_good) rm_Mo_readFile (Pre9 G m [rn v0, .int v1]) (PoV G P) 0 0 (fr G) := by
  refine Met.ofW (cc := b_Mo_readFile) (maxL := 3) (ret := none) (by decide) rfl ?_
  intro p e s mt args below meth c s₁ B hml hv
  obtain ⟨rfl, hp, hC⟩ := hv
  have hts := atoms_spec (ws := Cond.code y_Mo_readFile b_Mo_readFile 3 none :: lw_good) B.pre
  have E : En G R_Mo b_Mo_readFile 3 p s mt _ meth c := ⟨B.exec, B.bytes, hml, findClass_of_methodNamed B.named, fun w hw => hts w (List.mem_cons_of_mem _ hw), hC, B.notSynchronized⟩
  have hr := B.returns
  have hl := lv_entry [rn v0, .int v1] (n := 3) (by simp [lg_sl, rn_cat, cat_int, cat_long, cat_ref, cat_null])
  rw [lg_entry_eq]
  generalize (lg_sl [rn v0, .int v1] ++ List.replicate (3 - (lg_sl [rn v0, .int v1]).length) Slot.unset).toArray = ls at hl ⊢
  have hl : lv_has ls 3 [(0, rn v0), (1, .int v1)] := by simpa [lv_args, rn_cat, cat_int, cat_long, cat_ref, cat_null] using hl
  exact t_Mo_readFile_0 E hr m v0 v1 _ _ _ h hp va_S.rf (lv_sub hl [0, 1] rfl)
end WK
