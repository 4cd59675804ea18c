section WK
variable {p : Program} {l : Launch} {e : Env} {s : State} {mt : MethodId} {args : Array Value} {below : List Frame} {meth : Method} {c : Code}
abbrev rm_Device_passesOverWrongRequests : Room := { frames := 0, cells := 0, slots := 0, locals := 0 }
set_option maxHeartbeats 4000000 in
set_option maxRecDepth 100000 in
theorem t_Device_passesOverWrongRequests_0 {G : Gc} {P : Int32 → Mm → Prop} (E : En G R_Device b_Device_passesOverWrongRequests 1 p s mt args meth c) (hr : meth.sig.returnType = some .boolean) (m : Mm) (v0 : Nat) (H : Heap) (locs : List Loc) (ls : Array Slot) (h : wp_Device_passesOverWrongRequests_0 P m v0) (hp : pic G m H) (hS : va_S (fr G) s.heap H locs) (hl : lv_has ls 1 [(0, rn v0)]) : W p l e rm_Device_passesOverWrongRequests s mt args below meth c H locs 0 0 (MQ below (PoI G P) args s 0 0 (fr G)) (F0 mt 0 ls []) := by
  have hx := E.1
  have hb := E.2.1
  unfold wp_Device_passesOverWrongRequests_0 at h
  refine rr_aload_n hx hb d_Device_passesOverWrongRequests_0 rfl (lv_at hl 0 rfl) ?_
  obtain ⟨g_2, h⟩ := h
  refine rg_Device_settings E hp g_2 lk_0 d_Device_passesOverWrongRequests_1 (fun x_1 ex_1 => ?_)
  replace h := h x_1 ex_1
  refine lv_iconst (v := 3) hx hb d_Device_passesOverWrongRequests_4 (by decide) ?_
  obtain ⟨g_4, g_5, h⟩ := h
  refine mp_iald (t0 := 1) E hp g_4 (by decide) rfl rfl g_5 d_Device_passesOverWrongRequests_5 (fun x_3 ex_3 => ?_)
  replace h := h x_3 ex_3
  refine lv_iconst (v := 1) hx hb d_Device_passesOverWrongRequests_6 (by decide) ?_
  refine lv_icmp_ne (tgt := 14) hx hb d_Device_passesOverWrongRequests_7 (by decide) (fun g_6 => ?_) (fun g_6 => ?_)
  · replace h := h.2 g_6
    refine lv_iconst (v := 0) hx hb d_Device_passesOverWrongRequests_14 (by decide) ?_
    exact mp_zret E hr hp hS (by decide) h d_Device_passesOverWrongRequests_15
  · replace h := h.1 g_6
    refine lv_iconst (v := 1) hx hb d_Device_passesOverWrongRequests_10 (by decide) ?_
    refine lv_goto (tgt := 15) hx hb d_Device_passesOverWrongRequests_11 (by decide) ?_
    exact mp_zret E hr hp hS (by decide) h d_Device_passesOverWrongRequests_15
set_option maxHeartbeats 4000000 in
set_option maxRecDepth 100000 in
theorem c_Device_passesOverWrongRequests (l : Launch) (G : Gc) (m : Mm) (v0 : Nat) (P : Int32 → Mm → Prop) (h : wp_Device_passesOverWrongRequests m v0 P) : Met l y_Device_passesOverWrongRequests (Cond.code y_Device_passesOverWrongRequests b_Device_passesOverWrongRequests 1 (some .boolean) :: lw_good) rm_Device_passesOverWrongRequests (Pre9 G m [rn v0]) (PoI G P) 0 0 (fr G) := by
  refine Met.ofW (cc := b_Device_passesOverWrongRequests) (maxL := 1) (ret := (some .boolean)) (by decide) rfl ?_
  intro p e s mt args below meth c s₁ B hml hv
  obtain ⟨rfl, hp, hC⟩ := hv
  have hts := atoms_spec (ws := Cond.code y_Device_passesOverWrongRequests b_Device_passesOverWrongRequests 1 (some .boolean) :: lw_good) B.pre
  have E : En G R_Device b_Device_passesOverWrongRequests 1 p s mt _ meth c := ⟨B.exec, B.bytes, hml, findClass_of_methodNamed B.named, fun w hw => hts w (List.mem_cons_of_mem _ hw), hC, B.notSynchronized⟩
  have hr := B.returns
  have hl := lv_entry [rn v0] (n := 1) (by simp [lg_sl, rn_cat, cat_int, cat_long, cat_ref, cat_null])
  rw [lg_entry_eq]
  generalize (lg_sl [rn v0] ++ List.replicate (1 - (lg_sl [rn v0]).length) Slot.unset).toArray = ls at hl ⊢
  have hl : lv_has ls 1 [(0, rn v0)] := by simpa [lv_args, rn_cat, cat_int, cat_long, cat_ref, cat_null] using hl
  exact t_Device_passesOverWrongRequests_0 E hr m v0 _ _ _ h hp va_S.rf (lv_sub hl [0] rfl)
abbrev rm_Machine_request : Room := { frames := 1, cells := 0, slots := 0, locals := 22 }
set_option maxHeartbeats 4000000 in
set_option maxRecDepth 100000 in
theorem t_Machine_request_27 {G : Gc} {P : Int32 → Mm → Prop} (E : En G R_Machine b_Machine_request 4 p s mt args meth c) (hr : meth.sig.returnType = some .int) (m : Mm) (s0 : Int32) (H : Heap) (locs : List Loc) (ls : Array Slot) (h : wp_Machine_request_27 P m s0) (hp : pic G m H) (hS : va_S (fr G) s.heap H locs) (hl : lv_has ls 4 []) : W p l e rm_Machine_request s mt args below meth c H locs 0 0 (MQ below (PoI G P) args s 0 0 (fr G)) (F0 mt 27 ls [.int s0]) := by
  have hx := E.1
  have hb := E.2.1
  unfold wp_Machine_request_27 at h
  refine lv_istore_n (lv' := [(3, .int s0)]) hx hb d_Machine_request_27 rfl hl (by decide) rfl (fun ls hl => ?_)
  refine lv_iload_n hx hb d_Machine_request_28 rfl (lv_at hl 0 rfl) ?_
  refine lv_if_eq (tgt := 36) hx hb d_Machine_request_29 (by decide) (fun g_1 => ?_) (fun g_1 => ?_)
  · replace h := h.1 g_1
    refine lv_iconst (v := 3) hx hb d_Machine_request_36 (by decide) ?_
    exact mp_iret E hr hp hS h d_Machine_request_37
  · replace h := h.2 g_1
    refine lv_iconst (v := 0) hx hb d_Machine_request_32 (by decide) ?_
    refine lv_goto (tgt := 37) hx hb d_Machine_request_33 (by decide) ?_
    exact mp_iret E hr hp hS h d_Machine_request_37
set_option maxHeartbeats 4000000 in
set_option maxRecDepth 100000 in
theorem t_Machine_request_22 {G : Gc} {P : Int32 → Mm → Prop} (E : En G R_Machine b_Machine_request 4 p s mt args meth c) (hr : meth.sig.returnType = some .int) (m : Mm) (H : Heap) (locs : List Loc) (ls : Array Slot) (h : wp_Machine_request_22 P m) (hp : pic G m H) (hS : va_S (fr G) s.heap H locs) (hl : lv_has ls 4 []) : W p l e rm_Machine_request s mt args below meth c H locs 0 0 (MQ below (PoI G P) args s 0 0 (fr G)) (F0 mt 22 ls []) := by
  have hx := E.1
  have hb := E.2.1
  unfold wp_Machine_request_22 at h
  refine lv_iconst (v := 1) hx hb d_Machine_request_22 (by decide) ?_
  refine lv_goto (tgt := 27) hx hb d_Machine_request_23 (by decide) ?_
  exact t_Machine_request_27 E hr m 1 _ _ _ h hp hS (lv_sub hl [] rfl)
set_option maxHeartbeats 4000000 in
set_option maxRecDepth 100000 in
theorem t_Machine_request_0 {G : Gc} {P : Int32 → Mm → Prop} (E : En G R_Machine b_Machine_request 4 p s mt args meth c) (hr : meth.sig.returnType = some .int) (m : Mm) (v0 : Nat) (v1 : Int32) (v2 : Int32) (H : Heap) (locs : List Loc) (ls : Array Slot) (h : wp_Machine_request_0 P m v0 v1 v2) (hp : pic G m H) (hS : va_S (fr G) s.heap H locs) (hl : lv_has ls 4 [(0, rn v0), (1, .int v1), (2, .int v2)]) : W p l e rm_Machine_request s mt args below meth c H locs 0 0 (MQ below (PoI G P) args s 0 0 (fr G)) (F0 mt 0 ls []) := by
  have hx := E.1
  have hb := E.2.1
  unfold wp_Machine_request_0 at h
  refine rr_aload_n hx hb d_Machine_request_0 rfl (lv_at hl 0 rfl) ?_
  obtain ⟨g_2, h⟩ := h
  refine rg_Machine_device E hp g_2 lk_52 d_Machine_request_1 (fun x_1 ex_1 => ?_)
  replace h := h x_1 ex_1
  refine lv_iload_n hx hb d_Machine_request_4 rfl (lv_at hl 1 rfl) ?_
  refine lv_iload_n hx hb d_Machine_request_5 rfl (lv_at hl 2 rfl) ?_
  obtain ⟨g_5, h⟩ := h
  refine mc_i hS (mc_runV (As := [.int v1, .int v2]) (rest := []) E (c_Device_change l G m x_1 v1 v2 _ h) wd_Device_change ⟨lk_160, lk_161, lk_162⟩ rfl rfl ⟨Nat.le_of_ble_eq_true rfl, Nat.le_of_ble_eq_true rfl⟩ hp hS g_5 (by decide) rfl rfl rfl hl.1 rfl (lv_room (Nat.le_of_ble_eq_true rfl)) d_Machine_request_6 ⟨Nat.le_of_ble_eq_true rfl, Nat.le_of_ble_eq_true rfl⟩) (fun r_4 m_3 h H locs hp hS => ?_)
  try dsimp only at h
  refine lv_if_ne (tgt := 22) hx hb d_Machine_request_9 (by decide) (fun g_6 => ?_) (fun g_6 => ?_)
  · replace h := h.2 g_6
    exact t_Machine_request_22 E hr m_3 _ _ _ h hp hS (lv_sub hl [] rfl)
  · replace h := h.1 g_6
    refine rr_aload_n hx hb d_Machine_request_12 rfl (lv_at hl 0 rfl) ?_
    obtain ⟨g_8, h⟩ := h
    refine rg_Machine_device E hp g_8 lk_52 d_Machine_request_13 (fun x_7 ex_7 => ?_)
    replace h := h x_7 ex_7
    obtain ⟨g_11, h⟩ := h
    refine mc_i hS (mc_runV (As := []) (rest := []) E (c_Device_passesOverWrongRequests l G m_3 x_7 _ h) wd_Device_passesOverWrongRequests ⟨lk_163, lk_164, lk_165⟩ rfl rfl ⟨Nat.le_of_ble_eq_true rfl, Nat.le_of_ble_eq_true rfl⟩ hp hS g_11 (by decide) rfl rfl rfl hl.1 rfl (lv_room (Nat.le_of_ble_eq_true rfl)) d_Machine_request_16 ⟨Nat.le_of_ble_eq_true rfl, Nat.le_of_ble_eq_true rfl⟩) (fun r_10 m_9 h H locs hp hS => ?_)
    try dsimp only at h
    refine lv_if_eq (tgt := 26) hx hb d_Machine_request_19 (by decide) (fun g_12 => ?_) (fun g_12 => ?_)
    · replace h := h.1 g_12
      refine lv_iconst (v := 0) hx hb d_Machine_request_26 (by decide) ?_
      exact t_Machine_request_27 E hr m_9 0 _ _ _ h hp hS (lv_sub hl [] rfl)
    · replace h := h.2 g_12
      exact t_Machine_request_22 E hr m_9 _ _ _ h hp hS (lv_sub hl [] rfl)
set_option maxHeartbeats 4000000 in
set_option maxRecDepth 100000 in
theorem c_Machine_request (l : Launch) (G : Gc) (m : Mm) (v0 : Nat) (v1 : Int32) (v2 : Int32) (P : Int32 → Mm → Prop) (h : wp_Machine_request m v0 v1 v2 P) : Met l y_Machine_request (Cond.code y_Machine_request b_Machine_request 4 (some .int) :: lw_good) rm_Machine_request (Pre9 G m [rn v0, .int v1, .int v2]) (PoI G P) 0 0 (fr G) := by
  refine Met.ofW (cc := b_Machine_request) (maxL := 4) (ret := (some .int)) (by decide) rfl ?_
  intro p e s mt args below meth c s₁ B hml hv
  obtain ⟨rfl, hp, hC⟩ := hv
  have hts := atoms_spec (ws := Cond.code y_Machine_request b_Machine_request 4 (some .int) :: lw_good) B.pre
  have E : En G R_Machine b_Machine_request 4 p s mt _ meth c := ⟨B.exec, B.bytes, hml, findClass_of_methodNamed B.named, fun w hw => hts w (List.mem_cons_of_mem _ hw), hC, B.notSynchronized⟩
  have hr := B.returns
  have hl := lv_entry [rn v0, .int v1, .int v2] (n := 4) (by simp [lg_sl, rn_cat, cat_int, cat_long, cat_ref, cat_null])
  rw [lg_entry_eq]
  generalize (lg_sl [rn v0, .int v1, .int v2] ++ List.replicate (4 - (lg_sl [rn v0, .int v1, .int v2]).length) Slot.unset).toArray = ls at hl ⊢
  have hl : lv_has ls 4 [(0, rn v0), (1, .int v1), (2, .int v2)] := by simpa [lv_args, rn_cat, cat_int, cat_long, cat_ref, cat_null] using hl
  exact t_Machine_request_0 E hr m v0 v1 v2 _ _ _ h hp va_S.rf (lv_sub hl [0, 1, 2] rfl)
abbrev rm_Resources_slotOf : Room := { frames := 0, cells := 0, slots := 0, locals := 0 }
set_option maxHeartbeats 4000000 in
set_option maxRecDepth 100000 in
theorem t_Resources_slotOf_0 {G : Gc} {P : Int32 → Mm → Prop} (E : En G R_Resources b_Resources_slotOf 2 p s mt args meth c) (hr : meth.sig.returnType = some .int) (m : Mm) (v0 : Int32) (v1 : Int32) (H : Heap) (locs : List Loc) (ls : Array Slot) (h : wp_Resources_slotOf_0 P m v0 v1) (hp : pic G m H) (hS : va_S (fr G) s.heap H locs) (hl : lv_has ls 2 [(0, .int v0), (1, .int v1)]) : W p l e rm_Resources_slotOf s mt args below meth c H locs 0 0 (MQ below (PoI G P) args s 0 0 (fr G)) (F0 mt 0 ls []) := by
  have hx := E.1
  have hb := E.2.1
  unfold wp_Resources_slotOf_0 at h
  refine lv_iload_n hx hb d_Resources_slotOf_0 rfl (lv_at hl 0 rfl) ?_
  refine lv_if_lt (tgt := 19) hx hb d_Resources_slotOf_1 (by decide) (fun g_1 => ?_) (fun g_1 => ?_)
  · replace h := h.1 g_1
    refine lv_iconst (v := (-1)) hx hb d_Resources_slotOf_19 (by decide) ?_
    exact mp_iret E hr hp hS h d_Resources_slotOf_20
  · replace h := h.2 g_1
    refine lv_iload_n hx hb d_Resources_slotOf_4 rfl (lv_at hl 0 rfl) ?_
    refine lv_iconst (v := 4) hx hb d_Resources_slotOf_5 (by decide) ?_
    refine lv_icmp_ge (tgt := 19) hx hb d_Resources_slotOf_6 (by decide) (fun g_2 => ?_) (fun g_2 => ?_)
    · replace h := h.1 g_2
      refine lv_iconst (v := (-1)) hx hb d_Resources_slotOf_19 (by decide) ?_
      exact mp_iret E hr hp hS h d_Resources_slotOf_20
    · replace h := h.2 g_2
      refine lv_iload_n hx hb d_Resources_slotOf_9 rfl (lv_at hl 1 rfl) ?_
      refine lv_if_lt (tgt := 19) hx hb d_Resources_slotOf_10 (by decide) (fun g_3 => ?_) (fun g_3 => ?_)
      · replace h := h.1 g_3
        refine lv_iconst (v := (-1)) hx hb d_Resources_slotOf_19 (by decide) ?_
        exact mp_iret E hr hp hS h d_Resources_slotOf_20
      · replace h := h.2 g_3
        refine lv_iload_n hx hb d_Resources_slotOf_13 rfl (lv_at hl 1 rfl) ?_
        refine lv_bipush (v := 10) hx hb d_Resources_slotOf_14 (by decide) ?_
        refine lv_icmp_lt (tgt := 21) hx hb d_Resources_slotOf_16 (by decide) (fun g_4 => ?_) (fun g_4 => ?_)
        · replace h := h.1 g_4
          refine lv_iload_n hx hb d_Resources_slotOf_21 rfl (lv_at hl 0 rfl) ?_
          refine lv_bipush (v := 10) hx hb d_Resources_slotOf_22 (by decide) ?_
          refine lv_imul hx hb d_Resources_slotOf_24 ?_
          refine lv_topi (fun x_5 ex_5 => ?_)
          replace h := h x_5 ex_5
          refine lv_iload_n hx hb d_Resources_slotOf_25 rfl (lv_at hl 1 rfl) ?_
          refine lv_iadd hx hb d_Resources_slotOf_26 ?_
          refine lv_topi (fun x_6 ex_6 => ?_)
          replace h := h x_6 ex_6
          exact mp_iret E hr hp hS h d_Resources_slotOf_27
        · replace h := h.2 g_4
          refine lv_iconst (v := (-1)) hx hb d_Resources_slotOf_19 (by decide) ?_
          exact mp_iret E hr hp hS h d_Resources_slotOf_20
set_option maxHeartbeats 4000000 in
set_option maxRecDepth 100000 in
theorem c_Resources_slotOf (l : Launch) (G : Gc) (m : Mm) (v0 : Int32) (v1 : Int32) (P : Int32 → Mm → Prop) (h : wp_Resources_slotOf m v0 v1 P) : Met l y_Resources_slotOf (Cond.code y_Resources_slotOf b_Resources_slotOf 2 (some .int) :: lw_good) rm_Resources_slotOf (Pre9 G m [.int v0, .int v1]) (PoI G P) 0 0 (fr G) := by
  refine Met.ofW (cc := b_Resources_slotOf) (maxL := 2) (ret := (some .int)) (by decide) rfl ?_
  intro p e s mt args below meth c s₁ B hml hv
  obtain ⟨rfl, hp, hC⟩ := hv
  have hts := atoms_spec (ws := Cond.code y_Resources_slotOf b_Resources_slotOf 2 (some .int) :: lw_good) B.pre
  have E : En G R_Resources b_Resources_slotOf 2 p s mt _ meth c := ⟨B.exec, B.bytes, hml, findClass_of_methodNamed B.named, fun w hw => hts w (List.mem_cons_of_mem _ hw), hC, B.notSynchronized⟩
  have hr := B.returns
  have hl := lv_entry [.int v0, .int v1] (n := 2) (by simp [lg_sl, rn_cat, cat_int, cat_long, cat_ref, cat_null])
  rw [lg_entry_eq]
  generalize (lg_sl [.int v0, .int v1] ++ List.replicate (2 - (lg_sl [.int v0, .int v1]).length) Slot.unset).toArray = ls at hl ⊢
  have hl : lv_has ls 2 [(0, .int v0), (1, .int v1)] := by simpa [lv_args, rn_cat, cat_int, cat_long, cat_ref, cat_null] using hl
  exact t_Resources_slotOf_0 E hr m v0 v1 _ _ _ h hp va_S.rf (lv_sub hl [0, 1] rfl)
abbrev rm_Resources_valueAt : Room := { frames := 1, cells := 0, slots := 0, locals := 21 }
set_option maxHeartbeats 4000000 in
set_option maxRecDepth 100000 in
theorem t_Resources_valueAt_0 {G : Gc} {P : Int32 → Mm → Prop} (E : En G R_Resources b_Resources_valueAt 4 p s mt args meth c) (hr : meth.sig.returnType = some .int) (m : Mm) (v0 : Nat) (v1 : Int32) (v2 : Int32) (H : Heap) (locs : List Loc) (ls : Array Slot) (h : wp_Resources_valueAt_0 P m v0 v1 v2) (hp : pic G m H) (hS : va_S (fr G) s.heap H locs) (hl : lv_has ls 4 [(0, rn v0), (1, .int v1), (2, .int v2)]) : W p l e rm_Resources_valueAt s mt args below meth c H locs 0 0 (MQ below (PoI G P) args s 0 0 (fr G)) (F0 mt 0 ls []) := by
  have hx := E.1
  have hb := E.2.1
  unfold wp_Resources_valueAt_0 at h
  refine lv_iload_n hx hb d_Resources_valueAt_0 rfl (lv_at hl 1 rfl) ?_
  refine lv_iload_n hx hb d_Resources_valueAt_1 rfl (lv_at hl 2 rfl) ?_
  refine mc_i hS (mc_runS (As := [.int v1, .int v2]) (rest := []) E (c_Resources_slotOf l G m v1 v2 _ h) wd_Resources_slotOf ⟨lk_166, lk_167⟩ rfl rfl ⟨Nat.le_of_ble_eq_true rfl, Nat.le_of_ble_eq_true rfl⟩ hp hS rfl hl.1 rfl (lv_room (Nat.le_of_ble_eq_true rfl)) d_Resources_valueAt_2 ⟨Nat.le_of_ble_eq_true rfl, Nat.le_of_ble_eq_true rfl⟩) (fun r_2 m_1 h H locs hp hS => ?_)
  try dsimp only at h
  refine lv_istore_n (lv' := [(3, .int r_2), (0, rn v0), (1, .int v1), (2, .int v2)]) hx hb d_Resources_valueAt_5 rfl hl (by decide) rfl (fun ls hl => ?_)
  refine lv_iload_n hx hb d_Resources_valueAt_6 rfl (lv_at hl 0 rfl) ?_
  refine lv_iconst (v := (-1)) hx hb d_Resources_valueAt_7 (by decide) ?_
  refine lv_icmp_ne (tgt := 13) hx hb d_Resources_valueAt_8 (by decide) (fun g_3 => ?_) (fun g_3 => ?_)
  · replace h := h.2 g_3
    refine rr_aload_n hx hb d_Resources_valueAt_13 rfl (lv_at hl 1 rfl) ?_
    obtain ⟨g_5, h⟩ := h
    refine rg_Resources_values E hp g_5 lk_5 d_Resources_valueAt_14 (fun x_4 ex_4 => ?_)
    replace h := h x_4 ex_4
    refine lv_iload_n hx hb d_Resources_valueAt_17 rfl (lv_at hl 0 rfl) ?_
    obtain ⟨g_7, g_8, h⟩ := h
    refine mp_iald (t0 := 1) E hp g_7 (by decide) rfl rfl g_8 d_Resources_valueAt_18 (fun x_6 ex_6 => ?_)
    replace h := h x_6 ex_6
    refine lv_iconst (v := (-1)) hx hb d_Resources_valueAt_19 (by decide) ?_
    refine lv_icmp_ne (tgt := 28) hx hb d_Resources_valueAt_20 (by decide) (fun g_9 => ?_) (fun g_9 => ?_)
    · replace h := h.2 g_9
      refine rr_aload_n hx hb d_Resources_valueAt_28 rfl (lv_at hl 1 rfl) ?_
      obtain ⟨g_11, h⟩ := h
      refine rg_Resources_values E hp g_11 lk_5 d_Resources_valueAt_29 (fun x_10 ex_10 => ?_)
      replace h := h x_10 ex_10
      refine lv_iload_n hx hb d_Resources_valueAt_32 rfl (lv_at hl 0 rfl) ?_
      obtain ⟨g_13, g_14, h⟩ := h
      refine mp_iald (t0 := 1) E hp g_13 (by decide) rfl rfl g_14 d_Resources_valueAt_33 (fun x_12 ex_12 => ?_)
      replace h := h x_12 ex_12
      exact mp_iret E hr hp hS h d_Resources_valueAt_34
    · replace h := h.1 g_9
      refine lv_bipush (v := (-3)) hx hb d_Resources_valueAt_23 (by decide) ?_
      refine lv_goto (tgt := 34) hx hb d_Resources_valueAt_25 (by decide) ?_
      exact mp_iret E hr hp hS h d_Resources_valueAt_34
  · replace h := h.1 g_3
    refine lv_iconst (v := (-1)) hx hb d_Resources_valueAt_11 (by decide) ?_
    exact mp_iret E hr hp hS h d_Resources_valueAt_12
set_option maxHeartbeats 4000000 in
set_option maxRecDepth 100000 in
theorem c_Resources_valueAt (l : Launch) (G : Gc) (m : Mm) (v0 : Nat) (v1 : Int32) (v2 : Int32) (P : Int32 → Mm → Prop) (h : wp_Resources_valueAt m v0 v1 v2 P) : Met l y_Resources_valueAt (Cond.code y_Resources_valueAt b_Resources_valueAt 4 (some .int) :: lw_good) rm_Resources_valueAt (Pre9 G m [rn v0, .int v1, .int v2]) (PoI G P) 0 0 (fr G) := by
  refine Met.ofW (cc := b_Resources_valueAt) (maxL := 4) (ret := (some .int)) (by decide) rfl ?_
  intro p e s mt args below meth c s₁ B hml hv
  obtain ⟨rfl, hp, hC⟩ := hv
  have hts := atoms_spec (ws := Cond.code y_Resources_valueAt b_Resources_valueAt 4 (some .int) :: lw_good) B.pre
  have E : En G R_Resources b_Resources_valueAt 4 p s mt _ meth c := ⟨B.exec, B.bytes, hml, findClass_of_methodNamed B.named, fun w hw => hts w (List.mem_cons_of_mem _ hw), hC, B.notSynchronized⟩
  have hr := B.returns
  have hl := lv_entry [rn v0, .int v1, .int v2] (n := 4) (by simp [lg_sl, rn_cat, cat_int, cat_long, cat_ref, cat_null])
  rw [lg_entry_eq]
  generalize (lg_sl [rn v0, .int v1, .int v2] ++ List.replicate (4 - (lg_sl [rn v0, .int v1, .int v2]).length) Slot.unset).toArray = ls at hl ⊢
  have hl : lv_has ls 4 [(0, rn v0), (1, .int v1), (2, .int v2)] := by simpa [lv_args, rn_cat, cat_int, cat_long, cat_ref, cat_null] using hl
  exact t_Resources_valueAt_0 E hr m v0 v1 v2 _ _ _ h hp va_S.rf (lv_sub hl [0, 1, 2] rfl)
abbrev rm_Machine_layUnlessRefused : Room := { frames := 1, cells := 0, slots := 0, locals := 21 }
set_option maxHeartbeats 4000000 in
set_option maxRecDepth 100000 in
theorem t_Machine_layUnlessRefused_0 {G : Gc} {P : Int32 → Mm → Prop} (E : En G R_Machine b_Machine_layUnlessRefused 3 p s mt args meth c) (hr : meth.sig.returnType = some .int) (m : Mm) (v0 : Nat) (v1 : Int32) (v2 : Int32) (H : Heap) (locs : List Loc) (ls : Array Slot) (h : wp_Machine_layUnlessRefused_0 P m v0 v1 v2) (hp : pic G m H) (hS : va_S (fr G) s.heap H locs) (hl : lv_has ls 3 [(0, rn v0), (1, .int v1), (2, .int v2)]) : W p l e rm_Machine_layUnlessRefused s mt args below meth c H locs 0 0 (MQ below (PoI G P) args s 0 0 (fr G)) (F0 mt 0 ls []) := by
  have hx := E.1
  have hb := E.2.1
  unfold wp_Machine_layUnlessRefused_0 at h
  refine lv_iload_n hx hb d_Machine_layUnlessRefused_0 rfl (lv_at hl 1 rfl) ?_
  refine lv_if_ge (tgt := 8) hx hb d_Machine_layUnlessRefused_1 (by decide) (fun g_1 => ?_) (fun g_1 => ?_)
  · replace h := h.1 g_1
    refine rr_aload_n hx hb d_Machine_layUnlessRefused_8 rfl (lv_at hl 0 rfl) ?_
    obtain ⟨g_3, h⟩ := h
    refine rg_Machine_stack E hp g_3 lk_72 d_Machine_layUnlessRefused_9 (fun x_2 ex_2 => ?_)
    replace h := h x_2 ex_2
    refine lv_iload_n hx hb d_Machine_layUnlessRefused_12 rfl (lv_at hl 1 rfl) ?_
    obtain ⟨g_6, h⟩ := h
    refine mc_i hS (mc_runV (As := [.int v1]) (rest := []) E (c_Numbers_lay l G m x_2 v1 _ h) wd_Numbers_lay ⟨lk_168, lk_169, lk_170⟩ rfl rfl ⟨Nat.le_of_ble_eq_true rfl, Nat.le_of_ble_eq_true rfl⟩ hp hS g_6 (by decide) rfl rfl rfl hl.1 rfl (lv_room (Nat.le_of_ble_eq_true rfl)) d_Machine_layUnlessRefused_13 ⟨Nat.le_of_ble_eq_true rfl, Nat.le_of_ble_eq_true rfl⟩) (fun r_5 m_4 h H locs hp hS => ?_)
    try dsimp only at h
    exact mp_iret E hr hp hS h d_Machine_layUnlessRefused_16
  · replace h := h.2 g_1
    refine lv_iload_n hx hb d_Machine_layUnlessRefused_4 rfl (lv_at hl 2 rfl) ?_
    refine lv_goto (tgt := 16) hx hb d_Machine_layUnlessRefused_5 (by decide) ?_
    exact mp_iret E hr hp hS h d_Machine_layUnlessRefused_16
set_option maxHeartbeats 4000000 in
set_option maxRecDepth 100000 in
theorem c_Machine_layUnlessRefused (l : Launch) (G : Gc) (m : Mm) (v0 : Nat) (v1 : Int32) (v2 : Int32) (P : Int32 → Mm → Prop) (h : wp_Machine_layUnlessRefused m v0 v1 v2 P) : Met l y_Machine_layUnlessRefused (Cond.code y_Machine_layUnlessRefused b_Machine_layUnlessRefused 3 (some .int) :: lw_good) rm_Machine_layUnlessRefused (Pre9 G m [rn v0, .int v1, .int v2]) (PoI G P) 0 0 (fr G) := by
  refine Met.ofW (cc := b_Machine_layUnlessRefused) (maxL := 3) (ret := (some .int)) (by decide) rfl ?_
  intro p e s mt args below meth c s₁ B hml hv
  obtain ⟨rfl, hp, hC⟩ := hv
  have hts := atoms_spec (ws := Cond.code y_Machine_layUnlessRefused b_Machine_layUnlessRefused 3 (some .int) :: lw_good) B.pre
  have E : En G R_Machine b_Machine_layUnlessRefused 3 p s mt _ meth c := ⟨B.exec, B.bytes, hml, findClass_of_methodNamed B.named, fun w hw => hts w (List.mem_cons_of_mem _ hw), hC, B.notSynchronized⟩
  have hr := B.returns
  have hl := lv_entry [rn v0, .int v1, .int v2] (n := 3) (by simp [lg_sl, rn_cat, cat_int, cat_long, cat_ref, cat_null])
  rw [lg_entry_eq]
  generalize (lg_sl [rn v0, .int v1, .int v2] ++ List.replicate (3 - (lg_sl [rn v0, .int v1, .int v2]).length) Slot.unset).toArray = ls at hl ⊢
  have hl : lv_has ls 3 [(0, rn v0), (1, .int v1), (2, .int v2)] := by simpa [lv_args, rn_cat, cat_int, cat_long, cat_ref, cat_null] using hl
  exact t_Machine_layUnlessRefused_0 E hr m v0 v1 v2 _ _ _ h hp va_S.rf (lv_sub hl [0, 1, 2] rfl)
abbrev rm_Resources_put : Room := { frames := 1, cells := 0, slots := 0, locals := 21 }
set_option maxHeartbeats 4000000 in
set_option maxRecDepth 100000 in
theorem t_Resources_put_0 {G : Gc} {P : Int32 → Mm → Prop} (E : En G R_Resources b_Resources_put 5 p s mt args meth c) (hr : meth.sig.returnType = some .int) (m : Mm) (v0 : Nat) (v1 : Int32) (v2 : Int32) (v3 : Int32) (H : Heap) (locs : List Loc) (ls : Array Slot) (h : wp_Resources_put_0 P m v0 v1 v2 v3) (hp : pic G m H) (hS : va_S (fr G) s.heap H locs) (hl : lv_has ls 5 [(0, rn v0), (1, .int v1), (2, .int v2), (3, .int v3)]) : W p l e rm_Resources_put s mt args below meth c H locs 0 0 (MQ below (PoI G P) args s 0 0 (fr G)) (F0 mt 0 ls []) := by
  have hx := E.1
  have hb := E.2.1
  unfold wp_Resources_put_0 at h
  refine lv_iload_n hx hb d_Resources_put_0 rfl (lv_at hl 1 rfl) ?_
  refine lv_iload_n hx hb d_Resources_put_1 rfl (lv_at hl 2 rfl) ?_
  refine mc_i hS (mc_runS (As := [.int v1, .int v2]) (rest := []) E (c_Resources_slotOf l G m v1 v2 _ h) wd_Resources_slotOf ⟨lk_166, lk_167⟩ rfl rfl ⟨Nat.le_of_ble_eq_true rfl, Nat.le_of_ble_eq_true rfl⟩ hp hS rfl hl.1 rfl (lv_room (Nat.le_of_ble_eq_true rfl)) d_Resources_put_2 ⟨Nat.le_of_ble_eq_true rfl, Nat.le_of_ble_eq_true rfl⟩) (fun r_2 m_1 h H locs hp hS => ?_)
  try dsimp only at h
  refine lv_istore (lv' := [(4, .int r_2), (0, rn v0), (1, .int v1), (2, .int v2), (3, .int v3)]) hx hb d_Resources_put_5 hl (by decide) rfl (fun ls hl => ?_)
  refine lv_iload hx hb d_Resources_put_7 (lv_at hl 0 rfl) ?_
  refine lv_iconst (v := (-1)) hx hb d_Resources_put_9 (by decide) ?_
  refine lv_icmp_ne (tgt := 15) hx hb d_Resources_put_10 (by decide) (fun g_3 => ?_) (fun g_3 => ?_)
  · replace h := h.2 g_3
    refine lv_iload_n hx hb d_Resources_put_15 rfl (lv_at hl 4 rfl) ?_
    refine lv_if_lt (tgt := 26) hx hb d_Resources_put_16 (by decide) (fun g_4 => ?_) (fun g_4 => ?_)
    · replace h := h.1 g_4
      refine lv_bipush (v := (-2)) hx hb d_Resources_put_26 (by decide) ?_
      exact mp_iret E hr hp hS h d_Resources_put_28
    · replace h := h.2 g_4
      refine lv_iload_n hx hb d_Resources_put_19 rfl (lv_at hl 4 rfl) ?_
      refine lv_sipush (v := 9999) hx hb d_Resources_put_20 (by decide) ?_
      refine lv_icmp_le (tgt := 29) hx hb d_Resources_put_23 (by decide) (fun g_5 => ?_) (fun g_5 => ?_)
      · replace h := h.1 g_5
        refine rr_aload_n hx hb d_Resources_put_29 rfl (lv_at hl 1 rfl) ?_
        obtain ⟨g_7, h⟩ := h
        refine rg_Resources_values E hp g_7 lk_5 d_Resources_put_30 (fun x_6 ex_6 => ?_)
        replace h := h x_6 ex_6
        refine lv_iload hx hb d_Resources_put_33 (lv_at hl 0 rfl) ?_
        refine lv_iload_n hx hb d_Resources_put_35 rfl (lv_at hl 4 rfl) ?_
        obtain ⟨g_8, g_9, h⟩ := h
        refine mp_iast (t0 := 1) E hp hS g_8 (by decide) rfl cw_16 rfl g_9 d_Resources_put_36 (fun m_10 em_10 H locs hp hS => ?_)
        replace h := h m_10 em_10
        refine lv_iconst (v := 1) hx hb d_Resources_put_37 (by decide) ?_
        exact mp_iret E hr hp hS h d_Resources_put_38
      · replace h := h.2 g_5
        refine lv_bipush (v := (-2)) hx hb d_Resources_put_26 (by decide) ?_
        exact mp_iret E hr hp hS h d_Resources_put_28
  · replace h := h.1 g_3
    refine lv_iconst (v := (-1)) hx hb d_Resources_put_13 (by decide) ?_
    exact mp_iret E hr hp hS h d_Resources_put_14
set_option maxHeartbeats 4000000 in
set_option maxRecDepth 100000 in
theorem c_Resources_put (l : Launch) (G : Gc) (m : Mm) (v0 : Nat) (v1 : Int32) (v2 : Int32) (v3 : Int32) (P : Int32 → Mm → Prop) (h : wp_Resources_put m v0 v1 v2 v3 P) : Met l y_Resources_put (Cond.code y_Resources_put b_Resources_put 5 (some .int) :: lw_good) rm_Resources_put (Pre9 G m [rn v0, .int v1, .int v2, .int v3]) (PoI G P) 0 0 (fr G) := by
  refine Met.ofW (cc := b_Resources_put) (maxL := 5) (ret := (some .int)) (by decide) rfl ?_
  intro p e s mt args below meth c s₁ B hml hv
  obtain ⟨rfl, hp, hC⟩ := hv
  have hts := atoms_spec (ws := Cond.code y_Resources_put b_Resources_put 5 (some .int) :: lw_good) B.pre
  have E : En G R_Resources b_Resources_put 5 p s mt _ meth c := ⟨B.exec, B.bytes, hml, findClass_of_methodNamed B.named, fun w hw => hts w (List.mem_cons_of_mem _ hw), hC, B.notSynchronized⟩
  have hr := B.returns
  have hl := lv_entry [rn v0, .int v1, .int v2, .int v3] (n := 5) (by simp [lg_sl, rn_cat, cat_int, cat_long, cat_ref, cat_null])
  rw [lg_entry_eq]
  generalize (lg_sl [rn v0, .int v1, .int v2, .int v3] ++ List.replicate (5 - (lg_sl [rn v0, .int v1, .int v2, .int v3]).length) Slot.unset).toArray = ls at hl ⊢
  have hl : lv_has ls 5 [(0, rn v0), (1, .int v1), (2, .int v2), (3, .int v3)] := by simpa [lv_args, rn_cat, cat_int, cat_long, cat_ref, cat_null] using hl
  exact t_Resources_put_0 E hr m v0 v1 v2 v3 _ _ _ h hp va_S.rf (lv_sub hl [0, 1, 2, 3] rfl)
abbrev rm_Machine_errorIfRefused : Room := { frames := 0, cells := 0, slots := 0, locals := 0 }
set_option maxHeartbeats 4000000 in
set_option maxRecDepth 100000 in
theorem t_Machine_errorIfRefused_0 {G : Gc} {P : Int32 → Mm → Prop} (E : En G R_Machine b_Machine_errorIfRefused 2 p s mt args meth c) (hr : meth.sig.returnType = some .int) (m : Mm) (v0 : Int32) (v1 : Int32) (H : Heap) (locs : List Loc) (ls : Array Slot) (h : wp_Machine_errorIfRefused_0 P m v0 v1) (hp : pic G m H) (hS : va_S (fr G) s.heap H locs) (hl : lv_has ls 2 [(0, .int v0), (1, .int v1)]) : W p l e rm_Machine_errorIfRefused s mt args below meth c H locs 0 0 (MQ below (PoI G P) args s 0 0 (fr G)) (F0 mt 0 ls []) := by
  have hx := E.1
  have hb := E.2.1
  unfold wp_Machine_errorIfRefused_0 at h
  refine lv_iload_n hx hb d_Machine_errorIfRefused_0 rfl (lv_at hl 0 rfl) ?_
  refine lv_if_ge (tgt := 8) hx hb d_Machine_errorIfRefused_1 (by decide) (fun g_1 => ?_) (fun g_1 => ?_)
  · replace h := h.1 g_1
    refine lv_iconst (v := 0) hx hb d_Machine_errorIfRefused_8 (by decide) ?_
    exact mp_iret E hr hp hS h d_Machine_errorIfRefused_9
  · replace h := h.2 g_1
    refine lv_iload_n hx hb d_Machine_errorIfRefused_4 rfl (lv_at hl 1 rfl) ?_
    refine lv_goto (tgt := 9) hx hb d_Machine_errorIfRefused_5 (by decide) ?_
    exact mp_iret E hr hp hS h d_Machine_errorIfRefused_9
set_option maxHeartbeats 4000000 in
set_option maxRecDepth 100000 in
theorem c_Machine_errorIfRefused (l : Launch) (G : Gc) (m : Mm) (v0 : Int32) (v1 : Int32) (P : Int32 → Mm → Prop) (h : wp_Machine_errorIfRefused m v0 v1 P) : Met l y_Machine_errorIfRefused (Cond.code y_Machine_errorIfRefused b_Machine_errorIfRefused 2 (some .int) :: lw_good) rm_Machine_errorIfRefused (Pre9 G m [.int v0, .int v1]) (PoI G P) 0 0 (fr G) := by
  refine Met.ofW (cc := b_Machine_errorIfRefused) (maxL := 2) (ret := (some .int)) (by decide) rfl ?_
  intro p e s mt args below meth c s₁ B hml hv
  obtain ⟨rfl, hp, hC⟩ := hv
  have hts := atoms_spec (ws := Cond.code y_Machine_errorIfRefused b_Machine_errorIfRefused 2 (some .int) :: lw_good) B.pre
  have E : En G R_Machine b_Machine_errorIfRefused 2 p s mt _ meth c := ⟨B.exec, B.bytes, hml, findClass_of_methodNamed B.named, fun w hw => hts w (List.mem_cons_of_mem _ hw), hC, B.notSynchronized⟩
  have hr := B.returns
  have hl := lv_entry [.int v0, .int v1] (n := 2) (by simp [lg_sl, rn_cat, cat_int, cat_long, cat_ref, cat_null])
  rw [lg_entry_eq]
  generalize (lg_sl [.int v0, .int v1] ++ List.replicate (2 - (lg_sl [.int v0, .int v1]).length) Slot.unset).toArray = ls at hl ⊢
  have hl : lv_has ls 2 [(0, .int v0), (1, .int v1)] := by simpa [lv_args, rn_cat, cat_int, cat_long, cat_ref, cat_null] using hl
  exact t_Machine_errorIfRefused_0 E hr m v0 v1 _ _ _ h hp va_S.rf (lv_sub hl [0, 1] rfl)
abbrev rm_FileTree_storeOrNull : Room := { frames := 0, cells := 0, slots := 0, locals := 0 }
set_option maxHeartbeats 4000000 in
set_option maxRecDepth 100000 in
theorem t_FileTree_storeOrNull_10 {G : Gc} {P : Nat → Mm → Prop} (E : En G R_FileTree b_FileTree_storeOrNull 2 p s mt args meth c) (hr : meth.sig.returnType = some (.object "MachineLoop$Store")) (m : Mm) (H : Heap) (locs : List Loc) (ls : Array Slot) (h : wp_FileTree_storeOrNull_10 P m) (hp : pic G m H) (hS : va_S (fr G) s.heap H locs) (hl : lv_has ls 2 []) : W p l e rm_FileTree_storeOrNull s mt args below meth c H locs 0 0 (MQ below (PoR G P) args s 0 0 (fr G)) (F0 mt 10 ls []) := by
  have hx := E.1
  have hb := E.2.1
  unfold wp_FileTree_storeOrNull_10 at h
  refine rr_null hx hb d_FileTree_storeOrNull_10 ?_
  refine lv_goto (tgt := 20) hx hb d_FileTree_storeOrNull_11 (by decide) ?_
  exact mp_aret E hr (Or.inl ⟨_, rfl⟩) hp hS h d_FileTree_storeOrNull_20
set_option maxHeartbeats 4000000 in
set_option maxRecDepth 100000 in
theorem t_FileTree_storeOrNull_0 {G : Gc} {P : Nat → Mm → Prop} (E : En G R_FileTree b_FileTree_storeOrNull 2 p s mt args meth c) (hr : meth.sig.returnType = some (.object "MachineLoop$Store")) (m : Mm) (v0 : Nat) (v1 : Int32) (H : Heap) (locs : List Loc) (ls : Array Slot) (h : wp_FileTree_storeOrNull_0 P m v0 v1) (hp : pic G m H) (hS : va_S (fr G) s.heap H locs) (hl : lv_has ls 2 [(0, rn v0), (1, .int v1)]) : W p l e rm_FileTree_storeOrNull s mt args below meth c H locs 0 0 (MQ below (PoR G P) args s 0 0 (fr G)) (F0 mt 0 ls []) := by
  have hx := E.1
  have hb := E.2.1
  unfold wp_FileTree_storeOrNull_0 at h
  refine lv_iload_n hx hb d_FileTree_storeOrNull_0 rfl (lv_at hl 1 rfl) ?_
  refine lv_if_lt (tgt := 10) hx hb d_FileTree_storeOrNull_1 (by decide) (fun g_1 => ?_) (fun g_1 => ?_)
  · replace h := h.1 g_1
    exact t_FileTree_storeOrNull_10 E hr m _ _ _ h hp hS (lv_sub hl [] rfl)
  · replace h := h.2 g_1
    refine lv_iload_n hx hb d_FileTree_storeOrNull_4 rfl (lv_at hl 1 rfl) ?_
    refine lv_bipush (v := 10) hx hb d_FileTree_storeOrNull_5 (by decide) ?_
    refine lv_icmp_lt (tgt := 14) hx hb d_FileTree_storeOrNull_7 (by decide) (fun g_2 => ?_) (fun g_2 => ?_)
    · replace h := h.1 g_2
      refine rr_aload_n hx hb d_FileTree_storeOrNull_14 rfl (lv_at hl 0 rfl) ?_
      obtain ⟨g_4, h⟩ := h
      refine rg_FileTree_stores E hp g_4 lk_38 d_FileTree_storeOrNull_15 (fun x_3 ex_3 => ?_)
      replace h := h x_3 ex_3
      refine lv_iload_n hx hb d_FileTree_storeOrNull_18 rfl (lv_at hl 1 rfl) ?_
      obtain ⟨g_6, g_7, h⟩ := h
      refine mp_aald (t0 := 2) E hp g_6 (by decide) rfl rfl g_7 d_FileTree_storeOrNull_19 (fun x_5 ex_5 => ?_)
      replace h := h x_5 ex_5
      exact mp_aret E hr (Or.inl ⟨_, rfl⟩) hp hS h d_FileTree_storeOrNull_20
    · replace h := h.2 g_2
      exact t_FileTree_storeOrNull_10 E hr m _ _ _ h hp hS (lv_sub hl [] rfl)
set_option maxHeartbeats 4000000 in
set_option maxRecDepth 100000 in
theorem c_FileTree_storeOrNull (l : Launch) (G : Gc) (m : Mm) (v0 : Nat) (v1 : Int32) (P : Nat → Mm → Prop) (h : wp_FileTree_storeOrNull m v0 v1 P) : Met l y_FileTree_storeOrNull (Cond.code y_FileTree_storeOrNull b_FileTree_storeOrNull 2 (some (.object "MachineLoop$Store")) :: lw_good) rm_FileTree_storeOrNull (Pre9 G m [rn v0, .int v1]) (PoR G P) 0 0 (fr G) := by
  refine Met.ofW (cc := b_FileTree_storeOrNull) (maxL := 2) (ret := (some (.object "MachineLoop$Store"))) (by decide) rfl ?_
  intro p e s mt args below meth c s₁ B hml hv
  obtain ⟨rfl, hp, hC⟩ := hv
  have hts := atoms_spec (ws := Cond.code y_FileTree_storeOrNull b_FileTree_storeOrNull 2 (some (.object "MachineLoop$Store")) :: lw_good) B.pre
  have E : En G R_FileTree b_FileTree_storeOrNull 2 p s mt _ meth c := ⟨B.exec, B.bytes, hml, findClass_of_methodNamed B.named, fun w hw => hts w (List.mem_cons_of_mem _ hw), hC, B.notSynchronized⟩
  have hr := B.returns
  have hl := lv_entry [rn v0, .int v1] (n := 2) (by simp [lg_sl, rn_cat, cat_int, cat_long, cat_ref, cat_null])
  rw [lg_entry_eq]
  generalize (lg_sl [rn v0, .int v1] ++ List.replicate (2 - (lg_sl [rn v0, .int v1]).length) Slot.unset).toArray = ls at hl ⊢
  have hl : lv_has ls 2 [(0, rn v0), (1, .int v1)] := by simpa [lv_args, rn_cat, cat_int, cat_long, cat_ref, cat_null] using hl
  exact t_FileTree_storeOrNull_0 E hr m v0 v1 _ _ _ h hp va_S.rf (lv_sub hl [0, 1] rfl)
abbrev rm_FileTree_isHeldAgainst : Room := { frames := 1, cells := 0, slots := 0, locals := 21 }
set_option maxHeartbeats 4000000 in
set_option maxRecDepth 100000 in
theorem t_FileTree_isHeldAgainst_43 {G : Gc} {P : Int32 → Mm → Prop} (E : En G R_FileTree b_FileTree_isHeldAgainst 5 p s mt args meth c) (hr : meth.sig.returnType = some .boolean) {K2 : Mm → Nat → Nat → Int32 → Int32 → Prop} (hK2 : ∀ (m : Mm) (v0 : Nat) (v1 : Nat) (v2 : Int32) (v3 : Int32) (H : Heap) (locs : List Loc) (ls : Array Slot), K2 m v0 v1 v2 v3 → pic G m H → va_S (fr G) s.heap H locs → lv_has ls 5 [(0, rn v0), (1, rn v1), (2, .int v2), (3, .int v3)] → W p l e rm_FileTree_isHeldAgainst s mt args below meth c H locs 0 0 (MQ below (PoI G P) args s 0 0 (fr G)) (F0 mt 2 ls [])) (m : Mm) (v0 : Nat) (v1 : Nat) (v2 : Int32) (v3 : Int32) (H : Heap) (locs : List Loc) (ls : Array Slot) (h : wp_FileTree_isHeldAgainst_43 K2 P m v0 v1 v2 v3) (hp : pic G m H) (hS : va_S (fr G) s.heap H locs) (hl : lv_has ls 5 [(0, rn v0), (1, rn v1), (2, .int v2), (3, .int v3)]) : W p l e rm_FileTree_isHeldAgainst s mt args below meth c H locs 0 0 (MQ below (PoI G P) args s 0 0 (fr G)) (F0 mt 43 ls []) := by
  have hx := E.1
  have hb := E.2.1
  unfold wp_FileTree_isHeldAgainst_43 at h
  obtain ⟨x_1, ex_1⟩ : ∃ y : Int32, y = v3 + 1 := ⟨_, rfl⟩
  replace h := h x_1 ex_1
  refine lv_iinc (v := x_1) (lv' := [(3, .int x_1), (0, rn v0), (1, rn v1), (2, .int v2)]) hx hb d_FileTree_isHeldAgainst_43 hl (k := 3) rfl (by rw [ex_1]; rfl) (by decide) rfl (fun ls hl => ?_)
  refine lv_goto (tgt := 2) hx hb d_FileTree_isHeldAgainst_46 (by decide) ?_
  exact hK2 m v0 v1 v2 x_1 _ _ _ h hp hS (lv_sub hl [1, 2, 3, 0] rfl)
set_option maxHeartbeats 4000000 in
set_option maxRecDepth 100000 in
theorem t_FileTree_isHeldAgainst_2 {G : Gc} {P : Int32 → Mm → Prop} (E : En G R_FileTree b_FileTree_isHeldAgainst 5 p s mt args meth c) (hr : meth.sig.returnType = some .boolean) : ∀ (n : Nat) (m : Mm) (v0 : Nat) (v1 : Nat) (v2 : Int32) (v3 : Int32) (H : Heap) (locs : List Loc) (ls : Array Slot) (_ : wp_FileTree_isHeldAgainst_2 P n m v0 v1 v2 v3) (_ : pic G m H) (_ : va_S (fr G) s.heap H locs) (_ : lv_has ls 5 [(0, rn v0), (1, rn v1), (2, .int v2), (3, .int v3)]), W p l e rm_FileTree_isHeldAgainst s mt args below meth c H locs 0 0 (MQ below (PoI G P) args s 0 0 (fr G)) (F0 mt 2 ls []) := by
  intro n
  induction n with
  | zero => intro m v0 v1 v2 v3 H locs ls h hp hS hl; exact h.elim
  | succ n ih =>
    intro m v0 v1 v2 v3 H locs ls h hp hS hl
    have hx := E.1
    have hb := E.2.1
    unfold wp_FileTree_isHeldAgainst_2 at h
    refine lv_iload_n hx hb d_FileTree_isHeldAgainst_2 rfl (lv_at hl 3 rfl) ?_
    refine lv_bipush (v := 7) hx hb d_FileTree_isHeldAgainst_3 (by decide) ?_
    refine lv_icmp_gt (tgt := 49) hx hb d_FileTree_isHeldAgainst_5 (by decide) (fun g_1 => ?_) (fun g_1 => ?_)
    · replace h := h.1 g_1
      refine lv_iconst (v := 0) hx hb d_FileTree_isHeldAgainst_49 (by decide) ?_
      exact mp_zret E hr hp hS (by decide) h d_FileTree_isHeldAgainst_50
    · replace h := h.2 g_1
      refine rr_aload_n hx hb d_FileTree_isHeldAgainst_8 rfl (lv_at hl 0 rfl) ?_
      refine lv_iload_n hx hb d_FileTree_isHeldAgainst_9 rfl (lv_at hl 3 rfl) ?_
      obtain ⟨g_4, h⟩ := h
      refine mc_r hS (mc_runV (As := [.int v3]) (rest := []) E (c_FileTree_handleOrNull l G m v0 v3 _ h) wd_FileTree_handleOrNull ⟨lk_114, lk_115, lk_116⟩ rfl rfl ⟨Nat.le_of_ble_eq_true rfl, Nat.le_of_ble_eq_true rfl⟩ hp hS g_4 (by decide) rfl rfl rfl hl.1 rfl (lv_room (Nat.le_of_ble_eq_true rfl)) d_FileTree_isHeldAgainst_10 ⟨Nat.le_of_ble_eq_true rfl, Nat.le_of_ble_eq_true rfl⟩) (fun r_3 m_2 h H locs hp hS => ?_)
      try dsimp only at h
      refine rr_astore (lv' := [(4, rn r_3), (0, rn v0), (1, rn v1), (2, .int v2), (3, .int v3)]) hx hb d_FileTree_isHeldAgainst_13 hl (by decide) rfl (fun ls hl => ?_)
      refine rr_aload hx hb d_FileTree_isHeldAgainst_15 (lv_at hl 0 rfl) ?_
      refine rr_ifnull (tgt := 43) hx hb d_FileTree_isHeldAgainst_17 (by decide) (fun g_5 => ?_) (fun g_5 => ?_)
      · replace h := h.1 g_5
        exact t_FileTree_isHeldAgainst_43 E hr ih m_2 v0 v1 v2 v3 _ _ _ h hp hS (lv_sub hl [1, 2, 3, 4] rfl)
      · replace h := h.2 g_5
        refine rr_aload hx hb d_FileTree_isHeldAgainst_20 (lv_at hl 0 rfl) ?_
        obtain ⟨g_7, h⟩ := h
        refine rg_Handle_store E hp g_7 lk_171 d_FileTree_isHeldAgainst_22 (fun x_6 ex_6 => ?_)
        replace h := h x_6 ex_6
        refine rr_aload_n hx hb d_FileTree_isHeldAgainst_25 rfl (lv_at hl 2 rfl) ?_
        refine rr_acmp_ne (tgt := 43) hx hb d_FileTree_isHeldAgainst_26 (by decide) (fun g_8 => ?_) (fun g_8 => ?_)
        · replace h := h.2 g_8
          exact t_FileTree_isHeldAgainst_43 E hr ih m_2 v0 v1 v2 v3 _ _ _ h hp hS (lv_sub hl [1, 2, 3, 4] rfl)
        · replace h := h.1 g_8
          refine lv_iload_n hx hb d_FileTree_isHeldAgainst_29 rfl (lv_at hl 3 rfl) ?_
          refine lv_if_ne (tgt := 41) hx hb d_FileTree_isHeldAgainst_30 (by decide) (fun g_9 => ?_) (fun g_9 => ?_)
          · replace h := h.2 g_9
            refine lv_iconst (v := 1) hx hb d_FileTree_isHeldAgainst_41 (by decide) ?_
            exact mp_zret E hr hp hS (by decide) h d_FileTree_isHeldAgainst_42
          · replace h := h.1 g_9
            refine rr_aload hx hb d_FileTree_isHeldAgainst_33 (lv_at hl 0 rfl) ?_
            obtain ⟨g_11, h⟩ := h
            refine rg_Handle_mode E hp g_11 lk_172 d_FileTree_isHeldAgainst_35 (fun x_10 ex_10 => ?_)
            replace h := h x_10 ex_10
            refine lv_if_eq (tgt := 43) hx hb d_FileTree_isHeldAgainst_38 (by decide) (fun g_12 => ?_) (fun g_12 => ?_)
            · replace h := h.1 g_12
              exact t_FileTree_isHeldAgainst_43 E hr ih m_2 v0 v1 v2 v3 _ _ _ h hp hS (lv_sub hl [1, 2, 3, 4] rfl)
            · replace h := h.2 g_12
              refine lv_iconst (v := 1) hx hb d_FileTree_isHeldAgainst_41 (by decide) ?_
              exact mp_zret E hr hp hS (by decide) h d_FileTree_isHeldAgainst_42
set_option maxHeartbeats 4000000 in
set_option maxRecDepth 100000 in
theorem t_FileTree_isHeldAgainst_0 {G : Gc} {P : Int32 → Mm → Prop} (E : En G R_FileTree b_FileTree_isHeldAgainst 5 p s mt args meth c) (hr : meth.sig.returnType = some .boolean) (m : Mm) (v0 : Nat) (v1 : Nat) (v2 : Int32) (H : Heap) (locs : List Loc) (ls : Array Slot) (h : wp_FileTree_isHeldAgainst_0 P m v0 v1 v2) (hp : pic G m H) (hS : va_S (fr G) s.heap H locs) (hl : lv_has ls 5 [(0, rn v0), (1, rn v1), (2, .int v2)]) : W p l e rm_FileTree_isHeldAgainst s mt args below meth c H locs 0 0 (MQ below (PoI G P) args s 0 0 (fr G)) (F0 mt 0 ls []) := by
  have hx := E.1
  have hb := E.2.1
  unfold wp_FileTree_isHeldAgainst_0 at h
  refine lv_iconst (v := 2) hx hb d_FileTree_isHeldAgainst_0 (by decide) ?_
  refine lv_istore_n (lv' := [(3, .int 2), (0, rn v0), (1, rn v1), (2, .int v2)]) hx hb d_FileTree_isHeldAgainst_1 rfl hl (by decide) rfl (fun ls hl => ?_)
  obtain ⟨n_1, h⟩ := h
  exact t_FileTree_isHeldAgainst_2 E hr n_1 m v0 v1 v2 2 _ _ _ h hp hS (lv_sub hl [1, 2, 3, 0] rfl)
set_option maxHeartbeats 4000000 in
set_option maxRecDepth 100000 in
theorem c_FileTree_isHeldAgainst (l : Launch) (G : Gc) (m : Mm) (v0 : Nat) (v1 : Nat) (v2 : Int32) (P : Int32 → Mm → Prop) (h : wp_FileTree_isHeldAgainst m v0 v1 v2 P) : Met l y_FileTree_isHeldAgainst (Cond.code y_FileTree_isHeldAgainst b_FileTree_isHeldAgainst 5 (some .boolean) :: lw_good) rm_FileTree_isHeldAgainst (Pre9 G m [rn v0, rn v1, .int v2]) (PoI G P) 0 0 (fr G) := by
  refine Met.ofW (cc := b_FileTree_isHeldAgainst) (maxL := 5) (ret := (some .boolean)) (by decide) rfl ?_
  intro p e s mt args below meth c s₁ B hml hv
  obtain ⟨rfl, hp, hC⟩ := hv
  have hts := atoms_spec (ws := Cond.code y_FileTree_isHeldAgainst b_FileTree_isHeldAgainst 5 (some .boolean) :: lw_good) B.pre
  have E : En G R_FileTree b_FileTree_isHeldAgainst 5 p s mt _ meth c := ⟨B.exec, B.bytes, hml, findClass_of_methodNamed B.named, fun w hw => hts w (List.mem_cons_of_mem _ hw), hC, B.notSynchronized⟩
  have hr := B.returns
  have hl := lv_entry [rn v0, rn v1, .int v2] (n := 5) (by simp [lg_sl, rn_cat, cat_int, cat_long, cat_ref, cat_null])
  rw [lg_entry_eq]
  generalize (lg_sl [rn v0, rn v1, .int v2] ++ List.replicate (5 - (lg_sl [rn v0, rn v1, .int v2]).length) Slot.unset).toArray = ls at hl ⊢
  have hl : lv_has ls 5 [(0, rn v0), (1, rn v1), (2, .int v2)] := by simpa [lv_args, rn_cat, cat_int, cat_long, cat_ref, cat_null] using hl
  exact t_FileTree_isHeldAgainst_0 E hr m v0 v1 v2 _ _ _ h hp va_S.rf (lv_sub hl [0, 1, 2] rfl)
abbrev rm_FileTree_freeHandle : Room := { frames := 1, cells := 0, slots := 0, locals := 21 }
set_option maxHeartbeats 4000000 in
set_option maxRecDepth 100000 in
theorem t_FileTree_freeHandle_27 {G : Gc} {P : Int32 → Mm → Prop} (E : En G R_FileTree b_FileTree_freeHandle 3 p s mt args meth c) (hr : meth.sig.returnType = some .int) {K2 : Mm → Nat → Int32 → Prop} (hK2 : ∀ (m : Mm) (v0 : Nat) (v1 : Int32) (H : Heap) (locs : List Loc) (ls : Array Slot), K2 m v0 v1 → pic G m H → va_S (fr G) s.heap H locs → lv_has ls 3 [(0, rn v0), (1, .int v1)] → W p l e rm_FileTree_freeHandle s mt args below meth c H locs 0 0 (MQ below (PoI G P) args s 0 0 (fr G)) (F0 mt 2 ls [])) (m : Mm) (v0 : Nat) (v1 : Int32) (H : Heap) (locs : List Loc) (ls : Array Slot) (h : wp_FileTree_freeHandle_27 K2 P m v0 v1) (hp : pic G m H) (hS : va_S (fr G) s.heap H locs) (hl : lv_has ls 3 [(0, rn v0), (1, .int v1)]) : W p l e rm_FileTree_freeHandle s mt args below meth c H locs 0 0 (MQ below (PoI G P) args s 0 0 (fr G)) (F0 mt 27 ls []) := by
  have hx := E.1
  have hb := E.2.1
  unfold wp_FileTree_freeHandle_27 at h
  obtain ⟨x_1, ex_1⟩ : ∃ y : Int32, y = v1 + 1 := ⟨_, rfl⟩
  replace h := h x_1 ex_1
  refine lv_iinc (v := x_1) (lv' := [(1, .int x_1), (0, rn v0)]) hx hb d_FileTree_freeHandle_27 hl (k := 1) rfl (by rw [ex_1]; rfl) (by decide) (by simp [rn_cat]) (fun ls hl => ?_)
  refine lv_goto (tgt := 2) hx hb d_FileTree_freeHandle_30 (by decide) ?_
  exact hK2 m v0 x_1 _ _ _ h hp hS (lv_sub hl [1, 0] rfl)
set_option maxHeartbeats 4000000 in
set_option maxRecDepth 100000 in
theorem t_FileTree_freeHandle_2 {G : Gc} {P : Int32 → Mm → Prop} (E : En G R_FileTree b_FileTree_freeHandle 3 p s mt args meth c) (hr : meth.sig.returnType = some .int) : ∀ (n : Nat) (m : Mm) (v0 : Nat) (v1 : Int32) (H : Heap) (locs : List Loc) (ls : Array Slot) (_ : wp_FileTree_freeHandle_2 P n m v0 v1) (_ : pic G m H) (_ : va_S (fr G) s.heap H locs) (_ : lv_has ls 3 [(0, rn v0), (1, .int v1)]), W p l e rm_FileTree_freeHandle s mt args below meth c H locs 0 0 (MQ below (PoI G P) args s 0 0 (fr G)) (F0 mt 2 ls []) := by
  intro n
  induction n with
  | zero => intro m v0 v1 H locs ls h hp hS hl; exact h.elim
  | succ n ih =>
    intro m v0 v1 H locs ls h hp hS hl
    have hx := E.1
    have hb := E.2.1
    unfold wp_FileTree_freeHandle_2 at h
    refine lv_iload_n hx hb d_FileTree_freeHandle_2 rfl (lv_at hl 1 rfl) ?_
    refine lv_bipush (v := 7) hx hb d_FileTree_freeHandle_3 (by decide) ?_
    refine lv_icmp_gt (tgt := 33) hx hb d_FileTree_freeHandle_5 (by decide) (fun g_1 => ?_) (fun g_1 => ?_)
    · replace h := h.1 g_1
      refine lv_iconst (v := (-1)) hx hb d_FileTree_freeHandle_33 (by decide) ?_
      exact mp_iret E hr hp hS h d_FileTree_freeHandle_34
    · replace h := h.2 g_1
      refine rr_aload_n hx hb d_FileTree_freeHandle_8 rfl (lv_at hl 0 rfl) ?_
      refine lv_iload_n hx hb d_FileTree_freeHandle_9 rfl (lv_at hl 1 rfl) ?_
      obtain ⟨g_4, h⟩ := h
      refine mc_r hS (mc_runV (As := [.int v1]) (rest := []) E (c_FileTree_handleOrNull l G m v0 v1 _ h) wd_FileTree_handleOrNull ⟨lk_114, lk_115, lk_116⟩ rfl rfl ⟨Nat.le_of_ble_eq_true rfl, Nat.le_of_ble_eq_true rfl⟩ hp hS g_4 (by decide) rfl rfl rfl hl.1 rfl (lv_room (Nat.le_of_ble_eq_true rfl)) d_FileTree_freeHandle_10 ⟨Nat.le_of_ble_eq_true rfl, Nat.le_of_ble_eq_true rfl⟩) (fun r_3 m_2 h H locs hp hS => ?_)
      try dsimp only at h
      refine rr_astore_n (lv' := [(2, rn r_3), (0, rn v0), (1, .int v1)]) hx hb d_FileTree_freeHandle_13 rfl hl (by decide) rfl (fun ls hl => ?_)
      refine rr_aload_n hx hb d_FileTree_freeHandle_14 rfl (lv_at hl 0 rfl) ?_
      refine rr_ifnull (tgt := 27) hx hb d_FileTree_freeHandle_15 (by decide) (fun g_5 => ?_) (fun g_5 => ?_)
      · replace h := h.1 g_5
        exact t_FileTree_freeHandle_27 E hr ih m_2 v0 v1 _ _ _ h hp hS (lv_sub hl [1, 2] rfl)
      · replace h := h.2 g_5
        refine rr_aload_n hx hb d_FileTree_freeHandle_18 rfl (lv_at hl 0 rfl) ?_
        obtain ⟨g_7, h⟩ := h
        refine rg_Handle_store E hp g_7 lk_171 d_FileTree_freeHandle_19 (fun x_6 ex_6 => ?_)
        replace h := h x_6 ex_6
        refine rr_ifnonnull (tgt := 27) hx hb d_FileTree_freeHandle_22 (by decide) (fun g_8 => ?_) (fun g_8 => ?_)
        · replace h := h.2 g_8
          exact t_FileTree_freeHandle_27 E hr ih m_2 v0 v1 _ _ _ h hp hS (lv_sub hl [1, 2] rfl)
        · replace h := h.1 g_8
          refine lv_iload_n hx hb d_FileTree_freeHandle_25 rfl (lv_at hl 2 rfl) ?_
          exact mp_iret E hr hp hS h d_FileTree_freeHandle_26
set_option maxHeartbeats 4000000 in
set_option maxRecDepth 100000 in
theorem t_FileTree_freeHandle_0 {G : Gc} {P : Int32 → Mm → Prop} (E : En G R_FileTree b_FileTree_freeHandle 3 p s mt args meth c) (hr : meth.sig.returnType = some .int) (m : Mm) (v0 : Nat) (H : Heap) (locs : List Loc) (ls : Array Slot) (h : wp_FileTree_freeHandle_0 P m v0) (hp : pic G m H) (hS : va_S (fr G) s.heap H locs) (hl : lv_has ls 3 [(0, rn v0)]) : W p l e rm_FileTree_freeHandle s mt args below meth c H locs 0 0 (MQ below (PoI G P) args s 0 0 (fr G)) (F0 mt 0 ls []) := by
  have hx := E.1
  have hb := E.2.1
  unfold wp_FileTree_freeHandle_0 at h
  refine lv_iconst (v := 2) hx hb d_FileTree_freeHandle_0 (by decide) ?_
  refine lv_istore_n (lv' := [(1, .int 2), (0, rn v0)]) hx hb d_FileTree_freeHandle_1 rfl hl (by decide) (by simp [rn_cat]) (fun ls hl => ?_)
  obtain ⟨n_1, h⟩ := h
  exact t_FileTree_freeHandle_2 E hr n_1 m v0 2 _ _ _ h hp hS (lv_sub hl [1, 0] rfl)
set_option maxHeartbeats 4000000 in
set_option maxRecDepth 100000 in
theorem c_FileTree_freeHandle (l : Launch) (G : Gc) (m : Mm) (v0 : Nat) (P : Int32 → Mm → Prop) (h : wp_FileTree_freeHandle m v0 P) : Met l y_FileTree_freeHandle (Cond.code y_FileTree_freeHandle b_FileTree_freeHandle 3 (some .int) :: lw_good) rm_FileTree_freeHandle (Pre9 G m [rn v0]) (PoI G P) 0 0 (fr G) := by
  refine Met.ofW (cc := b_FileTree_freeHandle) (maxL := 3) (ret := (some .int)) (by decide) rfl ?_
  intro p e s mt args below meth c s₁ B hml hv
  obtain ⟨rfl, hp, hC⟩ := hv
  have hts := atoms_spec (ws := Cond.code y_FileTree_freeHandle b_FileTree_freeHandle 3 (some .int) :: lw_good) B.pre
  have E : En G R_FileTree b_FileTree_freeHandle 3 p s mt _ meth c := ⟨B.exec, B.bytes, hml, findClass_of_methodNamed B.named, fun w hw => hts w (List.mem_cons_of_mem _ hw), hC, B.notSynchronized⟩
  have hr := B.returns
  have hl := lv_entry [rn v0] (n := 3) (by simp [lg_sl, rn_cat, cat_int, cat_long, cat_ref, cat_null])
  rw [lg_entry_eq]
  generalize (lg_sl [rn v0] ++ List.replicate (3 - (lg_sl [rn v0]).length) Slot.unset).toArray = ls at hl ⊢
  have hl : lv_has ls 3 [(0, rn v0)] := by simpa [lv_args, rn_cat, cat_int, cat_long, cat_ref, cat_null] using hl
  exact t_FileTree_freeHandle_0 E hr m v0 _ _ _ h hp va_S.rf (lv_sub hl [0] rfl)
abbrev rm_Store_makeEmpty : Room := { frames := 0, cells := 0, slots := 0, locals := 0 }
set_option maxHeartbeats 4000000 in
set_option maxRecDepth 100000 in
theorem t_Store_makeEmpty_0 {G : Gc} {P : Mm → Prop} (E : En G R_Store b_Store_makeEmpty 1 p s mt args meth c) (hr : meth.sig.returnType = none) (m : Mm) (v0 : Nat) (H : Heap) (locs : List Loc) (ls : Array Slot) (h : wp_Store_makeEmpty_0 P m v0) (hp : pic G m H) (hS : va_S (fr G) s.heap H locs) (hl : lv_has ls 1 [(0, rn v0)]) : W p l e rm_Store_makeEmpty s mt args below meth c H locs 0 0 (MQ below (PoV G P) args s 0 0 (fr G)) (F0 mt 0 ls []) := by
  have hx := E.1
  have hb := E.2.1
  unfold wp_Store_makeEmpty_0 at h
  refine rr_aload_n hx hb d_Store_makeEmpty_0 rfl (lv_at hl 0 rfl) ?_
  refine lv_iconst (v := 1) hx hb d_Store_makeEmpty_1 (by decide) ?_
  obtain ⟨g_1, h⟩ := h
  refine rp_Store_isThere E hp hS g_1 lk_15 (by decide) d_Store_makeEmpty_2 (fun m_2 em_2 H locs hp hS => ?_)
  replace h := h m_2 em_2
  refine rr_aload_n hx hb d_Store_makeEmpty_5 rfl (lv_at hl 0 rfl) ?_
  refine lv_iconst (v := 0) hx hb d_Store_makeEmpty_6 (by decide) ?_
  obtain ⟨g_3, h⟩ := h
  refine rp_Store_size E hp hS g_3 lk_14 d_Store_makeEmpty_7 (fun m_4 em_4 H locs hp hS => ?_)
  replace h := h m_4 em_4
  exact mp_vret E hr hp hS h d_Store_makeEmpty_10
set_option maxHeartbeats 4000000 in
set_option maxRecDepth 100000 in
theorem c_Store_makeEmpty (l : Launch) (G : Gc) (m : Mm) (v0 : Nat) (P : Mm → Prop) (h : wp_Store_makeEmpty m v0 P) : Met l y_Store_makeEmpty (Cond.code y_Store_makeEmpty b_Store_makeEmpty 1 none :: lw_good) rm_Store_makeEmpty (Pre9 G m [rn v0]) (PoV G P) 0 0 (fr G) := by
  refine Met.ofW (cc := b_Store_makeEmpty) (maxL := 1) (ret := none) (by decide) rfl ?_
  intro p e s mt args below meth c s₁ B hml hv
  obtain ⟨rfl, hp, hC⟩ := hv
  have hts := atoms_spec (ws := Cond.code y_Store_makeEmpty b_Store_makeEmpty 1 none :: lw_good) B.pre
  have E : En G R_Store b_Store_makeEmpty 1 p s mt _ meth c := ⟨B.exec, B.bytes, hml, findClass_of_methodNamed B.named, fun w hw => hts w (List.mem_cons_of_mem _ hw), hC, B.notSynchronized⟩
  have hr := B.returns
  have hl := lv_entry [rn v0] (n := 1) (by simp [lg_sl, rn_cat, cat_int, cat_long, cat_ref, cat_null])
  rw [lg_entry_eq]
  generalize (lg_sl [rn v0] ++ List.replicate (1 - (lg_sl [rn v0]).length) Slot.unset).toArray = ls at hl ⊢
  have hl : lv_has ls 1 [(0, rn v0)] := by simpa [lv_args, rn_cat, cat_int, cat_long, cat_ref, cat_null] using hl
  exact t_Store_makeEmpty_0 E hr m v0 _ _ _ h hp va_S.rf (lv_sub hl [0] rfl)
end WK
