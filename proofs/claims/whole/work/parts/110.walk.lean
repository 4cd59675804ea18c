section WK
variable {p : Program} {l : Launch} {e : Env} {s : State} {mt : MethodId} {args : Array Value} {below : List Frame} {meth : Method} {c : Code}
abbrev rm_Mo_ended : Room := { frames := 1, cells := 0, slots := 0, locals := 22 }
set_option maxHeartbeats 4000000 in
set_option maxRecDepth 100000 in
theorem t_Mo_ended_0 {G : Gc} {P : Int32 → Mm → Prop} (E : En G R_Mo b_Mo_ended 3 p s mt args meth c) (hr : meth.sig.returnType = some .int) (m : Mm) (v0 : Nat) (v1 : Int32) (v2 : Int32) (H : Heap) (locs : List Loc) (ls : Array Slot) (h : wp_Mo_ended_0 P m v0 v1 v2) (hp : pic G m H) (hS : va_S (fr G) s.heap H locs) (hl : lv_has ls 3 [(0, rn v0), (1, .int v1), (2, .int v2)]) : W p l e rm_Mo_ended s mt args below meth c H locs 0 0 (MQ below (PoI G P) args s 0 0 (fr G)) (F0 mt 0 ls []) := by
  have hx := E.1
  have hb := E.2.1
  unfold wp_Mo_ended_0 at h
  refine rr_aload_n hx hb d_Mo_ended_0 rfl (lv_at hl 0 rfl) ?_
  refine lv_iconst (v := 0) hx hb d_Mo_ended_1 (by decide) ?_
  obtain ⟨g_1, h⟩ := h
  refine rp_Mo_code E hp hS g_1 lk_357 d_Mo_ended_2 (fun m_2 em_2 H locs hp hS => ?_)
  replace h := h m_2 em_2
  refine rr_aload_n hx hb d_Mo_ended_5 rfl (lv_at hl 0 rfl) ?_
  refine lv_iload_n hx hb d_Mo_ended_6 rfl (lv_at hl 1 rfl) ?_
  obtain ⟨g_5, h⟩ := h
  refine mc_i hS (mc_runV (As := [.int v1]) (rest := []) E (c_Mo_noJob l G m_2 v0 v1 _ h) wd_Mo_noJob ⟨lk_359, lk_360, lk_361⟩ rfl rfl ⟨Nat.le_of_ble_eq_true rfl, Nat.le_of_ble_eq_true rfl⟩ hp hS g_5 (by decide) rfl rfl rfl hl.1 rfl (lv_room (Nat.le_of_ble_eq_true rfl)) d_Mo_ended_7 ⟨Nat.le_of_ble_eq_true rfl, Nat.le_of_ble_eq_true rfl⟩) (fun r_4 m_3 h H locs hp hS => ?_)
  try dsimp only at h
  refine lv_if_eq (tgt := 17) hx hb d_Mo_ended_10 (by decide) (fun g_6 => ?_) (fun g_6 => ?_)
  · replace h := h.1 g_6
    refine lv_iload_n hx hb d_Mo_ended_17 rfl (lv_at hl 2 rfl) ?_
    refine lv_iconst (v := 0) hx hb d_Mo_ended_18 (by decide) ?_
    refine lv_iconst (v := 5) hx hb d_Mo_ended_19 (by decide) ?_
    refine mc_i hS (mc_runS (As := [.int v2, .int 0, .int 5]) (rest := []) E (c_Mo_in l G m_3 v2 0 5 _ h) wd_Mo_in ⟨lk_362, lk_363⟩ rfl rfl ⟨Nat.le_of_ble_eq_true rfl, Nat.le_of_ble_eq_true rfl⟩ hp hS rfl hl.1 rfl (lv_room (Nat.le_of_ble_eq_true rfl)) d_Mo_ended_20 ⟨Nat.le_of_ble_eq_true rfl, Nat.le_of_ble_eq_true rfl⟩) (fun r_8 m_7 h H locs hp hS => ?_)
    try dsimp only at h
    refine lv_if_eq (tgt := 40) hx hb d_Mo_ended_23 (by decide) (fun g_9 => ?_) (fun g_9 => ?_)
    · replace h := h.1 g_9
      refine lv_bipush (v := (-2)) hx hb d_Mo_ended_40 (by decide) ?_
      exact mp_iret E hr hp hS h d_Mo_ended_42
    · replace h := h.2 g_9
      refine rr_aload_n hx hb d_Mo_ended_26 rfl (lv_at hl 0 rfl) ?_
      obtain ⟨g_11, h⟩ := h
      refine rg_Mo_told E hp g_11 lk_338 d_Mo_ended_27 (fun x_10 ex_10 => ?_)
      replace h := h x_10 ex_10
      refine lv_bipush (v := 6) hx hb d_Mo_ended_30 (by decide) ?_
      refine lv_iload_n hx hb d_Mo_ended_32 rfl (lv_at hl 1 rfl) ?_
      refine lv_imul hx hb d_Mo_ended_33 ?_
      refine lv_topi (fun x_12 ex_12 => ?_)
      replace h := h x_12 ex_12
      refine lv_iload_n hx hb d_Mo_ended_34 rfl (lv_at hl 2 rfl) ?_
      refine lv_iadd hx hb d_Mo_ended_35 ?_
      refine lv_topi (fun x_13 ex_13 => ?_)
      replace h := h x_13 ex_13
      obtain ⟨g_15, g_16, h⟩ := h
      refine mp_iald (t0 := 1) E hp g_15 (by decide) rfl rfl g_16 d_Mo_ended_36 (fun x_14 ex_14 => ?_)
      replace h := h x_14 ex_14
      refine lv_goto (tgt := 42) hx hb d_Mo_ended_37 (by decide) ?_
      exact mp_iret E hr hp hS h d_Mo_ended_42
  · replace h := h.2 g_6
    refine lv_iconst (v := (-1)) hx hb d_Mo_ended_13 (by decide) ?_
    refine lv_goto (tgt := 42) hx hb d_Mo_ended_14 (by decide) ?_
    exact mp_iret E hr hp hS h d_Mo_ended_42
set_option maxHeartbeats 4000000 in
set_option maxRecDepth 100000 in
theorem c_Mo_ended (l : Launch) (G : Gc) (m : Mm) (v0 : Nat) (v1 : Int32) (v2 : Int32) (P : Int32 → Mm → Prop) (h : wp_Mo_ended m v0 v1 v2 P) : Met l y_Mo_ended (Cond.code y_Mo_ended b_Mo_ended 3 (some .int) :: lw_good) rm_Mo_ended (Pre9 G m [rn v0, .int v1, .int v2]) (PoI G P) 0 0 (fr G) := by
  refine Met.ofW (cc := b_Mo_ended) (maxL := 3) (ret := (some .int)) (by decide) rfl ?_
  intro p e s mt args below meth c s₁ B hml hv
  obtain ⟨rfl, hp, hC⟩ := hv
  have hts := atoms_spec (ws := Cond.code y_Mo_ended b_Mo_ended 3 (some .int) :: lw_good) B.pre
  have E : En G R_Mo b_Mo_ended 3 p s mt _ meth c := ⟨B.exec, B.bytes, hml, findClass_of_methodNamed B.named, fun w hw => hts w (List.mem_cons_of_mem _ hw), hC, B.notSynchronized⟩
  have hr := B.returns
  have hl := lv_entry [rn v0, .int v1, .int v2] (n := 3) (by simp [lg_sl, rn_cat, cat_int, cat_long, cat_ref, cat_null])
  rw [lg_entry_eq]
  generalize (lg_sl [rn v0, .int v1, .int v2] ++ List.replicate (3 - (lg_sl [rn v0, .int v1, .int v2]).length) Slot.unset).toArray = ls at hl ⊢
  have hl : lv_has ls 3 [(0, rn v0), (1, .int v1), (2, .int v2)] := by simpa [lv_args, rn_cat, cat_int, cat_long, cat_ref, cat_null] using hl
  exact t_Mo_ended_0 E hr m v0 v1 v2 _ _ _ h hp va_S.rf (lv_sub hl [0, 1, 2] rfl)
abbrev rm_Mo_page : Room := { frames := 1, cells := 0, slots := 0, locals := 21 }
set_option maxHeartbeats 4000000 in
set_option maxRecDepth 100000 in
theorem t_Mo_page_32 {G : Gc} {P : Int32 → Mm → Prop} (E : En G R_Mo b_Mo_page 3 p s mt args meth c) (hr : meth.sig.returnType = some .int) (m : Mm) (H : Heap) (locs : List Loc) (ls : Array Slot) (h : wp_Mo_page_32 P m) (hp : pic G m H) (hS : va_S (fr G) s.heap H locs) (hl : lv_has ls 3 []) : W p l e rm_Mo_page s mt args below meth c H locs 0 0 (MQ below (PoI G P) args s 0 0 (fr G)) (F0 mt 32 ls []) := by
  have hx := E.1
  have hb := E.2.1
  unfold wp_Mo_page_32 at h
  refine lv_iconst (v := 0) hx hb d_Mo_page_32 (by decide) ?_
  refine lv_goto (tgt := 47) hx hb d_Mo_page_33 (by decide) ?_
  exact mp_iret E hr hp hS h d_Mo_page_47
set_option maxHeartbeats 4000000 in
set_option maxRecDepth 100000 in
theorem t_Mo_page_0 {G : Gc} {P : Int32 → Mm → Prop} (E : En G R_Mo b_Mo_page 3 p s mt args meth c) (hr : meth.sig.returnType = some .int) (m : Mm) (v0 : Nat) (v1 : Int32) (v2 : Int32) (H : Heap) (locs : List Loc) (ls : Array Slot) (h : wp_Mo_page_0 P m v0 v1 v2) (hp : pic G m H) (hS : va_S (fr G) s.heap H locs) (hl : lv_has ls 3 [(0, rn v0), (1, .int v1), (2, .int v2)]) : W p l e rm_Mo_page s mt args below meth c H locs 0 0 (MQ below (PoI G P) args s 0 0 (fr G)) (F0 mt 0 ls []) := by
  have hx := E.1
  have hb := E.2.1
  unfold wp_Mo_page_0 at h
  refine rr_aload_n hx hb d_Mo_page_0 rfl (lv_at hl 0 rfl) ?_
  refine lv_iconst (v := 0) hx hb d_Mo_page_1 (by decide) ?_
  obtain ⟨g_1, h⟩ := h
  refine rp_Mo_code E hp hS g_1 lk_357 d_Mo_page_2 (fun m_2 em_2 H locs hp hS => ?_)
  replace h := h m_2 em_2
  refine rr_aload_n hx hb d_Mo_page_5 rfl (lv_at hl 0 rfl) ?_
  refine lv_iload_n hx hb d_Mo_page_6 rfl (lv_at hl 1 rfl) ?_
  obtain ⟨g_5, h⟩ := h
  refine mc_i hS (mc_runV (As := [.int v1]) (rest := []) E (c_Mo_noJob l G m_2 v0 v1 _ h) wd_Mo_noJob ⟨lk_359, lk_360, lk_361⟩ rfl rfl ⟨Nat.le_of_ble_eq_true rfl, Nat.le_of_ble_eq_true rfl⟩ hp hS g_5 (by decide) rfl rfl rfl hl.1 rfl (lv_room (Nat.le_of_ble_eq_true rfl)) d_Mo_page_7 ⟨Nat.le_of_ble_eq_true rfl, Nat.le_of_ble_eq_true rfl⟩) (fun r_4 m_3 h H locs hp hS => ?_)
  try dsimp only at h
  refine lv_if_ne (tgt := 32) hx hb d_Mo_page_10 (by decide) (fun g_6 => ?_) (fun g_6 => ?_)
  · replace h := h.2 g_6
    exact t_Mo_page_32 E hr m_3 _ _ _ h hp hS (lv_sub hl [] rfl)
  · replace h := h.1 g_6
    refine lv_iload_n hx hb d_Mo_page_13 rfl (lv_at hl 2 rfl) ?_
    refine lv_if_lt (tgt := 32) hx hb d_Mo_page_14 (by decide) (fun g_7 => ?_) (fun g_7 => ?_)
    · replace h := h.1 g_7
      exact t_Mo_page_32 E hr m_3 _ _ _ h hp hS (lv_sub hl [] rfl)
    · replace h := h.2 g_7
      refine lv_iload_n hx hb d_Mo_page_17 rfl (lv_at hl 2 rfl) ?_
      refine rr_aload_n hx hb d_Mo_page_18 rfl (lv_at hl 0 rfl) ?_
      obtain ⟨g_9, h⟩ := h
      refine rg_Mo_told E hp g_9 lk_338 d_Mo_page_19 (fun x_8 ex_8 => ?_)
      replace h := h x_8 ex_8
      refine lv_bipush (v := 6) hx hb d_Mo_page_22 (by decide) ?_
      refine lv_iload_n hx hb d_Mo_page_24 rfl (lv_at hl 1 rfl) ?_
      refine lv_imul hx hb d_Mo_page_25 ?_
      refine lv_topi (fun x_10 ex_10 => ?_)
      replace h := h x_10 ex_10
      refine lv_iconst (v := 3) hx hb d_Mo_page_26 (by decide) ?_
      refine lv_iadd hx hb d_Mo_page_27 ?_
      refine lv_topi (fun x_11 ex_11 => ?_)
      replace h := h x_11 ex_11
      obtain ⟨g_13, g_14, h⟩ := h
      refine mp_iald (t0 := 1) E hp g_13 (by decide) rfl rfl g_14 d_Mo_page_28 (fun x_12 ex_12 => ?_)
      replace h := h x_12 ex_12
      refine lv_icmp_lt (tgt := 36) hx hb d_Mo_page_29 (by decide) (fun g_15 => ?_) (fun g_15 => ?_)
      · replace h := h.1 g_15
        refine rr_aload_n hx hb d_Mo_page_36 rfl (lv_at hl 0 rfl) ?_
        obtain ⟨g_17, h⟩ := h
        refine rg_Mo_pages E hp g_17 lk_339 d_Mo_page_37 (fun x_16 ex_16 => ?_)
        replace h := h x_16 ex_16
        refine lv_bipush (v := 40) hx hb d_Mo_page_40 (by decide) ?_
        refine lv_iload_n hx hb d_Mo_page_42 rfl (lv_at hl 1 rfl) ?_
        refine lv_imul hx hb d_Mo_page_43 ?_
        refine lv_topi (fun x_18 ex_18 => ?_)
        replace h := h x_18 ex_18
        refine lv_iload_n hx hb d_Mo_page_44 rfl (lv_at hl 2 rfl) ?_
        refine lv_iadd hx hb d_Mo_page_45 ?_
        refine lv_topi (fun x_19 ex_19 => ?_)
        replace h := h x_19 ex_19
        obtain ⟨g_21, g_22, h⟩ := h
        refine mp_iald (t0 := 1) E hp g_21 (by decide) rfl rfl g_22 d_Mo_page_46 (fun x_20 ex_20 => ?_)
        replace h := h x_20 ex_20
        exact mp_iret E hr hp hS h d_Mo_page_47
      · replace h := h.2 g_15
        exact t_Mo_page_32 E hr m_3 _ _ _ h hp hS (lv_sub hl [] rfl)
set_option maxHeartbeats 4000000 in
set_option maxRecDepth 100000 in
theorem c_Mo_page (l : Launch) (G : Gc) (m : Mm) (v0 : Nat) (v1 : Int32) (v2 : Int32) (P : Int32 → Mm → Prop) (h : wp_Mo_page m v0 v1 v2 P) : Met l y_Mo_page (Cond.code y_Mo_page b_Mo_page 3 (some .int) :: lw_good) rm_Mo_page (Pre9 G m [rn v0, .int v1, .int v2]) (PoI G P) 0 0 (fr G) := by
  refine Met.ofW (cc := b_Mo_page) (maxL := 3) (ret := (some .int)) (by decide) rfl ?_
  intro p e s mt args below meth c s₁ B hml hv
  obtain ⟨rfl, hp, hC⟩ := hv
  have hts := atoms_spec (ws := Cond.code y_Mo_page b_Mo_page 3 (some .int) :: lw_good) B.pre
  have E : En G R_Mo b_Mo_page 3 p s mt _ meth c := ⟨B.exec, B.bytes, hml, findClass_of_methodNamed B.named, fun w hw => hts w (List.mem_cons_of_mem _ hw), hC, B.notSynchronized⟩
  have hr := B.returns
  have hl := lv_entry [rn v0, .int v1, .int v2] (n := 3) (by simp [lg_sl, rn_cat, cat_int, cat_long, cat_ref, cat_null])
  rw [lg_entry_eq]
  generalize (lg_sl [rn v0, .int v1, .int v2] ++ List.replicate (3 - (lg_sl [rn v0, .int v1, .int v2]).length) Slot.unset).toArray = ls at hl ⊢
  have hl : lv_has ls 3 [(0, rn v0), (1, .int v1), (2, .int v2)] := by simpa [lv_args, rn_cat, cat_int, cat_long, cat_ref, cat_null] using hl
  exact t_Mo_page_0 E hr m v0 v1 v2 _ _ _ h hp va_S.rf (lv_sub hl [0, 1, 2] rfl)
abbrev rm_Mo_isSetting : Room := { frames := 1, cells := 0, slots := 0, locals := 22 }
set_option maxHeartbeats 4000000 in
set_option maxRecDepth 100000 in
theorem t_Mo_isSetting_38 {G : Gc} {P : Int32 → Mm → Prop} (E : En G R_Mo b_Mo_isSetting 2 p s mt args meth c) (hr : meth.sig.returnType = some .boolean) (m : Mm) (v1 : Int32) (H : Heap) (locs : List Loc) (ls : Array Slot) (h : wp_Mo_isSetting_38 P m v1) (hp : pic G m H) (hS : va_S (fr G) s.heap H locs) (hl : lv_has ls 2 [(1, .int v1)]) : W p l e rm_Mo_isSetting s mt args below meth c H locs 0 0 (MQ below (PoI G P) args s 0 0 (fr G)) (F0 mt 38 ls []) := by
  have hx := E.1
  have hb := E.2.1
  unfold wp_Mo_isSetting_38 at h
  refine lv_iload_n hx hb d_Mo_isSetting_38 rfl (lv_at hl 0 rfl) ?_
  refine lv_iconst (v := 0) hx hb d_Mo_isSetting_39 (by decide) ?_
  refine lv_iconst (v := 1) hx hb d_Mo_isSetting_40 (by decide) ?_
  refine mc_i hS (mc_runS (As := [.int v1, .int 0, .int 1]) (rest := []) E (c_Mo_in l G m v1 0 1 _ h) wd_Mo_in ⟨lk_362, lk_363⟩ rfl rfl ⟨Nat.le_of_ble_eq_true rfl, Nat.le_of_ble_eq_true rfl⟩ hp hS rfl hl.1 rfl (lv_room (Nat.le_of_ble_eq_true rfl)) d_Mo_isSetting_41 ⟨Nat.le_of_ble_eq_true rfl, Nat.le_of_ble_eq_true rfl⟩) (fun r_2 m_1 h H locs hp hS => ?_)
  try dsimp only at h
  refine lv_if_eq (tgt := 51) hx hb d_Mo_isSetting_44 (by decide) (fun g_3 => ?_) (fun g_3 => ?_)
  · replace h := h.1 g_3
    refine lv_iconst (v := 0) hx hb d_Mo_isSetting_51 (by decide) ?_
    exact mp_zret E hr hp hS (by decide) h d_Mo_isSetting_52
  · replace h := h.2 g_3
    refine lv_iconst (v := 1) hx hb d_Mo_isSetting_47 (by decide) ?_
    refine lv_goto (tgt := 52) hx hb d_Mo_isSetting_48 (by decide) ?_
    exact mp_zret E hr hp hS (by decide) h d_Mo_isSetting_52
set_option maxHeartbeats 4000000 in
set_option maxRecDepth 100000 in
theorem t_Mo_isSetting_0 {G : Gc} {P : Int32 → Mm → Prop} (E : En G R_Mo b_Mo_isSetting 2 p s mt args meth c) (hr : meth.sig.returnType = some .boolean) (m : Mm) (v0 : Int32) (v1 : Int32) (H : Heap) (locs : List Loc) (ls : Array Slot) (h : wp_Mo_isSetting_0 P m v0 v1) (hp : pic G m H) (hS : va_S (fr G) s.heap H locs) (hl : lv_has ls 2 [(0, .int v0), (1, .int v1)]) : W p l e rm_Mo_isSetting s mt args below meth c H locs 0 0 (MQ below (PoI G P) args s 0 0 (fr G)) (F0 mt 0 ls []) := by
  have hx := E.1
  have hb := E.2.1
  unfold wp_Mo_isSetting_0 at h
  refine lv_iload_n hx hb d_Mo_isSetting_0 rfl (lv_at hl 0 rfl) ?_
  refine lv_if_ne (tgt := 13) hx hb d_Mo_isSetting_1 (by decide) (fun g_1 => ?_) (fun g_1 => ?_)
  · replace h := h.2 g_1
    refine lv_iload_n hx hb d_Mo_isSetting_13 rfl (lv_at hl 0 rfl) ?_
    refine lv_iconst (v := 1) hx hb d_Mo_isSetting_14 (by decide) ?_
    refine lv_icmp_ne (tgt := 28) hx hb d_Mo_isSetting_15 (by decide) (fun g_2 => ?_) (fun g_2 => ?_)
    · replace h := h.2 g_2
      refine lv_iload_n hx hb d_Mo_isSetting_28 rfl (lv_at hl 0 rfl) ?_
      refine lv_iconst (v := 2) hx hb d_Mo_isSetting_29 (by decide) ?_
      refine lv_icmp_eq (tgt := 38) hx hb d_Mo_isSetting_30 (by decide) (fun g_3 => ?_) (fun g_3 => ?_)
      · replace h := h.1 g_3
        exact t_Mo_isSetting_38 E hr m v1 _ _ _ h hp hS (lv_sub hl [1] rfl)
      · replace h := h.2 g_3
        refine lv_iload_n hx hb d_Mo_isSetting_33 rfl (lv_at hl 0 rfl) ?_
        refine lv_iconst (v := 3) hx hb d_Mo_isSetting_34 (by decide) ?_
        refine lv_icmp_ne (tgt := 51) hx hb d_Mo_isSetting_35 (by decide) (fun g_4 => ?_) (fun g_4 => ?_)
        · replace h := h.2 g_4
          refine lv_iconst (v := 0) hx hb d_Mo_isSetting_51 (by decide) ?_
          exact mp_zret E hr hp hS (by decide) h d_Mo_isSetting_52
        · replace h := h.1 g_4
          exact t_Mo_isSetting_38 E hr m v1 _ _ _ h hp hS (lv_sub hl [1] rfl)
    · replace h := h.1 g_2
      refine lv_iload_n hx hb d_Mo_isSetting_18 rfl (lv_at hl 1 rfl) ?_
      refine lv_iconst (v := 1) hx hb d_Mo_isSetting_19 (by decide) ?_
      refine lv_bipush (v := 9) hx hb d_Mo_isSetting_20 (by decide) ?_
      refine mc_i hS (mc_runS (As := [.int v1, .int 1, .int 9]) (rest := []) E (c_Mo_in l G m v1 1 9 _ h) wd_Mo_in ⟨lk_362, lk_363⟩ rfl rfl ⟨Nat.le_of_ble_eq_true rfl, Nat.le_of_ble_eq_true rfl⟩ hp hS rfl hl.1 rfl (lv_room (Nat.le_of_ble_eq_true rfl)) d_Mo_isSetting_22 ⟨Nat.le_of_ble_eq_true rfl, Nat.le_of_ble_eq_true rfl⟩) (fun r_6 m_5 h H locs hp hS => ?_)
      try dsimp only at h
      refine lv_goto (tgt := 52) hx hb d_Mo_isSetting_25 (by decide) ?_
      exact mp_zret E hr hp hS (by rcases h.1 with e0 | e0 <;> rw [e0] <;> decide) h.2 d_Mo_isSetting_52
  · replace h := h.1 g_1
    refine lv_iload_n hx hb d_Mo_isSetting_4 rfl (lv_at hl 1 rfl) ?_
    refine lv_iconst (v := 0) hx hb d_Mo_isSetting_5 (by decide) ?_
    refine lv_iconst (v := 3) hx hb d_Mo_isSetting_6 (by decide) ?_
    refine mc_i hS (mc_runS (As := [.int v1, .int 0, .int 3]) (rest := []) E (c_Mo_in l G m v1 0 3 _ h) wd_Mo_in ⟨lk_362, lk_363⟩ rfl rfl ⟨Nat.le_of_ble_eq_true rfl, Nat.le_of_ble_eq_true rfl⟩ hp hS rfl hl.1 rfl (lv_room (Nat.le_of_ble_eq_true rfl)) d_Mo_isSetting_7 ⟨Nat.le_of_ble_eq_true rfl, Nat.le_of_ble_eq_true rfl⟩) (fun r_8 m_7 h H locs hp hS => ?_)
    try dsimp only at h
    refine lv_goto (tgt := 52) hx hb d_Mo_isSetting_10 (by decide) ?_
    exact mp_zret E hr hp hS (by rcases h.1 with e0 | e0 <;> rw [e0] <;> decide) h.2 d_Mo_isSetting_52
set_option maxHeartbeats 4000000 in
set_option maxRecDepth 100000 in
theorem c_Mo_isSetting (l : Launch) (G : Gc) (m : Mm) (v0 : Int32) (v1 : Int32) (P : Int32 → Mm → Prop) (h : wp_Mo_isSetting m v0 v1 P) : Met l y_Mo_isSetting (Cond.code y_Mo_isSetting b_Mo_isSetting 2 (some .boolean) :: lw_good) rm_Mo_isSetting (Pre9 G m [.int v0, .int v1]) (PoI G P) 0 0 (fr G) := by
  refine Met.ofW (cc := b_Mo_isSetting) (maxL := 2) (ret := (some .boolean)) (by decide) rfl ?_
  intro p e s mt args below meth c s₁ B hml hv
  obtain ⟨rfl, hp, hC⟩ := hv
  have hts := atoms_spec (ws := Cond.code y_Mo_isSetting b_Mo_isSetting 2 (some .boolean) :: lw_good) B.pre
  have E : En G R_Mo b_Mo_isSetting 2 p s mt _ meth c := ⟨B.exec, B.bytes, hml, findClass_of_methodNamed B.named, fun w hw => hts w (List.mem_cons_of_mem _ hw), hC, B.notSynchronized⟩
  have hr := B.returns
  have hl := lv_entry [.int v0, .int v1] (n := 2) (by simp [lg_sl, rn_cat, cat_int, cat_long, cat_ref, cat_null])
  rw [lg_entry_eq]
  generalize (lg_sl [.int v0, .int v1] ++ List.replicate (2 - (lg_sl [.int v0, .int v1]).length) Slot.unset).toArray = ls at hl ⊢
  have hl : lv_has ls 2 [(0, .int v0), (1, .int v1)] := by simpa [lv_args, rn_cat, cat_int, cat_long, cat_ref, cat_null] using hl
  exact t_Mo_isSetting_0 E hr m v0 v1 _ _ _ h hp va_S.rf (lv_sub hl [0, 1] rfl)
abbrev rm_Mo_device : Room := { frames := 2, cells := 0, slots := 0, locals := 43 }
set_option maxHeartbeats 4000000 in
set_option maxRecDepth 100000 in
theorem t_Mo_device_0 {G : Gc} {P : Int32 → Mm → Prop} (E : En G R_Mo b_Mo_device 3 p s mt args meth c) (hr : meth.sig.returnType = some .int) (m : Mm) (v0 : Nat) (v1 : Int32) (v2 : Int32) (H : Heap) (locs : List Loc) (ls : Array Slot) (h : wp_Mo_device_0 P m v0 v1 v2) (hp : pic G m H) (hS : va_S (fr G) s.heap H locs) (hl : lv_has ls 3 [(0, rn v0), (1, .int v1), (2, .int v2)]) : W p l e rm_Mo_device s mt args below meth c H locs 0 0 (MQ below (PoI G P) args s 0 0 (fr G)) (F0 mt 0 ls []) := by
  have hx := E.1
  have hb := E.2.1
  unfold wp_Mo_device_0 at h
  refine rr_aload_n hx hb d_Mo_device_0 rfl (lv_at hl 0 rfl) ?_
  refine lv_iconst (v := 0) hx hb d_Mo_device_1 (by decide) ?_
  obtain ⟨g_1, h⟩ := h
  refine rp_Mo_code E hp hS g_1 lk_357 d_Mo_device_2 (fun m_2 em_2 H locs hp hS => ?_)
  replace h := h m_2 em_2
  refine lv_iload_n hx hb d_Mo_device_5 rfl (lv_at hl 1 rfl) ?_
  refine lv_iload_n hx hb d_Mo_device_6 rfl (lv_at hl 2 rfl) ?_
  refine mc_i hS (mc_runS (As := [.int v1, .int v2]) (rest := []) E (c_Mo_isSetting l G m_2 v1 v2 _ h) wd_Mo_isSetting ⟨lk_364, lk_365⟩ rfl rfl ⟨Nat.le_of_ble_eq_true rfl, Nat.le_of_ble_eq_true rfl⟩ hp hS rfl hl.1 rfl (lv_room (Nat.le_of_ble_eq_true rfl)) d_Mo_device_7 ⟨Nat.le_of_ble_eq_true rfl, Nat.le_of_ble_eq_true rfl⟩) (fun r_4 m_3 h H locs hp hS => ?_)
  try dsimp only at h
  refine lv_if_ne (tgt := 15) hx hb d_Mo_device_10 (by decide) (fun g_5 => ?_) (fun g_5 => ?_)
  · replace h := h.2 g_5
    refine rr_aload_n hx hb d_Mo_device_15 rfl (lv_at hl 0 rfl) ?_
    obtain ⟨g_7, h⟩ := h
    refine rg_Mo_setting E hp g_7 lk_340 d_Mo_device_16 (fun x_6 ex_6 => ?_)
    replace h := h x_6 ex_6
    refine lv_iload_n hx hb d_Mo_device_19 rfl (lv_at hl 1 rfl) ?_
    refine lv_iload_n hx hb d_Mo_device_20 rfl (lv_at hl 2 rfl) ?_
    obtain ⟨g_8, g_9, h⟩ := h
    refine mp_iast (t0 := 1) E hp hS g_8 (by decide) rfl cw_32 rfl g_9 d_Mo_device_21 (fun m_10 em_10 H locs hp hS => ?_)
    replace h := h m_10 em_10
    refine lv_iconst (v := 1) hx hb d_Mo_device_22 (by decide) ?_
    exact mp_iret E hr hp hS h d_Mo_device_23
  · replace h := h.1 g_5
    refine lv_iconst (v := 0) hx hb d_Mo_device_13 (by decide) ?_
    exact mp_iret E hr hp hS h d_Mo_device_14
set_option maxHeartbeats 4000000 in
set_option maxRecDepth 100000 in
theorem c_Mo_device (l : Launch) (G : Gc) (m : Mm) (v0 : Nat) (v1 : Int32) (v2 : Int32) (P : Int32 → Mm → Prop) (h : wp_Mo_device m v0 v1 v2 P) : Met l y_Mo_device (Cond.code y_Mo_device b_Mo_device 3 (some .int) :: lw_good) rm_Mo_device (Pre9 G m [rn v0, .int v1, .int v2]) (PoI G P) 0 0 (fr G) := by
  refine Met.ofW (cc := b_Mo_device) (maxL := 3) (ret := (some .int)) (by decide) rfl ?_
  intro p e s mt args below meth c s₁ B hml hv
  obtain ⟨rfl, hp, hC⟩ := hv
  have hts := atoms_spec (ws := Cond.code y_Mo_device b_Mo_device 3 (some .int) :: lw_good) B.pre
  have E : En G R_Mo b_Mo_device 3 p s mt _ meth c := ⟨B.exec, B.bytes, hml, findClass_of_methodNamed B.named, fun w hw => hts w (List.mem_cons_of_mem _ hw), hC, B.notSynchronized⟩
  have hr := B.returns
  have hl := lv_entry [rn v0, .int v1, .int v2] (n := 3) (by simp [lg_sl, rn_cat, cat_int, cat_long, cat_ref, cat_null])
  rw [lg_entry_eq]
  generalize (lg_sl [rn v0, .int v1, .int v2] ++ List.replicate (3 - (lg_sl [rn v0, .int v1, .int v2]).length) Slot.unset).toArray = ls at hl ⊢
  have hl : lv_has ls 3 [(0, rn v0), (1, .int v1), (2, .int v2)] := by simpa [lv_args, rn_cat, cat_int, cat_long, cat_ref, cat_null] using hl
  exact t_Mo_device_0 E hr m v0 v1 v2 _ _ _ h hp va_S.rf (lv_sub hl [0, 1, 2] rfl)
abbrev rm_Mo_define : Room := { frames := 1, cells := 0, slots := 0, locals := 22 }
set_option maxHeartbeats 4000000 in
set_option maxRecDepth 100000 in
theorem t_Mo_define_0 {G : Gc} {P : Int32 → Mm → Prop} (E : En G R_Mo b_Mo_define 4 p s mt args meth c) (hr : meth.sig.returnType = some .int) (m : Mm) (v0 : Nat) (v1 : Int32) (v2 : Int32) (v3 : Int32) (H : Heap) (locs : List Loc) (ls : Array Slot) (h : wp_Mo_define_0 P m v0 v1 v2 v3) (hp : pic G m H) (hS : va_S (fr G) s.heap H locs) (hl : lv_has ls 4 [(0, rn v0), (1, .int v1), (2, .int v2), (3, .int v3)]) : W p l e rm_Mo_define s mt args below meth c H locs 0 0 (MQ below (PoI G P) args s 0 0 (fr G)) (F0 mt 0 ls []) := by
  have hx := E.1
  have hb := E.2.1
  unfold wp_Mo_define_0 at h
  refine rr_aload_n hx hb d_Mo_define_0 rfl (lv_at hl 0 rfl) ?_
  refine lv_iconst (v := 0) hx hb d_Mo_define_1 (by decide) ?_
  obtain ⟨g_1, h⟩ := h
  refine rp_Mo_code E hp hS g_1 lk_357 d_Mo_define_2 (fun m_2 em_2 H locs hp hS => ?_)
  replace h := h m_2 em_2
  refine lv_iload_n hx hb d_Mo_define_5 rfl (lv_at hl 1 rfl) ?_
  refine lv_iconst (v := 0) hx hb d_Mo_define_6 (by decide) ?_
  refine lv_iconst (v := 3) hx hb d_Mo_define_7 (by decide) ?_
  refine mc_i hS (mc_runS (As := [.int v1, .int 0, .int 3]) (rest := []) E (c_Mo_in l G m_2 v1 0 3 _ h) wd_Mo_in ⟨lk_362, lk_363⟩ rfl rfl ⟨Nat.le_of_ble_eq_true rfl, Nat.le_of_ble_eq_true rfl⟩ hp hS rfl hl.1 rfl (lv_room (Nat.le_of_ble_eq_true rfl)) d_Mo_define_8 ⟨Nat.le_of_ble_eq_true rfl, Nat.le_of_ble_eq_true rfl⟩) (fun r_4 m_3 h H locs hp hS => ?_)
  try dsimp only at h
  refine lv_if_eq (tgt := 24) hx hb d_Mo_define_11 (by decide) (fun g_5 => ?_) (fun g_5 => ?_)
  · replace h := h.1 g_5
    refine lv_iconst (v := (-1)) hx hb d_Mo_define_24 (by decide) ?_
    exact mp_iret E hr hp hS h d_Mo_define_25
  · replace h := h.2 g_5
    refine lv_iload_n hx hb d_Mo_define_14 rfl (lv_at hl 2 rfl) ?_
    refine lv_iconst (v := 0) hx hb d_Mo_define_15 (by decide) ?_
    refine lv_bipush (v := 9) hx hb d_Mo_define_16 (by decide) ?_
    refine mc_i hS (mc_runS (As := [.int v2, .int 0, .int 9]) (rest := []) E (c_Mo_in l G m_3 v2 0 9 _ h) wd_Mo_in ⟨lk_362, lk_363⟩ rfl rfl ⟨Nat.le_of_ble_eq_true rfl, Nat.le_of_ble_eq_true rfl⟩ hp hS rfl hl.1 rfl (lv_room (Nat.le_of_ble_eq_true rfl)) d_Mo_define_18 ⟨Nat.le_of_ble_eq_true rfl, Nat.le_of_ble_eq_true rfl⟩) (fun r_7 m_6 h H locs hp hS => ?_)
    try dsimp only at h
    refine lv_if_ne (tgt := 26) hx hb d_Mo_define_21 (by decide) (fun g_8 => ?_) (fun g_8 => ?_)
    · replace h := h.2 g_8
      refine lv_iload_n hx hb d_Mo_define_26 rfl (lv_at hl 3 rfl) ?_
      refine lv_iconst (v := 0) hx hb d_Mo_define_27 (by decide) ?_
      refine lv_sipush (v := 9999) hx hb d_Mo_define_28 (by decide) ?_
      refine mc_i hS (mc_runS (As := [.int v3, .int 0, .int 9999]) (rest := []) E (c_Mo_in l G m_6 v3 0 9999 _ h) wd_Mo_in ⟨lk_362, lk_363⟩ rfl rfl ⟨Nat.le_of_ble_eq_true rfl, Nat.le_of_ble_eq_true rfl⟩ hp hS rfl hl.1 rfl (lv_room (Nat.le_of_ble_eq_true rfl)) d_Mo_define_31 ⟨Nat.le_of_ble_eq_true rfl, Nat.le_of_ble_eq_true rfl⟩) (fun r_10 m_9 h H locs hp hS => ?_)
      try dsimp only at h
      refine lv_if_ne (tgt := 40) hx hb d_Mo_define_34 (by decide) (fun g_11 => ?_) (fun g_11 => ?_)
      · replace h := h.2 g_11
        refine rr_aload_n hx hb d_Mo_define_40 rfl (lv_at hl 0 rfl) ?_
        obtain ⟨g_13, h⟩ := h
        refine rg_Mo_resource E hp g_13 lk_333 d_Mo_define_41 (fun x_12 ex_12 => ?_)
        replace h := h x_12 ex_12
        refine lv_bipush (v := 10) hx hb d_Mo_define_44 (by decide) ?_
        refine lv_iload_n hx hb d_Mo_define_46 rfl (lv_at hl 1 rfl) ?_
        refine lv_imul hx hb d_Mo_define_47 ?_
        refine lv_topi (fun x_14 ex_14 => ?_)
        replace h := h x_14 ex_14
        refine lv_iload_n hx hb d_Mo_define_48 rfl (lv_at hl 2 rfl) ?_
        refine lv_iadd hx hb d_Mo_define_49 ?_
        refine lv_topi (fun x_15 ex_15 => ?_)
        replace h := h x_15 ex_15
        refine lv_iload_n hx hb d_Mo_define_50 rfl (lv_at hl 3 rfl) ?_
        obtain ⟨g_16, g_17, h⟩ := h
        refine mp_iast (t0 := 1) E hp hS g_16 (by decide) rfl cw_33 rfl g_17 d_Mo_define_51 (fun m_18 em_18 H locs hp hS => ?_)
        replace h := h m_18 em_18
        refine lv_iconst (v := 1) hx hb d_Mo_define_52 (by decide) ?_
        exact mp_iret E hr hp hS h d_Mo_define_53
      · replace h := h.1 g_11
        refine lv_bipush (v := (-2)) hx hb d_Mo_define_37 (by decide) ?_
        exact mp_iret E hr hp hS h d_Mo_define_39
    · replace h := h.1 g_8
      refine lv_iconst (v := (-1)) hx hb d_Mo_define_24 (by decide) ?_
      exact mp_iret E hr hp hS h d_Mo_define_25
set_option maxHeartbeats 4000000 in
set_option maxRecDepth 100000 in
theorem c_Mo_define (l : Launch) (G : Gc) (m : Mm) (v0 : Nat) (v1 : Int32) (v2 : Int32) (v3 : Int32) (P : Int32 → Mm → Prop) (h : wp_Mo_define m v0 v1 v2 v3 P) : Met l y_Mo_define (Cond.code y_Mo_define b_Mo_define 4 (some .int) :: lw_good) rm_Mo_define (Pre9 G m [rn v0, .int v1, .int v2, .int v3]) (PoI G P) 0 0 (fr G) := by
  refine Met.ofW (cc := b_Mo_define) (maxL := 4) (ret := (some .int)) (by decide) rfl ?_
  intro p e s mt args below meth c s₁ B hml hv
  obtain ⟨rfl, hp, hC⟩ := hv
  have hts := atoms_spec (ws := Cond.code y_Mo_define b_Mo_define 4 (some .int) :: lw_good) B.pre
  have E : En G R_Mo b_Mo_define 4 p s mt _ meth c := ⟨B.exec, B.bytes, hml, findClass_of_methodNamed B.named, fun w hw => hts w (List.mem_cons_of_mem _ hw), hC, B.notSynchronized⟩
  have hr := B.returns
  have hl := lv_entry [rn v0, .int v1, .int v2, .int v3] (n := 4) (by simp [lg_sl, rn_cat, cat_int, cat_long, cat_ref, cat_null])
  rw [lg_entry_eq]
  generalize (lg_sl [rn v0, .int v1, .int v2, .int v3] ++ List.replicate (4 - (lg_sl [rn v0, .int v1, .int v2, .int v3]).length) Slot.unset).toArray = ls at hl ⊢
  have hl : lv_has ls 4 [(0, rn v0), (1, .int v1), (2, .int v2), (3, .int v3)] := by simpa [lv_args, rn_cat, cat_int, cat_long, cat_ref, cat_null] using hl
  exact t_Mo_define_0 E hr m v0 v1 v2 v3 _ _ _ h hp va_S.rf (lv_sub hl [0, 1, 2, 3] rfl)
abbrev rm_Mo_resource : Room := { frames := 1, cells := 0, slots := 0, locals := 22 }
set_option maxHeartbeats 4000000 in
set_option maxRecDepth 100000 in
theorem t_Mo_resource_0 {G : Gc} {P : Int32 → Mm → Prop} (E : En G R_Mo b_Mo_resource 3 p s mt args meth c) (hr : meth.sig.returnType = some .int) (m : Mm) (v0 : Nat) (v1 : Int32) (v2 : Int32) (H : Heap) (locs : List Loc) (ls : Array Slot) (h : wp_Mo_resource_0 P m v0 v1 v2) (hp : pic G m H) (hS : va_S (fr G) s.heap H locs) (hl : lv_has ls 3 [(0, rn v0), (1, .int v1), (2, .int v2)]) : W p l e rm_Mo_resource s mt args below meth c H locs 0 0 (MQ below (PoI G P) args s 0 0 (fr G)) (F0 mt 0 ls []) := by
  have hx := E.1
  have hb := E.2.1
  unfold wp_Mo_resource_0 at h
  refine rr_aload_n hx hb d_Mo_resource_0 rfl (lv_at hl 0 rfl) ?_
  refine lv_iconst (v := 0) hx hb d_Mo_resource_1 (by decide) ?_
  obtain ⟨g_1, h⟩ := h
  refine rp_Mo_code E hp hS g_1 lk_357 d_Mo_resource_2 (fun m_2 em_2 H locs hp hS => ?_)
  replace h := h m_2 em_2
  refine lv_iload_n hx hb d_Mo_resource_5 rfl (lv_at hl 1 rfl) ?_
  refine lv_iconst (v := 0) hx hb d_Mo_resource_6 (by decide) ?_
  refine lv_iconst (v := 3) hx hb d_Mo_resource_7 (by decide) ?_
  refine mc_i hS (mc_runS (As := [.int v1, .int 0, .int 3]) (rest := []) E (c_Mo_in l G m_2 v1 0 3 _ h) wd_Mo_in ⟨lk_362, lk_363⟩ rfl rfl ⟨Nat.le_of_ble_eq_true rfl, Nat.le_of_ble_eq_true rfl⟩ hp hS rfl hl.1 rfl (lv_room (Nat.le_of_ble_eq_true rfl)) d_Mo_resource_8 ⟨Nat.le_of_ble_eq_true rfl, Nat.le_of_ble_eq_true rfl⟩) (fun r_4 m_3 h H locs hp hS => ?_)
  try dsimp only at h
  refine lv_if_eq (tgt := 24) hx hb d_Mo_resource_11 (by decide) (fun g_5 => ?_) (fun g_5 => ?_)
  · replace h := h.1 g_5
    refine lv_iconst (v := (-1)) hx hb d_Mo_resource_24 (by decide) ?_
    exact mp_iret E hr hp hS h d_Mo_resource_25
  · replace h := h.2 g_5
    refine lv_iload_n hx hb d_Mo_resource_14 rfl (lv_at hl 2 rfl) ?_
    refine lv_iconst (v := 0) hx hb d_Mo_resource_15 (by decide) ?_
    refine lv_bipush (v := 9) hx hb d_Mo_resource_16 (by decide) ?_
    refine mc_i hS (mc_runS (As := [.int v2, .int 0, .int 9]) (rest := []) E (c_Mo_in l G m_3 v2 0 9 _ h) wd_Mo_in ⟨lk_362, lk_363⟩ rfl rfl ⟨Nat.le_of_ble_eq_true rfl, Nat.le_of_ble_eq_true rfl⟩ hp hS rfl hl.1 rfl (lv_room (Nat.le_of_ble_eq_true rfl)) d_Mo_resource_18 ⟨Nat.le_of_ble_eq_true rfl, Nat.le_of_ble_eq_true rfl⟩) (fun r_7 m_6 h H locs hp hS => ?_)
    try dsimp only at h
    refine lv_if_ne (tgt := 26) hx hb d_Mo_resource_21 (by decide) (fun g_8 => ?_) (fun g_8 => ?_)
    · replace h := h.2 g_8
      refine rr_aload_n hx hb d_Mo_resource_26 rfl (lv_at hl 0 rfl) ?_
      obtain ⟨g_10, h⟩ := h
      refine rg_Mo_resource E hp g_10 lk_333 d_Mo_resource_27 (fun x_9 ex_9 => ?_)
      replace h := h x_9 ex_9
      refine lv_bipush (v := 10) hx hb d_Mo_resource_30 (by decide) ?_
      refine lv_iload_n hx hb d_Mo_resource_32 rfl (lv_at hl 1 rfl) ?_
      refine lv_imul hx hb d_Mo_resource_33 ?_
      refine lv_topi (fun x_11 ex_11 => ?_)
      replace h := h x_11 ex_11
      refine lv_iload_n hx hb d_Mo_resource_34 rfl (lv_at hl 2 rfl) ?_
      refine lv_iadd hx hb d_Mo_resource_35 ?_
      refine lv_topi (fun x_12 ex_12 => ?_)
      replace h := h x_12 ex_12
      obtain ⟨g_14, g_15, h⟩ := h
      refine mp_iald (t0 := 1) E hp g_14 (by decide) rfl rfl g_15 d_Mo_resource_36 (fun x_13 ex_13 => ?_)
      replace h := h x_13 ex_13
      refine lv_if_ge (tgt := 45) hx hb d_Mo_resource_37 (by decide) (fun g_16 => ?_) (fun g_16 => ?_)
      · replace h := h.1 g_16
        refine rr_aload_n hx hb d_Mo_resource_45 rfl (lv_at hl 0 rfl) ?_
        obtain ⟨g_18, h⟩ := h
        refine rg_Mo_resource E hp g_18 lk_333 d_Mo_resource_46 (fun x_17 ex_17 => ?_)
        replace h := h x_17 ex_17
        refine lv_bipush (v := 10) hx hb d_Mo_resource_49 (by decide) ?_
        refine lv_iload_n hx hb d_Mo_resource_51 rfl (lv_at hl 1 rfl) ?_
        refine lv_imul hx hb d_Mo_resource_52 ?_
        refine lv_topi (fun x_19 ex_19 => ?_)
        replace h := h x_19 ex_19
        refine lv_iload_n hx hb d_Mo_resource_53 rfl (lv_at hl 2 rfl) ?_
        refine lv_iadd hx hb d_Mo_resource_54 ?_
        refine lv_topi (fun x_20 ex_20 => ?_)
        replace h := h x_20 ex_20
        obtain ⟨g_22, g_23, h⟩ := h
        refine mp_iald (t0 := 1) E hp g_22 (by decide) rfl rfl g_23 d_Mo_resource_55 (fun x_21 ex_21 => ?_)
        replace h := h x_21 ex_21
        exact mp_iret E hr hp hS h d_Mo_resource_56
      · replace h := h.2 g_16
        refine lv_bipush (v := (-3)) hx hb d_Mo_resource_40 (by decide) ?_
        refine lv_goto (tgt := 56) hx hb d_Mo_resource_42 (by decide) ?_
        exact mp_iret E hr hp hS h d_Mo_resource_56
    · replace h := h.1 g_8
      refine lv_iconst (v := (-1)) hx hb d_Mo_resource_24 (by decide) ?_
      exact mp_iret E hr hp hS h d_Mo_resource_25
set_option maxHeartbeats 4000000 in
set_option maxRecDepth 100000 in
theorem c_Mo_resource (l : Launch) (G : Gc) (m : Mm) (v0 : Nat) (v1 : Int32) (v2 : Int32) (P : Int32 → Mm → Prop) (h : wp_Mo_resource m v0 v1 v2 P) : Met l y_Mo_resource (Cond.code y_Mo_resource b_Mo_resource 3 (some .int) :: lw_good) rm_Mo_resource (Pre9 G m [rn v0, .int v1, .int v2]) (PoI G P) 0 0 (fr G) := by
  refine Met.ofW (cc := b_Mo_resource) (maxL := 3) (ret := (some .int)) (by decide) rfl ?_
  intro p e s mt args below meth c s₁ B hml hv
  obtain ⟨rfl, hp, hC⟩ := hv
  have hts := atoms_spec (ws := Cond.code y_Mo_resource b_Mo_resource 3 (some .int) :: lw_good) B.pre
  have E : En G R_Mo b_Mo_resource 3 p s mt _ meth c := ⟨B.exec, B.bytes, hml, findClass_of_methodNamed B.named, fun w hw => hts w (List.mem_cons_of_mem _ hw), hC, B.notSynchronized⟩
  have hr := B.returns
  have hl := lv_entry [rn v0, .int v1, .int v2] (n := 3) (by simp [lg_sl, rn_cat, cat_int, cat_long, cat_ref, cat_null])
  rw [lg_entry_eq]
  generalize (lg_sl [rn v0, .int v1, .int v2] ++ List.replicate (3 - (lg_sl [rn v0, .int v1, .int v2]).length) Slot.unset).toArray = ls at hl ⊢
  have hl : lv_has ls 3 [(0, rn v0), (1, .int v1), (2, .int v2)] := by simpa [lv_args, rn_cat, cat_int, cat_long, cat_ref, cat_null] using hl
  exact t_Mo_resource_0 E hr m v0 v1 v2 _ _ _ h hp va_S.rf (lv_sub hl [0, 1, 2] rfl)
abbrev rm_Mo_opened : Room := { frames := 1, cells := 0, slots := 0, locals := 22 }
set_option maxHeartbeats 4000000 in
set_option maxRecDepth 100000 in
theorem t_Mo_opened_170 {G : Gc} {P : Int32 → Mm → Prop} (E : En G R_Mo b_Mo_opened 6 p s mt args meth c) (hr : meth.sig.returnType = some .int) (m : Mm) (v0 : Nat) (v1 : Int32) (v2 : Int32) (v4 : Int32) (s0 : Int32) (s1 : Int32) (s2 : Nat) (H : Heap) (locs : List Loc) (ls : Array Slot) (h : wp_Mo_opened_170 P m v0 v1 v2 v4 s0 s1 s2) (hp : pic G m H) (hS : va_S (fr G) s.heap H locs) (hl : lv_has ls 6 [(0, rn v0), (1, .int v1), (2, .int v2), (4, .int v4)]) : W p l e rm_Mo_opened s mt args below meth c H locs 0 0 (MQ below (PoI G P) args s 0 0 (fr G)) (F0 mt 170 ls [.int s0, .int s1, rn s2]) := by
  have hx := E.1
  have hb := E.2.1
  unfold wp_Mo_opened_170 at h
  obtain ⟨g_1, g_2, h⟩ := h
  refine mp_iast (t0 := 1) E hp hS g_1 (by decide) rfl cw_37 rfl g_2 d_Mo_opened_170 (fun m_3 em_3 H locs hp hS => ?_)
  replace h := h m_3 em_3
  refine rr_aload_n hx hb d_Mo_opened_171 rfl (lv_at hl 0 rfl) ?_
  obtain ⟨g_5, h⟩ := h
  refine rg_Mo_there E hp g_5 lk_343 d_Mo_opened_172 (fun x_4 ex_4 => ?_)
  replace h := h x_4 ex_4
  refine lv_iload_n hx hb d_Mo_opened_175 rfl (lv_at hl 1 rfl) ?_
  refine lv_iconst (v := 1) hx hb d_Mo_opened_176 (by decide) ?_
  obtain ⟨g_6, g_7, h⟩ := h
  refine mp_zast (t0 := 5) E hp hS g_6 (by decide) rfl cw_36 rfl g_7 d_Mo_opened_177 (fun m_8 em_8 H locs hp hS => ?_)
  replace h := h m_8 em_8
  refine rr_aload_n hx hb d_Mo_opened_178 rfl (lv_at hl 0 rfl) ?_
  obtain ⟨g_10, h⟩ := h
  refine rg_Mo_open E hp g_10 lk_331 d_Mo_opened_179 (fun x_9 ex_9 => ?_)
  replace h := h x_9 ex_9
  refine lv_iload hx hb d_Mo_opened_182 (lv_at hl 3 rfl) ?_
  refine lv_iconst (v := 1) hx hb d_Mo_opened_184 (by decide) ?_
  obtain ⟨g_11, g_12, h⟩ := h
  refine mp_zast (t0 := 5) E hp hS g_11 (by decide) rfl cw_40 rfl g_12 d_Mo_opened_185 (fun m_13 em_13 H locs hp hS => ?_)
  replace h := h m_13 em_13
  refine rr_aload_n hx hb d_Mo_opened_186 rfl (lv_at hl 0 rfl) ?_
  obtain ⟨g_15, h⟩ := h
  refine rg_Mo_name E hp g_15 lk_347 d_Mo_opened_187 (fun x_14 ex_14 => ?_)
  replace h := h x_14 ex_14
  refine lv_iload hx hb d_Mo_opened_190 (lv_at hl 3 rfl) ?_
  refine lv_iload_n hx hb d_Mo_opened_192 rfl (lv_at hl 1 rfl) ?_
  obtain ⟨g_16, g_17, h⟩ := h
  refine mp_iast (t0 := 1) E hp hS g_16 (by decide) rfl cw_41 rfl g_17 d_Mo_opened_193 (fun m_18 em_18 H locs hp hS => ?_)
  replace h := h m_18 em_18
  refine rr_aload_n hx hb d_Mo_opened_194 rfl (lv_at hl 0 rfl) ?_
  obtain ⟨g_20, h⟩ := h
  refine rg_Mo_mode E hp g_20 lk_332 d_Mo_opened_195 (fun x_19 ex_19 => ?_)
  replace h := h x_19 ex_19
  refine lv_iload hx hb d_Mo_opened_198 (lv_at hl 3 rfl) ?_
  refine lv_iload_n hx hb d_Mo_opened_200 rfl (lv_at hl 2 rfl) ?_
  obtain ⟨g_21, g_22, h⟩ := h
  refine mp_iast (t0 := 1) E hp hS g_21 (by decide) rfl cw_42 rfl g_22 d_Mo_opened_201 (fun m_23 em_23 H locs hp hS => ?_)
  replace h := h m_23 em_23
  refine rr_aload_n hx hb d_Mo_opened_202 rfl (lv_at hl 0 rfl) ?_
  obtain ⟨g_25, h⟩ := h
  refine rg_Mo_place E hp g_25 lk_348 d_Mo_opened_203 (fun x_24 ex_24 => ?_)
  replace h := h x_24 ex_24
  refine lv_iload hx hb d_Mo_opened_206 (lv_at hl 3 rfl) ?_
  refine lv_iconst (v := 0) hx hb d_Mo_opened_208 (by decide) ?_
  obtain ⟨g_26, g_27, h⟩ := h
  refine mp_iast (t0 := 1) E hp hS g_26 (by decide) rfl cw_43 rfl g_27 d_Mo_opened_209 (fun m_28 em_28 H locs hp hS => ?_)
  replace h := h m_28 em_28
  refine rr_aload_n hx hb d_Mo_opened_210 rfl (lv_at hl 0 rfl) ?_
  obtain ⟨g_30, h⟩ := h
  refine rg_Mo_filters E hp g_30 lk_349 d_Mo_opened_211 (fun x_29 ex_29 => ?_)
  replace h := h x_29 ex_29
  refine lv_iload hx hb d_Mo_opened_214 (lv_at hl 3 rfl) ?_
  refine lv_iconst (v := 0) hx hb d_Mo_opened_216 (by decide) ?_
  obtain ⟨g_31, g_32, h⟩ := h
  refine mp_iast (t0 := 1) E hp hS g_31 (by decide) rfl cw_44 rfl g_32 d_Mo_opened_217 (fun m_33 em_33 H locs hp hS => ?_)
  replace h := h m_33 em_33
  refine lv_iload hx hb d_Mo_opened_218 (lv_at hl 3 rfl) ?_
  exact mp_iret E hr hp hS h d_Mo_opened_220
set_option maxHeartbeats 4000000 in
set_option maxRecDepth 100000 in
theorem t_Mo_opened_160 {G : Gc} {P : Int32 → Mm → Prop} (E : En G R_Mo b_Mo_opened 6 p s mt args meth c) (hr : meth.sig.returnType = some .int) (m : Mm) (v0 : Nat) (v1 : Int32) (v2 : Int32) (v4 : Int32) (s0 : Int32) (s1 : Nat) (H : Heap) (locs : List Loc) (ls : Array Slot) (h : wp_Mo_opened_160 P m v0 v1 v2 v4 s0 s1) (hp : pic G m H) (hS : va_S (fr G) s.heap H locs) (hl : lv_has ls 6 [(0, rn v0), (1, .int v1), (2, .int v2), (4, .int v4)]) : W p l e rm_Mo_opened s mt args below meth c H locs 0 0 (MQ below (PoI G P) args s 0 0 (fr G)) (F0 mt 160 ls [.int s0, rn s1]) := by
  have hx := E.1
  have hb := E.2.1
  unfold wp_Mo_opened_160 at h
  refine lv_iconst (v := 0) hx hb d_Mo_opened_160 (by decide) ?_
  refine lv_goto (tgt := 170) hx hb d_Mo_opened_161 (by decide) ?_
  exact t_Mo_opened_170 E hr m v0 v1 v2 v4 0 s0 s1 _ _ _ h hp hS (lv_sub hl [0, 1, 2, 3] rfl)
set_option maxHeartbeats 4000000 in
set_option maxRecDepth 100000 in
theorem t_Mo_opened_119 {G : Gc} {P : Int32 → Mm → Prop} (E : En G R_Mo b_Mo_opened 6 p s mt args meth c) (hr : meth.sig.returnType = some .int) {K50 : Mm → Nat → Int32 → Int32 → Int32 → Int32 → Int32 → Prop} (hK50 : ∀ (m : Mm) (v0 : Nat) (v1 : Int32) (v2 : Int32) (v3 : Int32) (v4 : Int32) (v5 : Int32) (H : Heap) (locs : List Loc) (ls : Array Slot), K50 m v0 v1 v2 v3 v4 v5 → pic G m H → va_S (fr G) s.heap H locs → lv_has ls 6 [(0, rn v0), (1, .int v1), (2, .int v2), (3, .int v3), (4, .int v4), (5, .int v5)] → W p l e rm_Mo_opened s mt args below meth c H locs 0 0 (MQ below (PoI G P) args s 0 0 (fr G)) (F0 mt 50 ls [])) (m : Mm) (v0 : Nat) (v1 : Int32) (v2 : Int32) (v4 : Int32) (v5 : Int32) (s0 : Int32) (H : Heap) (locs : List Loc) (ls : Array Slot) (h : wp_Mo_opened_119 K50 P m v0 v1 v2 v4 v5 s0) (hp : pic G m H) (hS : va_S (fr G) s.heap H locs) (hl : lv_has ls 6 [(0, rn v0), (1, .int v1), (2, .int v2), (4, .int v4), (5, .int v5)]) : W p l e rm_Mo_opened s mt args below meth c H locs 0 0 (MQ below (PoI G P) args s 0 0 (fr G)) (F0 mt 119 ls [.int s0]) := by
  have hx := E.1
  have hb := E.2.1
  unfold wp_Mo_opened_119 at h
  refine lv_istore_n (lv' := [(3, .int s0), (0, rn v0), (1, .int v1), (2, .int v2), (4, .int v4), (5, .int v5)]) hx hb d_Mo_opened_119 rfl hl (by decide) rfl (fun ls hl => ?_)
  obtain ⟨x_1, ex_1⟩ : ∃ y : Int32, y = v5 + (-1) := ⟨_, rfl⟩
  replace h := h x_1 ex_1
  refine lv_iinc (v := x_1) (lv' := [(5, .int x_1), (3, .int s0), (0, rn v0), (1, .int v1), (2, .int v2), (4, .int v4)]) hx hb d_Mo_opened_120 hl (k := 5) rfl (by rw [ex_1]; rfl) (by decide) rfl (fun ls hl => ?_)
  refine lv_goto (tgt := 50) hx hb d_Mo_opened_123 (by decide) ?_
  exact hK50 m v0 v1 v2 s0 v4 x_1 _ _ _ h hp hS (lv_sub hl [2, 3, 4, 1, 5, 0] rfl)
set_option maxHeartbeats 4000000 in
set_option maxRecDepth 100000 in
theorem t_Mo_opened_118 {G : Gc} {P : Int32 → Mm → Prop} (E : En G R_Mo b_Mo_opened 6 p s mt args meth c) (hr : meth.sig.returnType = some .int) {K50 : Mm → Nat → Int32 → Int32 → Int32 → Int32 → Int32 → Prop} (hK50 : ∀ (m : Mm) (v0 : Nat) (v1 : Int32) (v2 : Int32) (v3 : Int32) (v4 : Int32) (v5 : Int32) (H : Heap) (locs : List Loc) (ls : Array Slot), K50 m v0 v1 v2 v3 v4 v5 → pic G m H → va_S (fr G) s.heap H locs → lv_has ls 6 [(0, rn v0), (1, .int v1), (2, .int v2), (3, .int v3), (4, .int v4), (5, .int v5)] → W p l e rm_Mo_opened s mt args below meth c H locs 0 0 (MQ below (PoI G P) args s 0 0 (fr G)) (F0 mt 50 ls [])) (m : Mm) (v0 : Nat) (v1 : Int32) (v2 : Int32) (v4 : Int32) (v5 : Int32) (H : Heap) (locs : List Loc) (ls : Array Slot) (h : wp_Mo_opened_118 K50 P m v0 v1 v2 v4 v5) (hp : pic G m H) (hS : va_S (fr G) s.heap H locs) (hl : lv_has ls 6 [(0, rn v0), (1, .int v1), (2, .int v2), (4, .int v4), (5, .int v5)]) : W p l e rm_Mo_opened s mt args below meth c H locs 0 0 (MQ below (PoI G P) args s 0 0 (fr G)) (F0 mt 118 ls []) := by
  have hx := E.1
  have hb := E.2.1
  unfold wp_Mo_opened_118 at h
  refine lv_iconst (v := 0) hx hb d_Mo_opened_118 (by decide) ?_
  exact t_Mo_opened_119 E hr hK50 m v0 v1 v2 v4 v5 0 _ _ _ h hp hS (lv_sub hl [0, 1, 2, 3, 4] rfl)
set_option maxHeartbeats 4000000 in
set_option maxRecDepth 100000 in
theorem t_Mo_opened_114 {G : Gc} {P : Int32 → Mm → Prop} (E : En G R_Mo b_Mo_opened 6 p s mt args meth c) (hr : meth.sig.returnType = some .int) {K50 : Mm → Nat → Int32 → Int32 → Int32 → Int32 → Int32 → Prop} (hK50 : ∀ (m : Mm) (v0 : Nat) (v1 : Int32) (v2 : Int32) (v3 : Int32) (v4 : Int32) (v5 : Int32) (H : Heap) (locs : List Loc) (ls : Array Slot), K50 m v0 v1 v2 v3 v4 v5 → pic G m H → va_S (fr G) s.heap H locs → lv_has ls 6 [(0, rn v0), (1, .int v1), (2, .int v2), (3, .int v3), (4, .int v4), (5, .int v5)] → W p l e rm_Mo_opened s mt args below meth c H locs 0 0 (MQ below (PoI G P) args s 0 0 (fr G)) (F0 mt 50 ls [])) (m : Mm) (v0 : Nat) (v1 : Int32) (v2 : Int32) (v4 : Int32) (v5 : Int32) (H : Heap) (locs : List Loc) (ls : Array Slot) (h : wp_Mo_opened_114 K50 P m v0 v1 v2 v4 v5) (hp : pic G m H) (hS : va_S (fr G) s.heap H locs) (hl : lv_has ls 6 [(0, rn v0), (1, .int v1), (2, .int v2), (4, .int v4), (5, .int v5)]) : W p l e rm_Mo_opened s mt args below meth c H locs 0 0 (MQ below (PoI G P) args s 0 0 (fr G)) (F0 mt 114 ls []) := by
  have hx := E.1
  have hb := E.2.1
  unfold wp_Mo_opened_114 at h
  refine lv_iconst (v := 1) hx hb d_Mo_opened_114 (by decide) ?_
  refine lv_goto (tgt := 119) hx hb d_Mo_opened_115 (by decide) ?_
  exact t_Mo_opened_119 E hr hK50 m v0 v1 v2 v4 v5 1 _ _ _ h hp hS (lv_sub hl [0, 1, 2, 3, 4] rfl)
set_option maxHeartbeats 4000000 in
set_option maxRecDepth 100000 in
theorem t_Mo_opened_73 {G : Gc} {P : Int32 → Mm → Prop} (E : En G R_Mo b_Mo_opened 6 p s mt args meth c) (hr : meth.sig.returnType = some .int) {K50 : Mm → Nat → Int32 → Int32 → Int32 → Int32 → Int32 → Prop} (hK50 : ∀ (m : Mm) (v0 : Nat) (v1 : Int32) (v2 : Int32) (v3 : Int32) (v4 : Int32) (v5 : Int32) (H : Heap) (locs : List Loc) (ls : Array Slot), K50 m v0 v1 v2 v3 v4 v5 → pic G m H → va_S (fr G) s.heap H locs → lv_has ls 6 [(0, rn v0), (1, .int v1), (2, .int v2), (3, .int v3), (4, .int v4), (5, .int v5)] → W p l e rm_Mo_opened s mt args below meth c H locs 0 0 (MQ below (PoI G P) args s 0 0 (fr G)) (F0 mt 50 ls [])) (m : Mm) (v0 : Nat) (v1 : Int32) (v2 : Int32) (v3 : Int32) (v5 : Int32) (s0 : Int32) (H : Heap) (locs : List Loc) (ls : Array Slot) (h : wp_Mo_opened_73 K50 P m v0 v1 v2 v3 v5 s0) (hp : pic G m H) (hS : va_S (fr G) s.heap H locs) (hl : lv_has ls 6 [(0, rn v0), (1, .int v1), (2, .int v2), (3, .int v3), (5, .int v5)]) : W p l e rm_Mo_opened s mt args below meth c H locs 0 0 (MQ below (PoI G P) args s 0 0 (fr G)) (F0 mt 73 ls [.int s0]) := by
  have hx := E.1
  have hb := E.2.1
  unfold wp_Mo_opened_73 at h
  refine lv_istore (lv' := [(4, .int s0), (0, rn v0), (1, .int v1), (2, .int v2), (3, .int v3), (5, .int v5)]) hx hb d_Mo_opened_73 hl (by decide) rfl (fun ls hl => ?_)
  refine lv_iload_n hx hb d_Mo_opened_75 rfl (lv_at hl 4 rfl) ?_
  refine lv_if_eq (tgt := 118) hx hb d_Mo_opened_76 (by decide) (fun g_1 => ?_) (fun g_1 => ?_)
  · replace h := h.1 g_1
    exact t_Mo_opened_118 E hr hK50 m v0 v1 v2 s0 v5 _ _ _ h hp hS (lv_sub hl [1, 2, 3, 0, 5] rfl)
  · replace h := h.2 g_1
    refine rr_aload_n hx hb d_Mo_opened_79 rfl (lv_at hl 1 rfl) ?_
    obtain ⟨g_3, h⟩ := h
    refine rg_Mo_open E hp g_3 lk_331 d_Mo_opened_80 (fun x_2 ex_2 => ?_)
    replace h := h x_2 ex_2
    refine lv_iload hx hb d_Mo_opened_83 (lv_at hl 5 rfl) ?_
    obtain ⟨g_5, g_6, h⟩ := h
    refine mp_zald (t0 := 5) E hp g_5 (by decide) rfl rfl g_6 d_Mo_opened_85 (fun x_4 ex_4 => ?_)
    replace h := h x_4 ex_4
    refine lv_if_eq (tgt := 114) hx hb d_Mo_opened_86 (by decide) (fun g_7 => ?_) (fun g_7 => ?_)
    · replace h := h.1 g_7
      exact t_Mo_opened_114 E hr hK50 m v0 v1 v2 s0 v5 _ _ _ h hp hS (lv_sub hl [1, 2, 3, 0, 5] rfl)
    · replace h := h.2 g_7
      refine rr_aload_n hx hb d_Mo_opened_89 rfl (lv_at hl 1 rfl) ?_
      obtain ⟨g_9, h⟩ := h
      refine rg_Mo_name E hp g_9 lk_347 d_Mo_opened_90 (fun x_8 ex_8 => ?_)
      replace h := h x_8 ex_8
      refine lv_iload hx hb d_Mo_opened_93 (lv_at hl 5 rfl) ?_
      obtain ⟨g_11, g_12, h⟩ := h
      refine mp_iald (t0 := 1) E hp g_11 (by decide) rfl rfl g_12 d_Mo_opened_95 (fun x_10 ex_10 => ?_)
      replace h := h x_10 ex_10
      refine lv_iload_n hx hb d_Mo_opened_96 rfl (lv_at hl 2 rfl) ?_
      refine lv_icmp_ne (tgt := 114) hx hb d_Mo_opened_97 (by decide) (fun g_13 => ?_) (fun g_13 => ?_)
      · replace h := h.2 g_13
        exact t_Mo_opened_114 E hr hK50 m v0 v1 v2 s0 v5 _ _ _ h hp hS (lv_sub hl [1, 2, 3, 0, 5] rfl)
      · replace h := h.1 g_13
        refine lv_iload_n hx hb d_Mo_opened_100 rfl (lv_at hl 3 rfl) ?_
        refine lv_if_gt (tgt := 118) hx hb d_Mo_opened_101 (by decide) (fun g_14 => ?_) (fun g_14 => ?_)
        · replace h := h.1 g_14
          exact t_Mo_opened_118 E hr hK50 m v0 v1 v2 s0 v5 _ _ _ h hp hS (lv_sub hl [1, 2, 3, 0, 5] rfl)
        · replace h := h.2 g_14
          refine rr_aload_n hx hb d_Mo_opened_104 rfl (lv_at hl 1 rfl) ?_
          obtain ⟨g_16, h⟩ := h
          refine rg_Mo_mode E hp g_16 lk_332 d_Mo_opened_105 (fun x_15 ex_15 => ?_)
          replace h := h x_15 ex_15
          refine lv_iload hx hb d_Mo_opened_108 (lv_at hl 5 rfl) ?_
          obtain ⟨g_18, g_19, h⟩ := h
          refine mp_iald (t0 := 1) E hp g_18 (by decide) rfl rfl g_19 d_Mo_opened_110 (fun x_17 ex_17 => ?_)
          replace h := h x_17 ex_17
          refine lv_if_gt (tgt := 118) hx hb d_Mo_opened_111 (by decide) (fun g_20 => ?_) (fun g_20 => ?_)
          · replace h := h.1 g_20
            exact t_Mo_opened_118 E hr hK50 m v0 v1 v2 s0 v5 _ _ _ h hp hS (lv_sub hl [1, 2, 3, 0, 5] rfl)
          · replace h := h.2 g_20
            exact t_Mo_opened_114 E hr hK50 m v0 v1 v2 s0 v5 _ _ _ h hp hS (lv_sub hl [1, 2, 3, 0, 5] rfl)
set_option maxHeartbeats 4000000 in
set_option maxRecDepth 100000 in
theorem t_Mo_opened_50 {G : Gc} {P : Int32 → Mm → Prop} (E : En G R_Mo b_Mo_opened 6 p s mt args meth c) (hr : meth.sig.returnType = some .int) : ∀ (n : Nat) (m : Mm) (v0 : Nat) (v1 : Int32) (v2 : Int32) (v3 : Int32) (v4 : Int32) (v5 : Int32) (H : Heap) (locs : List Loc) (ls : Array Slot) (_ : wp_Mo_opened_50 P n m v0 v1 v2 v3 v4 v5) (_ : pic G m H) (_ : va_S (fr G) s.heap H locs) (_ : lv_has ls 6 [(0, rn v0), (1, .int v1), (2, .int v2), (3, .int v3), (4, .int v4), (5, .int v5)]), W p l e rm_Mo_opened s mt args below meth c H locs 0 0 (MQ below (PoI G P) args s 0 0 (fr G)) (F0 mt 50 ls []) := by
  intro n
  induction n with
  | zero => intro m v0 v1 v2 v3 v4 v5 H locs ls h hp hS hl; exact h.elim
  | succ n ih =>
    intro m v0 v1 v2 v3 v4 v5 H locs ls h hp hS hl
    have hx := E.1
    have hb := E.2.1
    unfold wp_Mo_opened_50 at h
    refine lv_iload hx hb d_Mo_opened_50 (lv_at hl 5 rfl) ?_
    refine lv_iconst (v := 1) hx hb d_Mo_opened_52 (by decide) ?_
    refine lv_icmp_le (tgt := 126) hx hb d_Mo_opened_53 (by decide) (fun g_1 => ?_) (fun g_1 => ?_)
    · replace h := h.1 g_1
      refine lv_iload_n hx hb d_Mo_opened_126 rfl (lv_at hl 3 rfl) ?_
      refine lv_if_ne (tgt := 133) hx hb d_Mo_opened_127 (by decide) (fun g_2 => ?_) (fun g_2 => ?_)
      · replace h := h.2 g_2
        refine lv_iload hx hb d_Mo_opened_133 (lv_at hl 4 rfl) ?_
        refine lv_if_ge (tgt := 141) hx hb d_Mo_opened_135 (by decide) (fun g_3 => ?_) (fun g_3 => ?_)
        · replace h := h.1 g_3
          refine rr_aload_n hx hb d_Mo_opened_141 rfl (lv_at hl 0 rfl) ?_
          obtain ⟨g_5, h⟩ := h
          refine rg_Mo_length E hp g_5 lk_344 d_Mo_opened_142 (fun x_4 ex_4 => ?_)
          replace h := h x_4 ex_4
          refine lv_iload_n hx hb d_Mo_opened_145 rfl (lv_at hl 1 rfl) ?_
          refine lv_iload_n hx hb d_Mo_opened_146 rfl (lv_at hl 2 rfl) ?_
          refine lv_iconst (v := 1) hx hb d_Mo_opened_147 (by decide) ?_
          refine lv_icmp_eq (tgt := 160) hx hb d_Mo_opened_148 (by decide) (fun g_6 => ?_) (fun g_6 => ?_)
          · replace h := h.1 g_6
            exact t_Mo_opened_160 E hr m v0 v1 v2 v4 v1 x_4 _ _ _ h hp hS (lv_sub hl [0, 1, 2, 4] rfl)
          · replace h := h.2 g_6
            refine rr_aload_n hx hb d_Mo_opened_151 rfl (lv_at hl 0 rfl) ?_
            obtain ⟨g_8, h⟩ := h
            refine rg_Mo_there E hp g_8 lk_343 d_Mo_opened_152 (fun x_7 ex_7 => ?_)
            replace h := h x_7 ex_7
            refine lv_iload_n hx hb d_Mo_opened_155 rfl (lv_at hl 1 rfl) ?_
            obtain ⟨g_10, g_11, h⟩ := h
            refine mp_zald (t0 := 5) E hp g_10 (by decide) rfl rfl g_11 d_Mo_opened_156 (fun x_9 ex_9 => ?_)
            replace h := h x_9 ex_9
            refine lv_if_ne (tgt := 164) hx hb d_Mo_opened_157 (by decide) (fun g_12 => ?_) (fun g_12 => ?_)
            · replace h := h.2 g_12
              refine rr_aload_n hx hb d_Mo_opened_164 rfl (lv_at hl 0 rfl) ?_
              obtain ⟨g_14, h⟩ := h
              refine rg_Mo_length E hp g_14 lk_344 d_Mo_opened_165 (fun x_13 ex_13 => ?_)
              replace h := h x_13 ex_13
              refine lv_iload_n hx hb d_Mo_opened_168 rfl (lv_at hl 1 rfl) ?_
              obtain ⟨g_16, g_17, h⟩ := h
              refine mp_iald (t0 := 1) E hp g_16 (by decide) rfl rfl g_17 d_Mo_opened_169 (fun x_15 ex_15 => ?_)
              replace h := h x_15 ex_15
              exact t_Mo_opened_170 E hr m v0 v1 v2 v4 x_15 v1 x_4 _ _ _ h hp hS (lv_sub hl [0, 1, 2, 4] rfl)
            · replace h := h.1 g_12
              exact t_Mo_opened_160 E hr m v0 v1 v2 v4 v1 x_4 _ _ _ h hp hS (lv_sub hl [0, 1, 2, 4] rfl)
        · replace h := h.2 g_3
          refine lv_bipush (v := (-4)) hx hb d_Mo_opened_138 (by decide) ?_
          exact mp_iret E hr hp hS h d_Mo_opened_140
      · replace h := h.1 g_2
        refine lv_bipush (v := (-3)) hx hb d_Mo_opened_130 (by decide) ?_
        exact mp_iret E hr hp hS h d_Mo_opened_132
    · replace h := h.2 g_1
      refine rr_aload_n hx hb d_Mo_opened_56 rfl (lv_at hl 0 rfl) ?_
      obtain ⟨g_19, h⟩ := h
      refine rg_Mo_open E hp g_19 lk_331 d_Mo_opened_57 (fun x_18 ex_18 => ?_)
      replace h := h x_18 ex_18
      refine lv_iload hx hb d_Mo_opened_60 (lv_at hl 5 rfl) ?_
      obtain ⟨g_21, g_22, h⟩ := h
      refine mp_zald (t0 := 5) E hp g_21 (by decide) rfl rfl g_22 d_Mo_opened_62 (fun x_20 ex_20 => ?_)
      replace h := h x_20 ex_20
      refine lv_if_eq (tgt := 71) hx hb d_Mo_opened_63 (by decide) (fun g_23 => ?_) (fun g_23 => ?_)
      · replace h := h.1 g_23
        refine lv_iload hx hb d_Mo_opened_71 (lv_at hl 5 rfl) ?_
        exact t_Mo_opened_73 E hr ih m v0 v1 v2 v3 v5 v5 _ _ _ h hp hS (lv_sub hl [0, 1, 2, 3, 5] rfl)
      · replace h := h.2 g_23
        refine lv_iload hx hb d_Mo_opened_66 (lv_at hl 4 rfl) ?_
        refine lv_goto (tgt := 73) hx hb d_Mo_opened_68 (by decide) ?_
        exact t_Mo_opened_73 E hr ih m v0 v1 v2 v3 v5 v4 _ _ _ h hp hS (lv_sub hl [0, 1, 2, 3, 5] rfl)
set_option maxHeartbeats 4000000 in
set_option maxRecDepth 100000 in
theorem t_Mo_opened_42 {G : Gc} {P : Int32 → Mm → Prop} (E : En G R_Mo b_Mo_opened 6 p s mt args meth c) (hr : meth.sig.returnType = some .int) (m : Mm) (v0 : Nat) (v1 : Int32) (v2 : Int32) (s0 : Int32) (H : Heap) (locs : List Loc) (ls : Array Slot) (h : wp_Mo_opened_42 P m v0 v1 v2 s0) (hp : pic G m H) (hS : va_S (fr G) s.heap H locs) (hl : lv_has ls 6 [(0, rn v0), (1, .int v1), (2, .int v2)]) : W p l e rm_Mo_opened s mt args below meth c H locs 0 0 (MQ below (PoI G P) args s 0 0 (fr G)) (F0 mt 42 ls [.int s0]) := by
  have hx := E.1
  have hb := E.2.1
  unfold wp_Mo_opened_42 at h
  refine lv_istore_n (lv' := [(3, .int s0), (0, rn v0), (1, .int v1), (2, .int v2)]) hx hb d_Mo_opened_42 rfl hl (by decide) rfl (fun ls hl => ?_)
  refine lv_iconst (v := (-1)) hx hb d_Mo_opened_43 (by decide) ?_
  refine lv_istore (lv' := [(4, .int (-1)), (3, .int s0), (0, rn v0), (1, .int v1), (2, .int v2)]) hx hb d_Mo_opened_44 hl (by decide) rfl (fun ls hl => ?_)
  refine lv_bipush (v := 7) hx hb d_Mo_opened_46 (by decide) ?_
  refine lv_istore (lv' := [(5, .int 7), (4, .int (-1)), (3, .int s0), (0, rn v0), (1, .int v1), (2, .int v2)]) hx hb d_Mo_opened_48 hl (by decide) rfl (fun ls hl => ?_)
  obtain ⟨n_1, h⟩ := h
  exact t_Mo_opened_50 E hr n_1 m v0 v1 v2 s0 (-1) 7 _ _ _ h hp hS (lv_sub hl [3, 4, 5, 2, 1, 0] rfl)
set_option maxHeartbeats 4000000 in
set_option maxRecDepth 100000 in
theorem t_Mo_opened_37 {G : Gc} {P : Int32 → Mm → Prop} (E : En G R_Mo b_Mo_opened 6 p s mt args meth c) (hr : meth.sig.returnType = some .int) (m : Mm) (v0 : Nat) (v1 : Int32) (v2 : Int32) (H : Heap) (locs : List Loc) (ls : Array Slot) (h : wp_Mo_opened_37 P m v0 v1 v2) (hp : pic G m H) (hS : va_S (fr G) s.heap H locs) (hl : lv_has ls 6 [(0, rn v0), (1, .int v1), (2, .int v2)]) : W p l e rm_Mo_opened s mt args below meth c H locs 0 0 (MQ below (PoI G P) args s 0 0 (fr G)) (F0 mt 37 ls []) := by
  have hx := E.1
  have hb := E.2.1
  unfold wp_Mo_opened_37 at h
  refine lv_iconst (v := 1) hx hb d_Mo_opened_37 (by decide) ?_
  refine lv_goto (tgt := 42) hx hb d_Mo_opened_38 (by decide) ?_
  exact t_Mo_opened_42 E hr m v0 v1 v2 1 _ _ _ h hp hS (lv_sub hl [0, 1, 2] rfl)
set_option maxHeartbeats 4000000 in
set_option maxRecDepth 100000 in
theorem t_Mo_opened_0 {G : Gc} {P : Int32 → Mm → Prop} (E : En G R_Mo b_Mo_opened 6 p s mt args meth c) (hr : meth.sig.returnType = some .int) (m : Mm) (v0 : Nat) (v1 : Int32) (v2 : Int32) (H : Heap) (locs : List Loc) (ls : Array Slot) (h : wp_Mo_opened_0 P m v0 v1 v2) (hp : pic G m H) (hS : va_S (fr G) s.heap H locs) (hl : lv_has ls 6 [(0, rn v0), (1, .int v1), (2, .int v2)]) : W p l e rm_Mo_opened s mt args below meth c H locs 0 0 (MQ below (PoI G P) args s 0 0 (fr G)) (F0 mt 0 ls []) := by
  have hx := E.1
  have hb := E.2.1
  unfold wp_Mo_opened_0 at h
  refine lv_iload_n hx hb d_Mo_opened_0 rfl (lv_at hl 1 rfl) ?_
  refine lv_iconst (v := 0) hx hb d_Mo_opened_1 (by decide) ?_
  refine lv_bipush (v := 9) hx hb d_Mo_opened_2 (by decide) ?_
  refine mc_i hS (mc_runS (As := [.int v1, .int 0, .int 9]) (rest := []) E (c_Mo_in l G m v1 0 9 _ h) wd_Mo_in ⟨lk_362, lk_363⟩ rfl rfl ⟨Nat.le_of_ble_eq_true rfl, Nat.le_of_ble_eq_true rfl⟩ hp hS rfl hl.1 rfl (lv_room (Nat.le_of_ble_eq_true rfl)) d_Mo_opened_4 ⟨Nat.le_of_ble_eq_true rfl, Nat.le_of_ble_eq_true rfl⟩) (fun r_2 m_1 h H locs hp hS => ?_)
  try dsimp only at h
  refine lv_if_ne (tgt := 12) hx hb d_Mo_opened_7 (by decide) (fun g_3 => ?_) (fun g_3 => ?_)
  · replace h := h.2 g_3
    refine lv_iload_n hx hb d_Mo_opened_12 rfl (lv_at hl 2 rfl) ?_
    refine lv_iconst (v := 0) hx hb d_Mo_opened_13 (by decide) ?_
    refine lv_iconst (v := 2) hx hb d_Mo_opened_14 (by decide) ?_
    refine mc_i hS (mc_runS (As := [.int v2, .int 0, .int 2]) (rest := []) E (c_Mo_in l G m_1 v2 0 2 _ h) wd_Mo_in ⟨lk_362, lk_363⟩ rfl rfl ⟨Nat.le_of_ble_eq_true rfl, Nat.le_of_ble_eq_true rfl⟩ hp hS rfl hl.1 rfl (lv_room (Nat.le_of_ble_eq_true rfl)) d_Mo_opened_15 ⟨Nat.le_of_ble_eq_true rfl, Nat.le_of_ble_eq_true rfl⟩) (fun r_5 m_4 h H locs hp hS => ?_)
    try dsimp only at h
    refine lv_if_ne (tgt := 24) hx hb d_Mo_opened_18 (by decide) (fun g_6 => ?_) (fun g_6 => ?_)
    · replace h := h.2 g_6
      refine lv_iload_n hx hb d_Mo_opened_24 rfl (lv_at hl 2 rfl) ?_
      refine lv_if_gt (tgt := 37) hx hb d_Mo_opened_25 (by decide) (fun g_7 => ?_) (fun g_7 => ?_)
      · replace h := h.1 g_7
        exact t_Mo_opened_37 E hr m_4 v0 v1 v2 _ _ _ h hp hS (lv_sub hl [0, 1, 2] rfl)
      · replace h := h.2 g_7
        refine rr_aload_n hx hb d_Mo_opened_28 rfl (lv_at hl 0 rfl) ?_
        obtain ⟨g_9, h⟩ := h
        refine rg_Mo_there E hp g_9 lk_343 d_Mo_opened_29 (fun x_8 ex_8 => ?_)
        replace h := h x_8 ex_8
        refine lv_iload_n hx hb d_Mo_opened_32 rfl (lv_at hl 1 rfl) ?_
        obtain ⟨g_11, g_12, h⟩ := h
        refine mp_zald (t0 := 5) E hp g_11 (by decide) rfl rfl g_12 d_Mo_opened_33 (fun x_10 ex_10 => ?_)
        replace h := h x_10 ex_10
        refine lv_if_eq (tgt := 41) hx hb d_Mo_opened_34 (by decide) (fun g_13 => ?_) (fun g_13 => ?_)
        · replace h := h.1 g_13
          refine lv_iconst (v := 0) hx hb d_Mo_opened_41 (by decide) ?_
          exact t_Mo_opened_42 E hr m_4 v0 v1 v2 0 _ _ _ h hp hS (lv_sub hl [0, 1, 2] rfl)
        · replace h := h.2 g_13
          exact t_Mo_opened_37 E hr m_4 v0 v1 v2 _ _ _ h hp hS (lv_sub hl [0, 1, 2] rfl)
    · replace h := h.1 g_6
      refine lv_bipush (v := (-2)) hx hb d_Mo_opened_21 (by decide) ?_
      exact mp_iret E hr hp hS h d_Mo_opened_23
  · replace h := h.1 g_3
    refine lv_iconst (v := (-1)) hx hb d_Mo_opened_10 (by decide) ?_
    exact mp_iret E hr hp hS h d_Mo_opened_11
set_option maxHeartbeats 4000000 in
set_option maxRecDepth 100000 in
theorem c_Mo_opened (l : Launch) (G : Gc) (m : Mm) (v0 : Nat) (v1 : Int32) (v2 : Int32) (P : Int32 → Mm → Prop) (h : wp_Mo_opened m v0 v1 v2 P) : Met l y_Mo_opened (Cond.code y_Mo_opened b_Mo_opened 6 (some .int) :: lw_good) rm_Mo_opened (Pre9 G m [rn v0, .int v1, .int v2]) (PoI G P) 0 0 (fr G) := by
  refine Met.ofW (cc := b_Mo_opened) (maxL := 6) (ret := (some .int)) (by decide) rfl ?_
  intro p e s mt args below meth c s₁ B hml hv
  obtain ⟨rfl, hp, hC⟩ := hv
  have hts := atoms_spec (ws := Cond.code y_Mo_opened b_Mo_opened 6 (some .int) :: lw_good) B.pre
  have E : En G R_Mo b_Mo_opened 6 p s mt _ meth c := ⟨B.exec, B.bytes, hml, findClass_of_methodNamed B.named, fun w hw => hts w (List.mem_cons_of_mem _ hw), hC, B.notSynchronized⟩
  have hr := B.returns
  have hl := lv_entry [rn v0, .int v1, .int v2] (n := 6) (by simp [lg_sl, rn_cat, cat_int, cat_long, cat_ref, cat_null])
  rw [lg_entry_eq]
  generalize (lg_sl [rn v0, .int v1, .int v2] ++ List.replicate (6 - (lg_sl [rn v0, .int v1, .int v2]).length) Slot.unset).toArray = ls at hl ⊢
  have hl : lv_has ls 6 [(0, rn v0), (1, .int v1), (2, .int v2)] := by simpa [lv_args, rn_cat, cat_int, cat_long, cat_ref, cat_null] using hl
  exact t_Mo_opened_0 E hr m v0 v1 v2 _ _ _ h hp va_S.rf (lv_sub hl [0, 1, 2] rfl)
end WK
