section WK
variable {p : Program} {l : Launch} {e : Env} {s : State} {mt : MethodId} {args : Array Value} {below : List Frame} {meth : Method} {c : Code}
abbrev rm_Mo_add : Room := { frames := 1, cells := 0, slots := 0, locals := 21 }
set_option maxHeartbeats 4000000 in
set_option maxRecDepth 100000 in
theorem t_Mo_add_0 {G : Gc} {P : Int32 → Mm → Prop} (E : En G R_Mo b_Mo_add 3 p s mt args meth c) (hr : meth.sig.returnType = some .int) (m : Mm) (v0 : Nat) (v1 : Int32) (v2 : Int32) (H : Heap) (locs : List Loc) (ls : Array Slot) (h : wp_Mo_add_0 P m v0 v1 v2) (hp : pic G m H) (hS : va_S (fr G) s.heap H locs) (hl : lv_has ls 3 [(0, rn v0), (1, .int v1), (2, .int v2)]) : W p l e rm_Mo_add s mt args below meth c H locs 0 0 (MQ below (PoI G P) args s 0 0 (fr G)) (F0 mt 0 ls []) := by
  have hx := E.1
  have hb := E.2.1
  unfold wp_Mo_add_0 at h
  refine rr_aload_n hx hb d_Mo_add_0 rfl (lv_at hl 0 rfl) ?_
  refine lv_iconst (v := 0) hx hb d_Mo_add_1 (by decide) ?_
  obtain ⟨g_1, h⟩ := h
  refine rp_Mo_code E hp hS g_1 lk_356 d_Mo_add_2 (fun m_2 em_2 H locs hp hS => ?_)
  replace h := h m_2 em_2
  refine rr_aload_n hx hb d_Mo_add_5 rfl (lv_at hl 0 rfl) ?_
  refine lv_iload_n hx hb d_Mo_add_6 rfl (lv_at hl 1 rfl) ?_
  obtain ⟨g_5, h⟩ := h
  refine mc_i hS (mc_runV (As := [.int v1]) (rest := []) E (c_Mo_noJob l G m_2 v0 v1 _ h) wd_Mo_noJob ⟨lk_358, lk_359, lk_360⟩ rfl rfl ⟨Nat.le_of_ble_eq_true rfl, Nat.le_of_ble_eq_true rfl⟩ hp hS g_5 (by decide) rfl rfl rfl hl.1 rfl (lv_room (Nat.le_of_ble_eq_true rfl)) d_Mo_add_7 ⟨Nat.le_of_ble_eq_true rfl, Nat.le_of_ble_eq_true rfl⟩) (fun r_4 m_3 h H locs hp hS => ?_)
  try dsimp only at h
  refine lv_if_eq (tgt := 15) hx hb d_Mo_add_10 (by decide) (fun g_6 => ?_) (fun g_6 => ?_)
  · replace h := h.1 g_6
    refine rr_aload_n hx hb d_Mo_add_15 rfl (lv_at hl 0 rfl) ?_
    obtain ⟨g_8, h⟩ := h
    refine rg_Mo_told E hp g_8 lk_337 d_Mo_add_16 (fun x_7 ex_7 => ?_)
    replace h := h x_7 ex_7
    refine lv_bipush (v := 6) hx hb d_Mo_add_19 (by decide) ?_
    refine lv_iload_n hx hb d_Mo_add_21 rfl (lv_at hl 1 rfl) ?_
    refine lv_imul hx hb d_Mo_add_22 ?_
    refine lv_topi (fun x_9 ex_9 => ?_)
    replace h := h x_9 ex_9
    obtain ⟨g_11, g_12, h⟩ := h
    refine mp_iald (t0 := 1) E hp g_11 (by decide) rfl rfl g_12 d_Mo_add_23 (fun x_10 ex_10 => ?_)
    replace h := h x_10 ex_10
    refine lv_if_le (tgt := 30) hx hb d_Mo_add_24 (by decide) (fun g_13 => ?_) (fun g_13 => ?_)
    · replace h := h.1 g_13
      refine rr_aload_n hx hb d_Mo_add_30 rfl (lv_at hl 0 rfl) ?_
      obtain ⟨g_15, h⟩ := h
      refine rg_Mo_size E hp g_15 lk_336 d_Mo_add_31 (fun x_14 ex_14 => ?_)
      replace h := h x_14 ex_14
      refine lv_iload_n hx hb d_Mo_add_34 rfl (lv_at hl 1 rfl) ?_
      obtain ⟨g_17, g_18, h⟩ := h
      refine mp_iald (t0 := 1) E hp g_17 (by decide) rfl rfl g_18 d_Mo_add_35 (fun x_16 ex_16 => ?_)
      replace h := h x_16 ex_16
      refine lv_sipush (v := 200) hx hb d_Mo_add_36 (by decide) ?_
      refine lv_icmp_ne (tgt := 45) hx hb d_Mo_add_39 (by decide) (fun g_19 => ?_) (fun g_19 => ?_)
      · replace h := h.2 g_19
        refine rr_aload_n hx hb d_Mo_add_45 rfl (lv_at hl 0 rfl) ?_
        obtain ⟨g_21, h⟩ := h
        refine rg_Mo_signs E hp g_21 lk_335 d_Mo_add_46 (fun x_20 ex_20 => ?_)
        replace h := h x_20 ex_20
        refine lv_sipush (v := 200) hx hb d_Mo_add_49 (by decide) ?_
        refine lv_iload_n hx hb d_Mo_add_52 rfl (lv_at hl 1 rfl) ?_
        refine lv_imul hx hb d_Mo_add_53 ?_
        refine lv_topi (fun x_22 ex_22 => ?_)
        replace h := h x_22 ex_22
        refine rr_aload_n hx hb d_Mo_add_54 rfl (lv_at hl 0 rfl) ?_
        obtain ⟨g_24, h⟩ := h
        refine rg_Mo_size E hp g_24 lk_336 d_Mo_add_55 (fun x_23 ex_23 => ?_)
        replace h := h x_23 ex_23
        refine lv_iload_n hx hb d_Mo_add_58 rfl (lv_at hl 1 rfl) ?_
        obtain ⟨g_26, g_27, h⟩ := h
        refine mp_iald (t0 := 1) E hp g_26 (by decide) rfl rfl g_27 d_Mo_add_59 (fun x_25 ex_25 => ?_)
        replace h := h x_25 ex_25
        refine lv_iadd hx hb d_Mo_add_60 ?_
        refine lv_topi (fun x_28 ex_28 => ?_)
        replace h := h x_28 ex_28
        refine lv_iload_n hx hb d_Mo_add_61 rfl (lv_at hl 2 rfl) ?_
        obtain ⟨g_29, g_30, h⟩ := h
        refine mp_bast (t0 := 4) E hp hS g_29 (by decide) rfl cw_28 rfl g_30 d_Mo_add_62 (fun m_31 em_31 H locs hp hS => ?_)
        replace h := h m_31 em_31
        refine rr_aload_n hx hb d_Mo_add_63 rfl (lv_at hl 0 rfl) ?_
        obtain ⟨g_33, h⟩ := h
        refine rg_Mo_size E hp g_33 lk_336 d_Mo_add_64 (fun x_32 ex_32 => ?_)
        replace h := h x_32 ex_32
        refine lv_iload_n hx hb d_Mo_add_67 rfl (lv_at hl 1 rfl) ?_
        refine lv_dup2_11 hx hb d_Mo_add_68 rfl (rn_cat _) ?_
        obtain ⟨g_35, g_36, h⟩ := h
        refine mp_iald (t0 := 1) E hp g_35 (by decide) rfl rfl g_36 d_Mo_add_69 (fun x_34 ex_34 => ?_)
        replace h := h x_34 ex_34
        refine lv_iconst (v := 1) hx hb d_Mo_add_70 (by decide) ?_
        refine lv_iadd hx hb d_Mo_add_71 ?_
        refine lv_topi (fun x_37 ex_37 => ?_)
        replace h := h x_37 ex_37
        obtain ⟨g_38, g_39, h⟩ := h
        refine mp_iast (t0 := 1) E hp hS g_38 (by decide) rfl cw_29 rfl g_39 d_Mo_add_72 (fun m_40 em_40 H locs hp hS => ?_)
        replace h := h m_40 em_40
        refine rr_aload_n hx hb d_Mo_add_73 rfl (lv_at hl 0 rfl) ?_
        obtain ⟨g_42, h⟩ := h
        refine rg_Mo_size E hp g_42 lk_336 d_Mo_add_74 (fun x_41 ex_41 => ?_)
        replace h := h x_41 ex_41
        refine lv_iload_n hx hb d_Mo_add_77 rfl (lv_at hl 1 rfl) ?_
        obtain ⟨g_44, g_45, h⟩ := h
        refine mp_iald (t0 := 1) E hp g_44 (by decide) rfl rfl g_45 d_Mo_add_78 (fun x_43 ex_43 => ?_)
        replace h := h x_43 ex_43
        exact mp_iret E hr hp hS h d_Mo_add_79
      · replace h := h.1 g_19
        refine lv_bipush (v := (-4)) hx hb d_Mo_add_42 (by decide) ?_
        exact mp_iret E hr hp hS h d_Mo_add_44
    · replace h := h.2 g_13
      refine lv_bipush (v := (-3)) hx hb d_Mo_add_27 (by decide) ?_
      exact mp_iret E hr hp hS h d_Mo_add_29
  · replace h := h.2 g_6
    refine lv_iconst (v := (-1)) hx hb d_Mo_add_13 (by decide) ?_
    exact mp_iret E hr hp hS h d_Mo_add_14
set_option maxHeartbeats 4000000 in
set_option maxRecDepth 100000 in
theorem c_Mo_add (l : Launch) (G : Gc) (m : Mm) (v0 : Nat) (v1 : Int32) (v2 : Int32) (P : Int32 → Mm → Prop) (h : wp_Mo_add m v0 v1 v2 P) : Met l y_Mo_add (Cond.code y_Mo_add b_Mo_add 3 (some .int) :: lw_good) rm_Mo_add (Pre9 G m [rn v0, .int v1, .int v2]) (PoI G P) 0 0 (fr G) := by
  refine Met.ofW (cc := b_Mo_add) (maxL := 3) (ret := (some .int)) (by decide) rfl ?_
  intro p e s mt args below meth c s₁ B hml hv
  obtain ⟨rfl, hp, hC⟩ := hv
  have hts := atoms_spec (ws := Cond.code y_Mo_add b_Mo_add 3 (some .int) :: lw_good) B.pre
  have E : En G R_Mo b_Mo_add 3 p s mt _ meth c := ⟨B.exec, B.bytes, hml, findClass_of_methodNamed B.named, fun w hw => hts w (List.mem_cons_of_mem _ hw), hC, B.notSynchronized⟩
  have hr := B.returns
  have hl := lv_entry [rn v0, .int v1, .int v2] (n := 3) (by simp [lg_sl, rn_cat, cat_int, cat_long, cat_ref, cat_null])
  rw [lg_entry_eq]
  generalize (lg_sl [rn v0, .int v1, .int v2] ++ List.replicate (3 - (lg_sl [rn v0, .int v1, .int v2]).length) Slot.unset).toArray = ls at hl ⊢
  have hl : lv_has ls 3 [(0, rn v0), (1, .int v1), (2, .int v2)] := by simpa [lv_args, rn_cat, cat_int, cat_long, cat_ref, cat_null] using hl
  exact t_Mo_add_0 E hr m v0 v1 v2 _ _ _ h hp va_S.rf (lv_sub hl [0, 1, 2] rfl)
abbrev rm_Mo_ended : Room := { frames := 1, cells := 0, slots := 0, locals := 22 }
set_option maxHeartbeats 4000000 in
set_option maxRecDepth 100000 in
theorem t_Mo_ended_0 {G : Gc} {P : Int32 → Mm → Prop} (E : En G R_Mo b_Mo_ended 3 p s mt args meth c) (hr : meth.sig.returnType = some .int) (m : Mm) (v0 : Nat) (v1 : Int32) (v2 : Int32) (H : Heap) (locs : List Loc) (ls : Array Slot) (h : wp_Mo_ended_0 P m v0 v1 v2) (hp : pic G m H) (hS : va_S (fr G) s.heap H locs) (hl : lv_has ls 3 [(0, rn v0), (1, .int v1), (2, .int v2)]) : W p l e rm_Mo_ended s mt args below meth c H locs 0 0 (MQ below (PoI G P) args s 0 0 (fr G)) (F0 mt 0 ls []) := by
  have hx := E.1
  have hb := E.2.1
  unfold wp_Mo_ended_0 at h
  refine rr_aload_n hx hb d_Mo_ended_0 rfl (lv_at hl 0 rfl) ?_
  refine lv_iconst (v := 0) hx hb d_Mo_ended_1 (by decide) ?_
  obtain ⟨g_1, h⟩ := h
  refine rp_Mo_code E hp hS g_1 lk_356 d_Mo_ended_2 (fun m_2 em_2 H locs hp hS => ?_)
  replace h := h m_2 em_2
  refine rr_aload_n hx hb d_Mo_ended_5 rfl (lv_at hl 0 rfl) ?_
  refine lv_iload_n hx hb d_Mo_ended_6 rfl (lv_at hl 1 rfl) ?_
  obtain ⟨g_5, h⟩ := h
  refine mc_i hS (mc_runV (As := [.int v1]) (rest := []) E (c_Mo_noJob l G m_2 v0 v1 _ h) wd_Mo_noJob ⟨lk_358, lk_359, lk_360⟩ rfl rfl ⟨Nat.le_of_ble_eq_true rfl, Nat.le_of_ble_eq_true rfl⟩ hp hS g_5 (by decide) rfl rfl rfl hl.1 rfl (lv_room (Nat.le_of_ble_eq_true rfl)) d_Mo_ended_7 ⟨Nat.le_of_ble_eq_true rfl, Nat.le_of_ble_eq_true rfl⟩) (fun r_4 m_3 h H locs hp hS => ?_)
  try dsimp only at h
  refine lv_if_eq (tgt := 17) hx hb d_Mo_ended_10 (by decide) (fun g_6 => ?_) (fun g_6 => ?_)
  · replace h := h.1 g_6
    refine lv_iload_n hx hb d_Mo_ended_17 rfl (lv_at hl 2 rfl) ?_
    refine lv_iconst (v := 0) hx hb d_Mo_ended_18 (by decide) ?_
    refine lv_iconst (v := 5) hx hb d_Mo_ended_19 (by decide) ?_
    refine mc_i hS (mc_runS (As := [.int v2, .int 0, .int 5]) (rest := []) E (c_Mo_in l G m_3 v2 0 5 _ h) wd_Mo_in ⟨lk_361, lk_362⟩ rfl rfl ⟨Nat.le_of_ble_eq_true rfl, Nat.le_of_ble_eq_true rfl⟩ hp hS rfl hl.1 rfl (lv_room (Nat.le_of_ble_eq_true rfl)) d_Mo_ended_20 ⟨Nat.le_of_ble_eq_true rfl, Nat.le_of_ble_eq_true rfl⟩) (fun r_8 m_7 h H locs hp hS => ?_)
    try dsimp only at h
    refine lv_if_eq (tgt := 40) hx hb d_Mo_ended_23 (by decide) (fun g_9 => ?_) (fun g_9 => ?_)
    · replace h := h.1 g_9
      refine lv_bipush (v := (-2)) hx hb d_Mo_ended_40 (by decide) ?_
      exact mp_iret E hr hp hS h d_Mo_ended_42
    · replace h := h.2 g_9
      refine rr_aload_n hx hb d_Mo_ended_26 rfl (lv_at hl 0 rfl) ?_
      obtain ⟨g_11, h⟩ := h
      refine rg_Mo_told E hp g_11 lk_337 d_Mo_ended_27 (fun x_10 ex_10 => ?_)
      replace h := h x_10 ex_10
      refine lv_bipush (v := 6) hx hb d_Mo_ended_30 (by decide) ?_
      refine lv_iload_n hx hb d_Mo_ended_32 rfl (lv_at hl 1 rfl) ?_
      refine lv_imul hx hb d_Mo_ended_33 ?_
      refine lv_topi (fun x_12 ex_12 => ?_)
      replace h := h x_12 ex_12
      refine lv_iload_n hx hb d_Mo_ended_34 rfl (lv_at hl 2 rfl) ?_
      refine lv_iadd hx hb d_Mo_ended_35 ?_
      refine lv_topi (fun x_13 ex_13 => ?_)
      replace h := h x_13 ex_13
      obtain ⟨g_15, g_16, h⟩ := h
      refine mp_iald (t0 := 1) E hp g_15 (by decide) rfl rfl g_16 d_Mo_ended_36 (fun x_14 ex_14 => ?_)
      replace h := h x_14 ex_14
      refine lv_goto (tgt := 42) hx hb d_Mo_ended_37 (by decide) ?_
      exact mp_iret E hr hp hS h d_Mo_ended_42
  · replace h := h.2 g_6
    refine lv_iconst (v := (-1)) hx hb d_Mo_ended_13 (by decide) ?_
    refine lv_goto (tgt := 42) hx hb d_Mo_ended_14 (by decide) ?_
    exact mp_iret E hr hp hS h d_Mo_ended_42
set_option maxHeartbeats 4000000 in
set_option maxRecDepth 100000 in
theorem c_Mo_ended (l : Launch) (G : Gc) (m : Mm) (v0 : Nat) (v1 : Int32) (v2 : Int32) (P : Int32 → Mm → Prop) (h : wp_Mo_ended m v0 v1 v2 P) : Met l y_Mo_ended (Cond.code y_Mo_ended b_Mo_ended 3 (some .int) :: lw_good) rm_Mo_ended (Pre9 G m [rn v0, .int v1, .int v2]) (PoI G P) 0 0 (fr G) := by
  refine Met.ofW (cc := b_Mo_ended) (maxL := 3) (ret := (some .int)) (by decide) rfl ?_
  intro p e s mt args below meth c s₁ B hml hv
  obtain ⟨rfl, hp, hC⟩ := hv
  have hts := atoms_spec (ws := Cond.code y_Mo_ended b_Mo_ended 3 (some .int) :: lw_good) B.pre
  have E : En G R_Mo b_Mo_ended 3 p s mt _ meth c := ⟨B.exec, B.bytes, hml, findClass_of_methodNamed B.named, fun w hw => hts w (List.mem_cons_of_mem _ hw), hC, B.notSynchronized⟩
  have hr := B.returns
  have hl := lv_entry [rn v0, .int v1, .int v2] (n := 3) (by simp [lg_sl, rn_cat, cat_int, cat_long, cat_ref, cat_null])
  rw [lg_entry_eq]
  generalize (lg_sl [rn v0, .int v1, .int v2] ++ List.replicate (3 - (lg_sl [rn v0, .int v1, .int v2]).length) Slot.unset).toArray = ls at hl ⊢
  have hl : lv_has ls 3 [(0, rn v0), (1, .int v1), (2, .int v2)] := by simpa [lv_args, rn_cat, cat_int, cat_long, cat_ref, cat_null] using hl
  exact t_Mo_ended_0 E hr m v0 v1 v2 _ _ _ h hp va_S.rf (lv_sub hl [0, 1, 2] rfl)
abbrev rm_Mo_page : Room := { frames := 1, cells := 0, slots := 0, locals := 21 }
set_option maxHeartbeats 4000000 in
set_option maxRecDepth 100000 in
theorem t_Mo_page_32 {G : Gc} {P : Int32 → Mm → Prop} (E : En G R_Mo b_Mo_page 3 p s mt args meth c) (hr : meth.sig.returnType = some .int) (m : Mm) (H : Heap) (locs : List Loc) (ls : Array Slot) (h : wp_Mo_page_32 P m) (hp : pic G m H) (hS : va_S (fr G) s.heap H locs) (hl : lv_has ls 3 []) : W p l e rm_Mo_page s mt args below meth c H locs 0 0 (MQ below (PoI G P) args s 0 0 (fr G)) (F0 mt 32 ls []) := by
  have hx := E.1
  have hb := E.2.1
  unfold wp_Mo_page_32 at h
  refine lv_iconst (v := 0) hx hb d_Mo_page_32 (by decide) ?_
  refine lv_goto (tgt := 47) hx hb d_Mo_page_33 (by decide) ?_
  exact mp_iret E hr hp hS h d_Mo_page_47
set_option maxHeartbeats 4000000 in
set_option maxRecDepth 100000 in
theorem t_Mo_page_0 {G : Gc} {P : Int32 → Mm → Prop} (E : En G R_Mo b_Mo_page 3 p s mt args meth c) (hr : meth.sig.returnType = some .int) (m : Mm) (v0 : Nat) (v1 : Int32) (v2 : Int32) (H : Heap) (locs : List Loc) (ls : Array Slot) (h : wp_Mo_page_0 P m v0 v1 v2) (hp : pic G m H) (hS : va_S (fr G) s.heap H locs) (hl : lv_has ls 3 [(0, rn v0), (1, .int v1), (2, .int v2)]) : W p l e rm_Mo_page s mt args below meth c H locs 0 0 (MQ below (PoI G P) args s 0 0 (fr G)) (F0 mt 0 ls []) := by
  have hx := E.1
  have hb := E.2.1
  unfold wp_Mo_page_0 at h
  refine rr_aload_n hx hb d_Mo_page_0 rfl (lv_at hl 0 rfl) ?_
  refine lv_iconst (v := 0) hx hb d_Mo_page_1 (by decide) ?_
  obtain ⟨g_1, h⟩ := h
  refine rp_Mo_code E hp hS g_1 lk_356 d_Mo_page_2 (fun m_2 em_2 H locs hp hS => ?_)
  replace h := h m_2 em_2
  refine rr_aload_n hx hb d_Mo_page_5 rfl (lv_at hl 0 rfl) ?_
  refine lv_iload_n hx hb d_Mo_page_6 rfl (lv_at hl 1 rfl) ?_
  obtain ⟨g_5, h⟩ := h
  refine mc_i hS (mc_runV (As := [.int v1]) (rest := []) E (c_Mo_noJob l G m_2 v0 v1 _ h) wd_Mo_noJob ⟨lk_358, lk_359, lk_360⟩ rfl rfl ⟨Nat.le_of_ble_eq_true rfl, Nat.le_of_ble_eq_true rfl⟩ hp hS g_5 (by decide) rfl rfl rfl hl.1 rfl (lv_room (Nat.le_of_ble_eq_true rfl)) d_Mo_page_7 ⟨Nat.le_of_ble_eq_true rfl, Nat.le_of_ble_eq_true rfl⟩) (fun r_4 m_3 h H locs hp hS => ?_)
  try dsimp only at h
  refine lv_if_ne (tgt := 32) hx hb d_Mo_page_10 (by decide) (fun g_6 => ?_) (fun g_6 => ?_)
  · replace h := h.2 g_6
    exact t_Mo_page_32 E hr m_3 _ _ _ h hp hS (lv_sub hl [] rfl)
  · replace h := h.1 g_6
    refine lv_iload_n hx hb d_Mo_page_13 rfl (lv_at hl 2 rfl) ?_
    refine lv_if_lt (tgt := 32) hx hb d_Mo_page_14 (by decide) (fun g_7 => ?_) (fun g_7 => ?_)
    · replace h := h.1 g_7
      exact t_Mo_page_32 E hr m_3 _ _ _ h hp hS (lv_sub hl [] rfl)
    · replace h := h.2 g_7
      refine lv_iload_n hx hb d_Mo_page_17 rfl (lv_at hl 2 rfl) ?_
      refine rr_aload_n hx hb d_Mo_page_18 rfl (lv_at hl 0 rfl) ?_
      obtain ⟨g_9, h⟩ := h
      refine rg_Mo_told E hp g_9 lk_337 d_Mo_page_19 (fun x_8 ex_8 => ?_)
      replace h := h x_8 ex_8
      refine lv_bipush (v := 6) hx hb d_Mo_page_22 (by decide) ?_
      refine lv_iload_n hx hb d_Mo_page_24 rfl (lv_at hl 1 rfl) ?_
      refine lv_imul hx hb d_Mo_page_25 ?_
      refine lv_topi (fun x_10 ex_10 => ?_)
      replace h := h x_10 ex_10
      refine lv_iconst (v := 3) hx hb d_Mo_page_26 (by decide) ?_
      refine lv_iadd hx hb d_Mo_page_27 ?_
      refine lv_topi (fun x_11 ex_11 => ?_)
      replace h := h x_11 ex_11
      obtain ⟨g_13, g_14, h⟩ := h
      refine mp_iald (t0 := 1) E hp g_13 (by decide) rfl rfl g_14 d_Mo_page_28 (fun x_12 ex_12 => ?_)
      replace h := h x_12 ex_12
      refine lv_icmp_lt (tgt := 36) hx hb d_Mo_page_29 (by decide) (fun g_15 => ?_) (fun g_15 => ?_)
      · replace h := h.1 g_15
        refine rr_aload_n hx hb d_Mo_page_36 rfl (lv_at hl 0 rfl) ?_
        obtain ⟨g_17, h⟩ := h
        refine rg_Mo_pages E hp g_17 lk_338 d_Mo_page_37 (fun x_16 ex_16 => ?_)
        replace h := h x_16 ex_16
        refine lv_bipush (v := 40) hx hb d_Mo_page_40 (by decide) ?_
        refine lv_iload_n hx hb d_Mo_page_42 rfl (lv_at hl 1 rfl) ?_
        refine lv_imul hx hb d_Mo_page_43 ?_
        refine lv_topi (fun x_18 ex_18 => ?_)
        replace h := h x_18 ex_18
        refine lv_iload_n hx hb d_Mo_page_44 rfl (lv_at hl 2 rfl) ?_
        refine lv_iadd hx hb d_Mo_page_45 ?_
        refine lv_topi (fun x_19 ex_19 => ?_)
        replace h := h x_19 ex_19
        obtain ⟨g_21, g_22, h⟩ := h
        refine mp_iald (t0 := 1) E hp g_21 (by decide) rfl rfl g_22 d_Mo_page_46 (fun x_20 ex_20 => ?_)
        replace h := h x_20 ex_20
        exact mp_iret E hr hp hS h d_Mo_page_47
      · replace h := h.2 g_15
        exact t_Mo_page_32 E hr m_3 _ _ _ h hp hS (lv_sub hl [] rfl)
set_option maxHeartbeats 4000000 in
set_option maxRecDepth 100000 in
theorem c_Mo_page (l : Launch) (G : Gc) (m : Mm) (v0 : Nat) (v1 : Int32) (v2 : Int32) (P : Int32 → Mm → Prop) (h : wp_Mo_page m v0 v1 v2 P) : Met l y_Mo_page (Cond.code y_Mo_page b_Mo_page 3 (some .int) :: lw_good) rm_Mo_page (Pre9 G m [rn v0, .int v1, .int v2]) (PoI G P) 0 0 (fr G) := by
  refine Met.ofW (cc := b_Mo_page) (maxL := 3) (ret := (some .int)) (by decide) rfl ?_
  intro p e s mt args below meth c s₁ B hml hv
  obtain ⟨rfl, hp, hC⟩ := hv
  have hts := atoms_spec (ws := Cond.code y_Mo_page b_Mo_page 3 (some .int) :: lw_good) B.pre
  have E : En G R_Mo b_Mo_page 3 p s mt _ meth c := ⟨B.exec, B.bytes, hml, findClass_of_methodNamed B.named, fun w hw => hts w (List.mem_cons_of_mem _ hw), hC, B.notSynchronized⟩
  have hr := B.returns
  have hl := lv_entry [rn v0, .int v1, .int v2] (n := 3) (by simp [lg_sl, rn_cat, cat_int, cat_long, cat_ref, cat_null])
  rw [lg_entry_eq]
  generalize (lg_sl [rn v0, .int v1, .int v2] ++ List.replicate (3 - (lg_sl [rn v0, .int v1, .int v2]).length) Slot.unset).toArray = ls at hl ⊢
  have hl : lv_has ls 3 [(0, rn v0), (1, .int v1), (2, .int v2)] := by simpa [lv_args, rn_cat, cat_int, cat_long, cat_ref, cat_null] using hl
  exact t_Mo_page_0 E hr m v0 v1 v2 _ _ _ h hp va_S.rf (lv_sub hl [0, 1, 2] rfl)
abbrev rm_Mo_isSetting : Room := { frames := 1, cells := 0, slots := 0, locals := 22 }
set_option maxHeartbeats 4000000 in
set_option maxRecDepth 100000 in
theorem t_Mo_isSetting_38 {G : Gc} {P : Int32 → Mm → Prop} (E : En G R_Mo b_Mo_isSetting 2 p s mt args meth c) (hr : meth.sig.returnType = some .boolean) (m : Mm) (v1 : Int32) (H : Heap) (locs : List Loc) (ls : Array Slot) (h : wp_Mo_isSetting_38 P m v1) (hp : pic G m H) (hS : va_S (fr G) s.heap H locs) (hl : lv_has ls 2 [(1, .int v1)]) : W p l e rm_Mo_isSetting s mt args below meth c H locs 0 0 (MQ below (PoI G P) args s 0 0 (fr G)) (F0 mt 38 ls []) := by
  have hx := E.1
  have hb := E.2.1
  unfold wp_Mo_isSetting_38 at h
  refine lv_iload_n hx hb d_Mo_isSetting_38 rfl (lv_at hl 0 rfl) ?_
  refine lv_iconst (v := 0) hx hb d_Mo_isSetting_39 (by decide) ?_
  refine lv_iconst (v := 1) hx hb d_Mo_isSetting_40 (by decide) ?_
  refine mc_i hS (mc_runS (As := [.int v1, .int 0, .int 1]) (rest := []) E (c_Mo_in l G m v1 0 1 _ h) wd_Mo_in ⟨lk_361, lk_362⟩ rfl rfl ⟨Nat.le_of_ble_eq_true rfl, Nat.le_of_ble_eq_true rfl⟩ hp hS rfl hl.1 rfl (lv_room (Nat.le_of_ble_eq_true rfl)) d_Mo_isSetting_41 ⟨Nat.le_of_ble_eq_true rfl, Nat.le_of_ble_eq_true rfl⟩) (fun r_2 m_1 h H locs hp hS => ?_)
  try dsimp only at h
  refine lv_if_eq (tgt := 51) hx hb d_Mo_isSetting_44 (by decide) (fun g_3 => ?_) (fun g_3 => ?_)
  · replace h := h.1 g_3
    refine lv_iconst (v := 0) hx hb d_Mo_isSetting_51 (by decide) ?_
    exact mp_zret E hr hp hS (by decide) h d_Mo_isSetting_52
  · replace h := h.2 g_3
    refine lv_iconst (v := 1) hx hb d_Mo_isSetting_47 (by decide) ?_
    refine lv_goto (tgt := 52) hx hb d_Mo_isSetting_48 (by decide) ?_
    exact mp_zret E hr hp hS (by decide) h d_Mo_isSetting_52
set_option maxHeartbeats 4000000 in
set_option maxRecDepth 100000 in
theorem t_Mo_isSetting_0 {G : Gc} {P : Int32 → Mm → Prop} (E : En G R_Mo b_Mo_isSetting 2 p s mt args meth c) (hr : meth.sig.returnType = some .boolean) (m : Mm) (v0 : Int32) (v1 : Int32) (H : Heap) (locs : List Loc) (ls : Array Slot) (h : wp_Mo_isSetting_0 P m v0 v1) (hp : pic G m H) (hS : va_S (fr G) s.heap H locs) (hl : lv_has ls 2 [(0, .int v0), (1, .int v1)]) : W p l e rm_Mo_isSetting s mt args below meth c H locs 0 0 (MQ below (PoI G P) args s 0 0 (fr G)) (F0 mt 0 ls []) := by
  have hx := E.1
  have hb := E.2.1
  unfold wp_Mo_isSetting_0 at h
  refine lv_iload_n hx hb d_Mo_isSetting_0 rfl (lv_at hl 0 rfl) ?_
  refine lv_if_ne (tgt := 13) hx hb d_Mo_isSetting_1 (by decide) (fun g_1 => ?_) (fun g_1 => ?_)
  · replace h := h.2 g_1
    refine lv_iload_n hx hb d_Mo_isSetting_13 rfl (lv_at hl 0 rfl) ?_
    refine lv_iconst (v := 1) hx hb d_Mo_isSetting_14 (by decide) ?_
    refine lv_icmp_ne (tgt := 28) hx hb d_Mo_isSetting_15 (by decide) (fun g_2 => ?_) (fun g_2 => ?_)
    · replace h := h.2 g_2
      refine lv_iload_n hx hb d_Mo_isSetting_28 rfl (lv_at hl 0 rfl) ?_
      refine lv_iconst (v := 2) hx hb d_Mo_isSetting_29 (by decide) ?_
      refine lv_icmp_eq (tgt := 38) hx hb d_Mo_isSetting_30 (by decide) (fun g_3 => ?_) (fun g_3 => ?_)
      · replace h := h.1 g_3
        exact t_Mo_isSetting_38 E hr m v1 _ _ _ h hp hS (lv_sub hl [1] rfl)
      · replace h := h.2 g_3
        refine lv_iload_n hx hb d_Mo_isSetting_33 rfl (lv_at hl 0 rfl) ?_
        refine lv_iconst (v := 3) hx hb d_Mo_isSetting_34 (by decide) ?_
        refine lv_icmp_ne (tgt := 51) hx hb d_Mo_isSetting_35 (by decide) (fun g_4 => ?_) (fun g_4 => ?_)
        · replace h := h.2 g_4
          refine lv_iconst (v := 0) hx hb d_Mo_isSetting_51 (by decide) ?_
          exact mp_zret E hr hp hS (by decide) h d_Mo_isSetting_52
        · replace h := h.1 g_4
          exact t_Mo_isSetting_38 E hr m v1 _ _ _ h hp hS (lv_sub hl [1] rfl)
    · replace h := h.1 g_2
      refine lv_iload_n hx hb d_Mo_isSetting_18 rfl (lv_at hl 1 rfl) ?_
      refine lv_iconst (v := 1) hx hb d_Mo_isSetting_19 (by decide) ?_
      refine lv_bipush (v := 9) hx hb d_Mo_isSetting_20 (by decide) ?_
      refine mc_i hS (mc_runS (As := [.int v1, .int 1, .int 9]) (rest := []) E (c_Mo_in l G m v1 1 9 _ h) wd_Mo_in ⟨lk_361, lk_362⟩ rfl rfl ⟨Nat.le_of_ble_eq_true rfl, Nat.le_of_ble_eq_true rfl⟩ hp hS rfl hl.1 rfl (lv_room (Nat.le_of_ble_eq_true rfl)) d_Mo_isSetting_22 ⟨Nat.le_of_ble_eq_true rfl, Nat.le_of_ble_eq_true rfl⟩) (fun r_6 m_5 h H locs hp hS => ?_)
      try dsimp only at h
      refine lv_goto (tgt := 52) hx hb d_Mo_isSetting_25 (by decide) ?_
      exact mp_zret E hr hp hS (by rcases h.1 with e0 | e0 <;> rw [e0] <;> decide) h.2 d_Mo_isSetting_52
  · replace h := h.1 g_1
    refine lv_iload_n hx hb d_Mo_isSetting_4 rfl (lv_at hl 1 rfl) ?_
    refine lv_iconst (v := 0) hx hb d_Mo_isSetting_5 (by decide) ?_
    refine lv_iconst (v := 3) hx hb d_Mo_isSetting_6 (by decide) ?_
    refine mc_i hS (mc_runS (As := [.int v1, .int 0, .int 3]) (rest := []) E (c_Mo_in l G m v1 0 3 _ h) wd_Mo_in ⟨lk_361, lk_362⟩ rfl rfl ⟨Nat.le_of_ble_eq_true rfl, Nat.le_of_ble_eq_true rfl⟩ hp hS rfl hl.1 rfl (lv_room (Nat.le_of_ble_eq_true rfl)) d_Mo_isSetting_7 ⟨Nat.le_of_ble_eq_true rfl, Nat.le_of_ble_eq_true rfl⟩) (fun r_8 m_7 h H locs hp hS => ?_)
    try dsimp only at h
    refine lv_goto (tgt := 52) hx hb d_Mo_isSetting_10 (by decide) ?_
    exact mp_zret E hr hp hS (by rcases h.1 with e0 | e0 <;> rw [e0] <;> decide) h.2 d_Mo_isSetting_52
set_option maxHeartbeats 4000000 in
set_option maxRecDepth 100000 in
theorem c_Mo_isSetting (l : Launch) (G : Gc) (m : Mm) (v0 : Int32) (v1 : Int32) (P : Int32 → Mm → Prop) (h : wp_Mo_isSetting m v0 v1 P) : Met l y_Mo_isSetting (Cond.code y_Mo_isSetting b_Mo_isSetting 2 (some .boolean) :: lw_good) rm_Mo_isSetting (Pre9 G m [.int v0, .int v1]) (PoI G P) 0 0 (fr G) := by
  refine Met.ofW (cc := b_Mo_isSetting) (maxL := 2) (ret := (some .boolean)) (by decide) rfl ?_
  intro p e s mt args below meth c s₁ B hml hv
  obtain ⟨rfl, hp, hC⟩ := hv
  have hts := atoms_spec (ws := Cond.code y_Mo_isSetting b_Mo_isSetting 2 (some .boolean) :: lw_good) B.pre
  have E : En G R_Mo b_Mo_isSetting 2 p s mt _ meth c := ⟨B.exec, B.bytes, hml, findClass_of_methodNamed B.named, fun w hw => hts w (List.mem_cons_of_mem _ hw), hC, B.notSynchronized⟩
  have hr := B.returns
  have hl := lv_entry [.int v0, .int v1] (n := 2) (by simp [lg_sl, rn_cat, cat_int, cat_long, cat_ref, cat_null])
  rw [lg_entry_eq]
  generalize (lg_sl [.int v0, .int v1] ++ List.replicate (2 - (lg_sl [.int v0, .int v1]).length) Slot.unset).toArray = ls at hl ⊢
  have hl : lv_has ls 2 [(0, .int v0), (1, .int v1)] := by simpa [lv_args, rn_cat, cat_int, cat_long, cat_ref, cat_null] using hl
  exact t_Mo_isSetting_0 E hr m v0 v1 _ _ _ h hp va_S.rf (lv_sub hl [0, 1] rfl)
abbrev rm_Mo_device : Room := { frames := 2, cells := 0, slots := 0, locals := 43 }
set_option maxHeartbeats 4000000 in
set_option maxRecDepth 100000 in
theorem t_Mo_device_0 {G : Gc} {P : Int32 → Mm → Prop} (E : En G R_Mo b_Mo_device 3 p s mt args meth c) (hr : meth.sig.returnType = some .int) (m : Mm) (v0 : Nat) (v1 : Int32) (v2 : Int32) (H : Heap) (locs : List Loc) (ls : Array Slot) (h : wp_Mo_device_0 P m v0 v1 v2) (hp : pic G m H) (hS : va_S (fr G) s.heap H locs) (hl : lv_has ls 3 [(0, rn v0), (1, .int v1), (2, .int v2)]) : W p l e rm_Mo_device s mt args below meth c H locs 0 0 (MQ below (PoI G P) args s 0 0 (fr G)) (F0 mt 0 ls []) := by
  have hx := E.1
  have hb := E.2.1
  unfold wp_Mo_device_0 at h
  refine rr_aload_n hx hb d_Mo_device_0 rfl (lv_at hl 0 rfl) ?_
  refine lv_iconst (v := 0) hx hb d_Mo_device_1 (by decide) ?_
  obtain ⟨g_1, h⟩ := h
  refine rp_Mo_code E hp hS g_1 lk_356 d_Mo_device_2 (fun m_2 em_2 H locs hp hS => ?_)
  replace h := h m_2 em_2
  refine lv_iload_n hx hb d_Mo_device_5 rfl (lv_at hl 1 rfl) ?_
  refine lv_iload_n hx hb d_Mo_device_6 rfl (lv_at hl 2 rfl) ?_
  refine mc_i hS (mc_runS (As := [.int v1, .int v2]) (rest := []) E (c_Mo_isSetting l G m_2 v1 v2 _ h) wd_Mo_isSetting ⟨lk_363, lk_364⟩ rfl rfl ⟨Nat.le_of_ble_eq_true rfl, Nat.le_of_ble_eq_true rfl⟩ hp hS rfl hl.1 rfl (lv_room (Nat.le_of_ble_eq_true rfl)) d_Mo_device_7 ⟨Nat.le_of_ble_eq_true rfl, Nat.le_of_ble_eq_true rfl⟩) (fun r_4 m_3 h H locs hp hS => ?_)
  try dsimp only at h
  refine lv_if_ne (tgt := 15) hx hb d_Mo_device_10 (by decide) (fun g_5 => ?_) (fun g_5 => ?_)
  · replace h := h.2 g_5
    refine rr_aload_n hx hb d_Mo_device_15 rfl (lv_at hl 0 rfl) ?_
    obtain ⟨g_7, h⟩ := h
    refine rg_Mo_setting E hp g_7 lk_339 d_Mo_device_16 (fun x_6 ex_6 => ?_)
    replace h := h x_6 ex_6
    refine lv_iload_n hx hb d_Mo_device_19 rfl (lv_at hl 1 rfl) ?_
    refine lv_iload_n hx hb d_Mo_device_20 rfl (lv_at hl 2 rfl) ?_
    obtain ⟨g_8, g_9, h⟩ := h
    refine mp_iast (t0 := 1) E hp hS g_8 (by decide) rfl cw_32 rfl g_9 d_Mo_device_21 (fun m_10 em_10 H locs hp hS => ?_)
    replace h := h m_10 em_10
    refine lv_iconst (v := 1) hx hb d_Mo_device_22 (by decide) ?_
    exact mp_iret E hr hp hS h d_Mo_device_23
  · replace h := h.1 g_5
    refine lv_iconst (v := 0) hx hb d_Mo_device_13 (by decide) ?_
    exact mp_iret E hr hp hS h d_Mo_device_14
set_option maxHeartbeats 4000000 in
set_option maxRecDepth 100000 in
theorem c_Mo_device (l : Launch) (G : Gc) (m : Mm) (v0 : Nat) (v1 : Int32) (v2 : Int32) (P : Int32 → Mm → Prop) (h : wp_Mo_device m v0 v1 v2 P) : Met l y_Mo_device (Cond.code y_Mo_device b_Mo_device 3 (some .int) :: lw_good) rm_Mo_device (Pre9 G m [rn v0, .int v1, .int v2]) (PoI G P) 0 0 (fr G) := by
  refine Met.ofW (cc := b_Mo_device) (maxL := 3) (ret := (some .int)) (by decide) rfl ?_
  intro p e s mt args below meth c s₁ B hml hv
  obtain ⟨rfl, hp, hC⟩ := hv
  have hts := atoms_spec (ws := Cond.code y_Mo_device b_Mo_device 3 (some .int) :: lw_good) B.pre
  have E : En G R_Mo b_Mo_device 3 p s mt _ meth c := ⟨B.exec, B.bytes, hml, findClass_of_methodNamed B.named, fun w hw => hts w (List.mem_cons_of_mem _ hw), hC, B.notSynchronized⟩
  have hr := B.returns
  have hl := lv_entry [rn v0, .int v1, .int v2] (n := 3) (by simp [lg_sl, rn_cat, cat_int, cat_long, cat_ref, cat_null])
  rw [lg_entry_eq]
  generalize (lg_sl [rn v0, .int v1, .int v2] ++ List.replicate (3 - (lg_sl [rn v0, .int v1, .int v2]).length) Slot.unset).toArray = ls at hl ⊢
  have hl : lv_has ls 3 [(0, rn v0), (1, .int v1), (2, .int v2)] := by simpa [lv_args, rn_cat, cat_int, cat_long, cat_ref, cat_null] using hl
  exact t_Mo_device_0 E hr m v0 v1 v2 _ _ _ h hp va_S.rf (lv_sub hl [0, 1, 2] rfl)
abbrev rm_Mo_define : Room := { frames := 1, cells := 0, slots := 0, locals := 22 }
set_option maxHeartbeats 4000000 in
set_option maxRecDepth 100000 in
theorem t_Mo_define_0 {G : Gc} {P : Int32 → Mm → Prop} (E : En G R_Mo b_Mo_define 4 p s mt args meth c) (hr : meth.sig.returnType = some .int) (m : Mm) (v0 : Nat) (v1 : Int32) (v2 : Int32) (v3 : Int32) (H : Heap) (locs : List Loc) (ls : Array Slot) (h : wp_Mo_define_0 P m v0 v1 v2 v3) (hp : pic G m H) (hS : va_S (fr G) s.heap H locs) (hl : lv_has ls 4 [(0, rn v0), (1, .int v1), (2, .int v2), (3, .int v3)]) : W p l e rm_Mo_define s mt args below meth c H locs 0 0 (MQ below (PoI G P) args s 0 0 (fr G)) (F0 mt 0 ls []) := by
  have hx := E.1
  have hb := E.2.1
  unfold wp_Mo_define_0 at h
  refine rr_aload_n hx hb d_Mo_define_0 rfl (lv_at hl 0 rfl) ?_
  refine lv_iconst (v := 0) hx hb d_Mo_define_1 (by decide) ?_
  obtain ⟨g_1, h⟩ := h
  refine rp_Mo_code E hp hS g_1 lk_356 d_Mo_define_2 (fun m_2 em_2 H locs hp hS => ?_)
  replace h := h m_2 em_2
  refine lv_iload_n hx hb d_Mo_define_5 rfl (lv_at hl 1 rfl) ?_
  refine lv_iconst (v := 0) hx hb d_Mo_define_6 (by decide) ?_
  refine lv_iconst (v := 3) hx hb d_Mo_define_7 (by decide) ?_
  refine mc_i hS (mc_runS (As := [.int v1, .int 0, .int 3]) (rest := []) E (c_Mo_in l G m_2 v1 0 3 _ h) wd_Mo_in ⟨lk_361, lk_362⟩ rfl rfl ⟨Nat.le_of_ble_eq_true rfl, Nat.le_of_ble_eq_true rfl⟩ hp hS rfl hl.1 rfl (lv_room (Nat.le_of_ble_eq_true rfl)) d_Mo_define_8 ⟨Nat.le_of_ble_eq_true rfl, Nat.le_of_ble_eq_true rfl⟩) (fun r_4 m_3 h H locs hp hS => ?_)
  try dsimp only at h
  refine lv_if_eq (tgt := 24) hx hb d_Mo_define_11 (by decide) (fun g_5 => ?_) (fun g_5 => ?_)
  · replace h := h.1 g_5
    refine lv_iconst (v := (-1)) hx hb d_Mo_define_24 (by decide) ?_
    exact mp_iret E hr hp hS h d_Mo_define_25
  · replace h := h.2 g_5
    refine lv_iload_n hx hb d_Mo_define_14 rfl (lv_at hl 2 rfl) ?_
    refine lv_iconst (v := 0) hx hb d_Mo_define_15 (by decide) ?_
    refine lv_bipush (v := 9) hx hb d_Mo_define_16 (by decide) ?_
    refine mc_i hS (mc_runS (As := [.int v2, .int 0, .int 9]) (rest := []) E (c_Mo_in l G m_3 v2 0 9 _ h) wd_Mo_in ⟨lk_361, lk_362⟩ rfl rfl ⟨Nat.le_of_ble_eq_true rfl, Nat.le_of_ble_eq_true rfl⟩ hp hS rfl hl.1 rfl (lv_room (Nat.le_of_ble_eq_true rfl)) d_Mo_define_18 ⟨Nat.le_of_ble_eq_true rfl, Nat.le_of_ble_eq_true rfl⟩) (fun r_7 m_6 h H locs hp hS => ?_)
    try dsimp only at h
    refine lv_if_ne (tgt := 26) hx hb d_Mo_define_21 (by decide) (fun g_8 => ?_) (fun g_8 => ?_)
    · replace h := h.2 g_8
      refine lv_iload_n hx hb d_Mo_define_26 rfl (lv_at hl 3 rfl) ?_
      refine lv_iconst (v := 0) hx hb d_Mo_define_27 (by decide) ?_
      refine lv_sipush (v := 9999) hx hb d_Mo_define_28 (by decide) ?_
      refine mc_i hS (mc_runS (As := [.int v3, .int 0, .int 9999]) (rest := []) E (c_Mo_in l G m_6 v3 0 9999 _ h) wd_Mo_in ⟨lk_361, lk_362⟩ rfl rfl ⟨Nat.le_of_ble_eq_true rfl, Nat.le_of_ble_eq_true rfl⟩ hp hS rfl hl.1 rfl (lv_room (Nat.le_of_ble_eq_true rfl)) d_Mo_define_31 ⟨Nat.le_of_ble_eq_true rfl, Nat.le_of_ble_eq_true rfl⟩) (fun r_10 m_9 h H locs hp hS => ?_)
      try dsimp only at h
      refine lv_if_ne (tgt := 40) hx hb d_Mo_define_34 (by decide) (fun g_11 => ?_) (fun g_11 => ?_)
      · replace h := h.2 g_11
        refine rr_aload_n hx hb d_Mo_define_40 rfl (lv_at hl 0 rfl) ?_
        obtain ⟨g_13, h⟩ := h
        refine rg_Mo_resource E hp g_13 lk_332 d_Mo_define_41 (fun x_12 ex_12 => ?_)
        replace h := h x_12 ex_12
        refine lv_bipush (v := 10) hx hb d_Mo_define_44 (by decide) ?_
        refine lv_iload_n hx hb d_Mo_define_46 rfl (lv_at hl 1 rfl) ?_
        refine lv_imul hx hb d_Mo_define_47 ?_
        refine lv_topi (fun x_14 ex_14 => ?_)
        replace h := h x_14 ex_14
        refine lv_iload_n hx hb d_Mo_define_48 rfl (lv_at hl 2 rfl) ?_
        refine lv_iadd hx hb d_Mo_define_49 ?_
        refine lv_topi (fun x_15 ex_15 => ?_)
        replace h := h x_15 ex_15
        refine lv_iload_n hx hb d_Mo_define_50 rfl (lv_at hl 3 rfl) ?_
        obtain ⟨g_16, g_17, h⟩ := h
        refine mp_iast (t0 := 1) E hp hS g_16 (by decide) rfl cw_33 rfl g_17 d_Mo_define_51 (fun m_18 em_18 H locs hp hS => ?_)
        replace h := h m_18 em_18
        refine lv_iconst (v := 1) hx hb d_Mo_define_52 (by decide) ?_
        exact mp_iret E hr hp hS h d_Mo_define_53
      · replace h := h.1 g_11
        refine lv_bipush (v := (-2)) hx hb d_Mo_define_37 (by decide) ?_
        exact mp_iret E hr hp hS h d_Mo_define_39
    · replace h := h.1 g_8
      refine lv_iconst (v := (-1)) hx hb d_Mo_define_24 (by decide) ?_
      exact mp_iret E hr hp hS h d_Mo_define_25
set_option maxHeartbeats 4000000 in
set_option maxRecDepth 100000 in
theorem c_Mo_define (l : Launch) (G : Gc) (m : Mm) (v0 : Nat) (v1 : Int32) (v2 : Int32) (v3 : Int32) (P : Int32 → Mm → Prop) (h : wp_Mo_define m v0 v1 v2 v3 P) : Met l y_Mo_define (Cond.code y_Mo_define b_Mo_define 4 (some .int) :: lw_good) rm_Mo_define (Pre9 G m [rn v0, .int v1, .int v2, .int v3]) (PoI G P) 0 0 (fr G) := by
  refine Met.ofW (cc := b_Mo_define) (maxL := 4) (ret := (some .int)) (by decide) rfl ?_
  intro p e s mt args below meth c s₁ B hml hv
  obtain ⟨rfl, hp, hC⟩ := hv
  have hts := atoms_spec (ws := Cond.code y_Mo_define b_Mo_define 4 (some .int) :: lw_good) B.pre
  have E : En G R_Mo b_Mo_define 4 p s mt _ meth c := ⟨B.exec, B.bytes, hml, findClass_of_methodNamed B.named, fun w hw => hts w (List.mem_cons_of_mem _ hw), hC, B.notSynchronized⟩
  have hr := B.returns
  have hl := lv_entry [rn v0, .int v1, .int v2, .int v3] (n := 4) (by simp [lg_sl, rn_cat, cat_int, cat_long, cat_ref, cat_null])
  rw [lg_entry_eq]
  generalize (lg_sl [rn v0, .int v1, .int v2, .int v3] ++ List.replicate (4 - (lg_sl [rn v0, .int v1, .int v2, .int v3]).length) Slot.unset).toArray = ls at hl ⊢
  have hl : lv_has ls 4 [(0, rn v0), (1, .int v1), (2, .int v2), (3, .int v3)] := by simpa [lv_args, rn_cat, cat_int, cat_long, cat_ref, cat_null] using hl
  exact t_Mo_define_0 E hr m v0 v1 v2 v3 _ _ _ h hp va_S.rf (lv_sub hl [0, 1, 2, 3] rfl)
abbrev rm_Mo_resource : Room := { frames := 1, cells := 0, slots := 0, locals := 22 }
set_option maxHeartbeats 4000000 in
set_option maxRecDepth 100000 in
theorem t_Mo_resource_0 {G : Gc} {P : Int32 → Mm → Prop} (E : En G R_Mo b_Mo_resource 3 p s mt args meth c) (hr : meth.sig.returnType = some .int) (m : Mm) (v0 : Nat) (v1 : Int32) (v2 : Int32) (H : Heap) (locs : List Loc) (ls : Array Slot) (h : wp_Mo_resource_0 P m v0 v1 v2) (hp : pic G m H) (hS : va_S (fr G) s.heap H locs) (hl : lv_has ls 3 [(0, rn v0), (1, .int v1), (2, .int v2)]) : W p l e rm_Mo_resource s mt args below meth c H locs 0 0 (MQ below (PoI G P) args s 0 0 (fr G)) (F0 mt 0 ls []) := by
  have hx := E.1
  have hb := E.2.1
  unfold wp_Mo_resource_0 at h
  refine rr_aload_n hx hb d_Mo_resource_0 rfl (lv_at hl 0 rfl) ?_
  refine lv_iconst (v := 0) hx hb d_Mo_resource_1 (by decide) ?_
  obtain ⟨g_1, h⟩ := h
  refine rp_Mo_code E hp hS g_1 lk_356 d_Mo_resource_2 (fun m_2 em_2 H locs hp hS => ?_)
  replace h := h m_2 em_2
  refine lv_iload_n hx hb d_Mo_resource_5 rfl (lv_at hl 1 rfl) ?_
  refine lv_iconst (v := 0) hx hb d_Mo_resource_6 (by decide) ?_
  refine lv_iconst (v := 3) hx hb d_Mo_resource_7 (by decide) ?_
  refine mc_i hS (mc_runS (As := [.int v1, .int 0, .int 3]) (rest := []) E (c_Mo_in l G m_2 v1 0 3 _ h) wd_Mo_in ⟨lk_361, lk_362⟩ rfl rfl ⟨Nat.le_of_ble_eq_true rfl, Nat.le_of_ble_eq_true rfl⟩ hp hS rfl hl.1 rfl (lv_room (Nat.le_of_ble_eq_true rfl)) d_Mo_resource_8 ⟨Nat.le_of_ble_eq_true rfl, Nat.le_of_ble_eq_true rfl⟩) (fun r_4 m_3 h H locs hp hS => ?_)
  try dsimp only at h
  refine lv_if_eq (tgt := 24) hx hb d_Mo_resource_11 (by decide) (fun g_5 => ?_) (fun g_5 => ?_)
  · replace h := h.1 g_5
    refine lv_iconst (v := (-1)) hx hb d_Mo_resource_24 (by decide) ?_
    exact mp_iret E hr hp hS h d_Mo_resource_25
  · replace h := h.2 g_5
    refine lv_iload_n hx hb d_Mo_resource_14 rfl (lv_at hl 2 rfl) ?_
    refine lv_iconst (v := 0) hx hb d_Mo_resource_15 (by decide) ?_
    refine lv_bipush (v := 9) hx hb d_Mo_resource_16 (by decide) ?_
    refine mc_i hS (mc_runS (As := [.int v2, .int 0, .int 9]) (rest := []) E (c_Mo_in l G m_3 v2 0 9 _ h) wd_Mo_in ⟨lk_361, lk_362⟩ rfl rfl ⟨Nat.le_of_ble_eq_true rfl, Nat.le_of_ble_eq_true rfl⟩ hp hS rfl hl.1 rfl (lv_room (Nat.le_of_ble_eq_true rfl)) d_Mo_resource_18 ⟨Nat.le_of_ble_eq_true rfl, Nat.le_of_ble_eq_true rfl⟩) (fun r_7 m_6 h H locs hp hS => ?_)
    try dsimp only at h
    refine lv_if_ne (tgt := 26) hx hb d_Mo_resource_21 (by decide) (fun g_8 => ?_) (fun g_8 => ?_)
    · replace h := h.2 g_8
      refine rr_aload_n hx hb d_Mo_resource_26 rfl (lv_at hl 0 rfl) ?_
      obtain ⟨g_10, h⟩ := h
      refine rg_Mo_resource E hp g_10 lk_332 d_Mo_resource_27 (fun x_9 ex_9 => ?_)
      replace h := h x_9 ex_9
      refine lv_bipush (v := 10) hx hb d_Mo_resource_30 (by decide) ?_
      refine lv_iload_n hx hb d_Mo_resource_32 rfl (lv_at hl 1 rfl) ?_
      refine lv_imul hx hb d_Mo_resource_33 ?_
      refine lv_topi (fun x_11 ex_11 => ?_)
      replace h := h x_11 ex_11
      refine lv_iload_n hx hb d_Mo_resource_34 rfl (lv_at hl 2 rfl) ?_
      refine lv_iadd hx hb d_Mo_resource_35 ?_
      refine lv_topi (fun x_12 ex_12 => ?_)
      replace h := h x_12 ex_12
      obtain ⟨g_14, g_15, h⟩ := h
      refine mp_iald (t0 := 1) E hp g_14 (by decide) rfl rfl g_15 d_Mo_resource_36 (fun x_13 ex_13 => ?_)
      replace h := h x_13 ex_13
      refine lv_if_ge (tgt := 45) hx hb d_Mo_resource_37 (by decide) (fun g_16 => ?_) (fun g_16 => ?_)
      · replace h := h.1 g_16
        refine rr_aload_n hx hb d_Mo_resource_45 rfl (lv_at hl 0 rfl) ?_
        obtain ⟨g_18, h⟩ := h
        refine rg_Mo_resource E hp g_18 lk_332 d_Mo_resource_46 (fun x_17 ex_17 => ?_)
        replace h := h x_17 ex_17
        refine lv_bipush (v := 10) hx hb d_Mo_resource_49 (by decide) ?_
        refine lv_iload_n hx hb d_Mo_resource_51 rfl (lv_at hl 1 rfl) ?_
        refine lv_imul hx hb d_Mo_resource_52 ?_
        refine lv_topi (fun x_19 ex_19 => ?_)
        replace h := h x_19 ex_19
        refine lv_iload_n hx hb d_Mo_resource_53 rfl (lv_at hl 2 rfl) ?_
        refine lv_iadd hx hb d_Mo_resource_54 ?_
        refine lv_topi (fun x_20 ex_20 => ?_)
        replace h := h x_20 ex_20
        obtain ⟨g_22, g_23, h⟩ := h
        refine mp_iald (t0 := 1) E hp g_22 (by decide) rfl rfl g_23 d_Mo_resource_55 (fun x_21 ex_21 => ?_)
        replace h := h x_21 ex_21
        exact mp_iret E hr hp hS h d_Mo_resource_56
      · replace h := h.2 g_16
        refine lv_bipush (v := (-3)) hx hb d_Mo_resource_40 (by decide) ?_
        refine lv_goto (tgt := 56) hx hb d_Mo_resource_42 (by decide) ?_
        exact mp_iret E hr hp hS h d_Mo_resource_56
    · replace h := h.1 g_8
      refine lv_iconst (v := (-1)) hx hb d_Mo_resource_24 (by decide) ?_
      exact mp_iret E hr hp hS h d_Mo_resource_25
set_option maxHeartbeats 4000000 in
set_option maxRecDepth 100000 in
theorem c_Mo_resource (l : Launch) (G : Gc) (m : Mm) (v0 : Nat) (v1 : Int32) (v2 : Int32) (P : Int32 → Mm → Prop) (h : wp_Mo_resource m v0 v1 v2 P) : Met l y_Mo_resource (Cond.code y_Mo_resource b_Mo_resource 3 (some .int) :: lw_good) rm_Mo_resource (Pre9 G m [rn v0, .int v1, .int v2]) (PoI G P) 0 0 (fr G) := by
  refine Met.ofW (cc := b_Mo_resource) (maxL := 3) (ret := (some .int)) (by decide) rfl ?_
  intro p e s mt args below meth c s₁ B hml hv
  obtain ⟨rfl, hp, hC⟩ := hv
  have hts := atoms_spec (ws := Cond.code y_Mo_resource b_Mo_resource 3 (some .int) :: lw_good) B.pre
  have E : En G R_Mo b_Mo_resource 3 p s mt _ meth c := ⟨B.exec, B.bytes, hml, findClass_of_methodNamed B.named, fun w hw => hts w (List.mem_cons_of_mem _ hw), hC, B.notSynchronized⟩
  have hr := B.returns
  have hl := lv_entry [rn v0, .int v1, .int v2] (n := 3) (by simp [lg_sl, rn_cat, cat_int, cat_long, cat_ref, cat_null])
  rw [lg_entry_eq]
  generalize (lg_sl [rn v0, .int v1, .int v2] ++ List.replicate (3 - (lg_sl [rn v0, .int v1, .int v2]).length) Slot.unset).toArray = ls at hl ⊢
  have hl : lv_has ls 3 [(0, rn v0), (1, .int v1), (2, .int v2)] := by simpa [lv_args, rn_cat, cat_int, cat_long, cat_ref, cat_null] using hl
  exact t_Mo_resource_0 E hr m v0 v1 v2 _ _ _ h hp va_S.rf (lv_sub hl [0, 1, 2] rfl)
end WK
