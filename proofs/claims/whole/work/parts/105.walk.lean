section WK
variable {p : Program} {l : Launch} {e : Env} {s : State} {mt : MethodId} {args : Array Value} {below : List Frame} {meth : Method} {c : Code}
abbrev rm_FileTree_open : Room := { frames := 2, cells := 0, slots := 0, locals := 45 }
set_option maxHeartbeats 4000000 in
set_option maxRecDepth 100000 in
theorem t_FileTree_open_91 {G : Gc} {P : Int32 → Mm → Prop} (E : En G R_FileTree b_FileTree_open 7 p s mt args meth c) (hr : meth.sig.returnType = some .int) (m : Mm) (v2 : Int32) (v3 : Int32) (v4 : Nat) (v5 : Int32) (v6 : Nat) (H : Heap) (locs : List Loc) (ls : Array Slot) (h : wp_FileTree_open_91 P m v2 v3 v4 v5 v6) (hp : pic G m H) (hS : va_S (fr G) s.heap H locs) (hl : lv_has ls 7 [(2, .int v2), (3, .int v3), (4, rn v4), (5, .int v5), (6, rn v6)]) : W p l e rm_FileTree_open s mt args below meth c H locs 0 0 (MQ below (PoI G P) args s 0 0 (fr G)) (F0 mt 91 ls []) := by
  have hx := E.1
  have hb := E.2.1
  unfold wp_FileTree_open_91 at h
  refine rr_aload hx hb d_FileTree_open_91 (lv_at hl 4 rfl) ?_
  refine rr_aload hx hb d_FileTree_open_93 (lv_at hl 2 rfl) ?_
  refine lv_iload_n hx hb d_FileTree_open_95 rfl (lv_at hl 0 rfl) ?_
  refine lv_iload_n hx hb d_FileTree_open_96 rfl (lv_at hl 1 rfl) ?_
  obtain ⟨g_3, h⟩ := h
  refine mc_v hS (mc_runV (As := [rn v4, .int v2, .int v3]) (rest := []) E (c_Handle_attach l G m v6 v4 v2 v3 _ h) wd_Handle_attach ⟨lk_35, lk_36, lk_37⟩ rfl rfl ⟨Nat.le_of_ble_eq_true rfl, Nat.le_of_ble_eq_true rfl⟩ hp hS g_3 (by decide) rfl rfl rfl hl.1 rfl (lv_room (Nat.le_of_ble_eq_true rfl)) d_FileTree_open_97 ⟨Nat.le_of_ble_eq_true rfl, Nat.le_of_ble_eq_true rfl⟩) (fun m_1 h H locs hp hS => ?_)
  try dsimp only at h
  refine lv_iload hx hb d_FileTree_open_100 (lv_at hl 3 rfl) ?_
  exact mp_iret E hr hp hS h d_FileTree_open_102
set_option maxHeartbeats 4000000 in
set_option maxRecDepth 100000 in
theorem t_FileTree_open_86 {G : Gc} {P : Int32 → Mm → Prop} (E : En G R_FileTree b_FileTree_open 7 p s mt args meth c) (hr : meth.sig.returnType = some .int) (m : Mm) (v2 : Int32) (v3 : Int32) (v4 : Nat) (v5 : Int32) (v6 : Nat) (H : Heap) (locs : List Loc) (ls : Array Slot) (h : wp_FileTree_open_86 P m v2 v3 v4 v5 v6) (hp : pic G m H) (hS : va_S (fr G) s.heap H locs) (hl : lv_has ls 7 [(2, .int v2), (3, .int v3), (4, rn v4), (5, .int v5), (6, rn v6)]) : W p l e rm_FileTree_open s mt args below meth c H locs 0 0 (MQ below (PoI G P) args s 0 0 (fr G)) (F0 mt 86 ls []) := by
  have hx := E.1
  have hb := E.2.1
  unfold wp_FileTree_open_86 at h
  refine rr_aload hx hb d_FileTree_open_86 (lv_at hl 2 rfl) ?_
  obtain ⟨g_3, h⟩ := h
  refine mc_v hS (mc_runV (As := []) (rest := []) E (c_Store_makeEmpty l G m v4 _ h) wd_Store_makeEmpty ⟨lk_173, lk_174, lk_175⟩ rfl rfl ⟨Nat.le_of_ble_eq_true rfl, Nat.le_of_ble_eq_true rfl⟩ hp hS g_3 (by decide) rfl rfl rfl hl.1 rfl (lv_room (Nat.le_of_ble_eq_true rfl)) d_FileTree_open_88 ⟨Nat.le_of_ble_eq_true rfl, Nat.le_of_ble_eq_true rfl⟩) (fun m_1 h H locs hp hS => ?_)
  try dsimp only at h
  exact t_FileTree_open_91 E hr m_1 v2 v3 v4 v5 v6 _ _ _ h hp hS (lv_sub hl [0, 1, 2, 3, 4] rfl)
set_option maxHeartbeats 4000000 in
set_option maxRecDepth 100000 in
theorem t_FileTree_open_38 {G : Gc} {P : Int32 → Mm → Prop} (E : En G R_FileTree b_FileTree_open 7 p s mt args meth c) (hr : meth.sig.returnType = some .int) (m : Mm) (v0 : Nat) (v2 : Int32) (v3 : Int32) (v4 : Nat) (H : Heap) (locs : List Loc) (ls : Array Slot) (h : wp_FileTree_open_38 P m v0 v2 v3 v4) (hp : pic G m H) (hS : va_S (fr G) s.heap H locs) (hl : lv_has ls 7 [(0, rn v0), (2, .int v2), (3, .int v3), (4, rn v4)]) : W p l e rm_FileTree_open s mt args below meth c H locs 0 0 (MQ below (PoI G P) args s 0 0 (fr G)) (F0 mt 38 ls []) := by
  have hx := E.1
  have hb := E.2.1
  unfold wp_FileTree_open_38 at h
  refine rr_aload_n hx hb d_FileTree_open_38 rfl (lv_at hl 0 rfl) ?_
  refine rr_aload hx hb d_FileTree_open_39 (lv_at hl 3 rfl) ?_
  refine lv_iload_n hx hb d_FileTree_open_41 rfl (lv_at hl 1 rfl) ?_
  obtain ⟨g_3, h⟩ := h
  refine mc_i hS (mc_runV (As := [rn v4, .int v2]) (rest := []) E (c_FileTree_isHeldAgainst l G m v0 v4 v2 _ h) wd_FileTree_isHeldAgainst ⟨lk_176, lk_177, lk_178⟩ rfl rfl ⟨Nat.le_of_ble_eq_true rfl, Nat.le_of_ble_eq_true rfl⟩ hp hS g_3 (by decide) rfl rfl rfl hl.1 rfl (lv_room (Nat.le_of_ble_eq_true rfl)) d_FileTree_open_42 ⟨Nat.le_of_ble_eq_true rfl, Nat.le_of_ble_eq_true rfl⟩) (fun r_2 m_1 h H locs hp hS => ?_)
  try dsimp only at h
  refine lv_if_eq (tgt := 51) hx hb d_FileTree_open_45 (by decide) (fun g_4 => ?_) (fun g_4 => ?_)
  · replace h := h.1 g_4
    refine rr_aload_n hx hb d_FileTree_open_51 rfl (lv_at hl 0 rfl) ?_
    obtain ⟨g_7, h⟩ := h
    refine mc_i hS (mc_runV (As := []) (rest := []) E (c_FileTree_freeHandle l G m_1 v0 _ h) wd_FileTree_freeHandle ⟨lk_179, lk_180, lk_181⟩ rfl rfl ⟨Nat.le_of_ble_eq_true rfl, Nat.le_of_ble_eq_true rfl⟩ hp hS g_7 (by decide) rfl rfl rfl hl.1 rfl (lv_room (Nat.le_of_ble_eq_true rfl)) d_FileTree_open_52 ⟨Nat.le_of_ble_eq_true rfl, Nat.le_of_ble_eq_true rfl⟩) (fun r_6 m_5 h H locs hp hS => ?_)
    try dsimp only at h
    refine lv_istore (lv' := [(5, .int r_6), (0, rn v0), (2, .int v2), (3, .int v3), (4, rn v4)]) hx hb d_FileTree_open_55 hl (by decide) (by simp [rn_cat]) (fun ls hl => ?_)
    refine rr_aload_n hx hb d_FileTree_open_57 rfl (lv_at hl 1 rfl) ?_
    refine lv_iload hx hb d_FileTree_open_58 (lv_at hl 0 rfl) ?_
    obtain ⟨g_10, h⟩ := h
    refine mc_r hS (mc_runV (As := [.int r_6]) (rest := []) E (c_FileTree_handleOrNull l G m_5 v0 r_6 _ h) wd_FileTree_handleOrNull ⟨lk_114, lk_115, lk_116⟩ rfl rfl ⟨Nat.le_of_ble_eq_true rfl, Nat.le_of_ble_eq_true rfl⟩ hp hS g_10 (by decide) rfl rfl rfl hl.1 rfl (lv_room (Nat.le_of_ble_eq_true rfl)) d_FileTree_open_60 ⟨Nat.le_of_ble_eq_true rfl, Nat.le_of_ble_eq_true rfl⟩) (fun r_9 m_8 h H locs hp hS => ?_)
    try dsimp only at h
    refine rr_astore (lv' := [(6, rn r_9), (5, .int r_6), (0, rn v0), (2, .int v2), (3, .int v3), (4, rn v4)]) hx hb d_FileTree_open_63 hl (by decide) rfl (fun ls hl => ?_)
    refine rr_aload hx hb d_FileTree_open_65 (lv_at hl 0 rfl) ?_
    refine rr_ifnonnull (tgt := 73) hx hb d_FileTree_open_67 (by decide) (fun g_11 => ?_) (fun g_11 => ?_)
    · replace h := h.2 g_11
      refine lv_iload_n hx hb d_FileTree_open_73 rfl (lv_at hl 3 rfl) ?_
      refine lv_iconst (v := 1) hx hb d_FileTree_open_74 (by decide) ?_
      refine lv_icmp_eq (tgt := 86) hx hb d_FileTree_open_75 (by decide) (fun g_12 => ?_) (fun g_12 => ?_)
      · replace h := h.1 g_12
        exact t_FileTree_open_86 E hr m_8 v2 v3 v4 r_6 r_9 _ _ _ h hp hS (lv_sub hl [3, 4, 5, 1, 0] rfl)
      · replace h := h.2 g_12
        refine rr_aload hx hb d_FileTree_open_78 (lv_at hl 5 rfl) ?_
        obtain ⟨g_14, h⟩ := h
        refine rg_Store_isThere E hp g_14 lk_182 d_FileTree_open_80 (fun x_13 ex_13 => ?_)
        replace h := h x_13 ex_13
        refine lv_if_ne (tgt := 91) hx hb d_FileTree_open_83 (by decide) (fun g_15 => ?_) (fun g_15 => ?_)
        · replace h := h.2 g_15
          exact t_FileTree_open_91 E hr m_8 v2 v3 v4 r_6 r_9 _ _ _ h hp hS (lv_sub hl [3, 4, 5, 1, 0] rfl)
        · replace h := h.1 g_15
          exact t_FileTree_open_86 E hr m_8 v2 v3 v4 r_6 r_9 _ _ _ h hp hS (lv_sub hl [3, 4, 5, 1, 0] rfl)
    · replace h := h.1 g_11
      refine lv_bipush (v := (-4)) hx hb d_FileTree_open_70 (by decide) ?_
      exact mp_iret E hr hp hS h d_FileTree_open_72
  · replace h := h.2 g_4
    refine lv_bipush (v := (-3)) hx hb d_FileTree_open_48 (by decide) ?_
    exact mp_iret E hr hp hS h d_FileTree_open_50
set_option maxHeartbeats 4000000 in
set_option maxRecDepth 100000 in
theorem t_FileTree_open_0 {G : Gc} {P : Int32 → Mm → Prop} (E : En G R_FileTree b_FileTree_open 7 p s mt args meth c) (hr : meth.sig.returnType = some .int) (m : Mm) (v0 : Nat) (v1 : Int32) (v2 : Int32) (v3 : Int32) (H : Heap) (locs : List Loc) (ls : Array Slot) (h : wp_FileTree_open_0 P m v0 v1 v2 v3) (hp : pic G m H) (hS : va_S (fr G) s.heap H locs) (hl : lv_has ls 7 [(0, rn v0), (1, .int v1), (2, .int v2), (3, .int v3)]) : W p l e rm_FileTree_open s mt args below meth c H locs 0 0 (MQ below (PoI G P) args s 0 0 (fr G)) (F0 mt 0 ls []) := by
  have hx := E.1
  have hb := E.2.1
  unfold wp_FileTree_open_0 at h
  refine rr_aload_n hx hb d_FileTree_open_0 rfl (lv_at hl 0 rfl) ?_
  refine lv_iload_n hx hb d_FileTree_open_1 rfl (lv_at hl 1 rfl) ?_
  obtain ⟨g_3, h⟩ := h
  refine mc_r hS (mc_runV (As := [.int v1]) (rest := []) E (c_FileTree_storeOrNull l G m v0 v1 _ h) wd_FileTree_storeOrNull ⟨lk_183, lk_184, lk_185⟩ rfl rfl ⟨Nat.le_of_ble_eq_true rfl, Nat.le_of_ble_eq_true rfl⟩ hp hS g_3 (by decide) rfl rfl rfl hl.1 rfl (lv_room (Nat.le_of_ble_eq_true rfl)) d_FileTree_open_2 ⟨Nat.le_of_ble_eq_true rfl, Nat.le_of_ble_eq_true rfl⟩) (fun r_2 m_1 h H locs hp hS => ?_)
  try dsimp only at h
  refine rr_astore (lv' := [(4, rn r_2), (0, rn v0), (1, .int v1), (2, .int v2), (3, .int v3)]) hx hb d_FileTree_open_5 hl (by decide) rfl (fun ls hl => ?_)
  refine rr_aload hx hb d_FileTree_open_7 (lv_at hl 0 rfl) ?_
  refine rr_ifnonnull (tgt := 14) hx hb d_FileTree_open_9 (by decide) (fun g_4 => ?_) (fun g_4 => ?_)
  · replace h := h.2 g_4
    refine lv_iload_n hx hb d_FileTree_open_14 rfl (lv_at hl 3 rfl) ?_
    refine lv_if_lt (tgt := 23) hx hb d_FileTree_open_15 (by decide) (fun g_5 => ?_) (fun g_5 => ?_)
    · replace h := h.1 g_5
      refine lv_bipush (v := (-2)) hx hb d_FileTree_open_23 (by decide) ?_
      exact mp_iret E hr hp hS h d_FileTree_open_25
    · replace h := h.2 g_5
      refine lv_iload_n hx hb d_FileTree_open_18 rfl (lv_at hl 3 rfl) ?_
      refine lv_iconst (v := 2) hx hb d_FileTree_open_19 (by decide) ?_
      refine lv_icmp_le (tgt := 26) hx hb d_FileTree_open_20 (by decide) (fun g_6 => ?_) (fun g_6 => ?_)
      · replace h := h.1 g_6
        refine lv_iload_n hx hb d_FileTree_open_26 rfl (lv_at hl 3 rfl) ?_
        refine lv_if_ne (tgt := 38) hx hb d_FileTree_open_27 (by decide) (fun g_7 => ?_) (fun g_7 => ?_)
        · replace h := h.2 g_7
          exact t_FileTree_open_38 E hr m_1 v0 v2 v3 r_2 _ _ _ h hp hS (lv_sub hl [1, 3, 4, 0] rfl)
        · replace h := h.1 g_7
          refine rr_aload hx hb d_FileTree_open_30 (lv_at hl 0 rfl) ?_
          obtain ⟨g_9, h⟩ := h
          refine rg_Store_isThere E hp g_9 lk_182 d_FileTree_open_32 (fun x_8 ex_8 => ?_)
          replace h := h x_8 ex_8
          refine lv_if_eq (tgt := 48) hx hb d_FileTree_open_35 (by decide) (fun g_10 => ?_) (fun g_10 => ?_)
          · replace h := h.1 g_10
            refine lv_bipush (v := (-3)) hx hb d_FileTree_open_48 (by decide) ?_
            exact mp_iret E hr hp hS h d_FileTree_open_50
          · replace h := h.2 g_10
            exact t_FileTree_open_38 E hr m_1 v0 v2 v3 r_2 _ _ _ h hp hS (lv_sub hl [1, 3, 4, 0] rfl)
      · replace h := h.2 g_6
        refine lv_bipush (v := (-2)) hx hb d_FileTree_open_23 (by decide) ?_
        exact mp_iret E hr hp hS h d_FileTree_open_25
  · replace h := h.1 g_4
    refine lv_iconst (v := (-1)) hx hb d_FileTree_open_12 (by decide) ?_
    exact mp_iret E hr hp hS h d_FileTree_open_13
set_option maxHeartbeats 4000000 in
set_option maxRecDepth 100000 in
theorem c_FileTree_open (l : Launch) (G : Gc) (m : Mm) (v0 : Nat) (v1 : Int32) (v2 : Int32) (v3 : Int32) (P : Int32 → Mm → Prop) (h : wp_FileTree_open m v0 v1 v2 v3 P) : Met l y_FileTree_open (Cond.code y_FileTree_open b_FileTree_open 7 (some .int) :: lw_good) rm_FileTree_open (Pre9 G m [rn v0, .int v1, .int v2, .int v3]) (PoI G P) 0 0 (fr G) := by
  refine Met.ofW (cc := b_FileTree_open) (maxL := 7) (ret := (some .int)) (by decide) rfl ?_
  intro p e s mt args below meth c s₁ B hml hv
  obtain ⟨rfl, hp, hC⟩ := hv
  have hts := atoms_spec (ws := Cond.code y_FileTree_open b_FileTree_open 7 (some .int) :: lw_good) B.pre
  have E : En G R_FileTree b_FileTree_open 7 p s mt _ meth c := ⟨B.exec, B.bytes, hml, findClass_of_methodNamed B.named, fun w hw => hts w (List.mem_cons_of_mem _ hw), hC, B.notSynchronized⟩
  have hr := B.returns
  have hl := lv_entry [rn v0, .int v1, .int v2, .int v3] (n := 7) (by simp [lg_sl, rn_cat, cat_int, cat_long, cat_ref, cat_null])
  rw [lg_entry_eq]
  generalize (lg_sl [rn v0, .int v1, .int v2, .int v3] ++ List.replicate (7 - (lg_sl [rn v0, .int v1, .int v2, .int v3]).length) Slot.unset).toArray = ls at hl ⊢
  have hl : lv_has ls 7 [(0, rn v0), (1, .int v1), (2, .int v2), (3, .int v3)] := by simpa [lv_args, rn_cat, cat_int, cat_long, cat_ref, cat_null] using hl
  exact t_FileTree_open_0 E hr m v0 v1 v2 v3 _ _ _ h hp va_S.rf (lv_sub hl [0, 1, 2, 3] rfl)
abbrev rm_FileTree_openOrNull : Room := { frames := 1, cells := 0, slots := 0, locals := 21 }
set_option maxHeartbeats 4000000 in
set_option maxRecDepth 100000 in
theorem t_FileTree_openOrNull_17 {G : Gc} {P : Nat → Mm → Prop} (E : En G R_FileTree b_FileTree_openOrNull 3 p s mt args meth c) (hr : meth.sig.returnType = some (.object "MachineLoop$Handle")) (m : Mm) (H : Heap) (locs : List Loc) (ls : Array Slot) (h : wp_FileTree_openOrNull_17 P m) (hp : pic G m H) (hS : va_S (fr G) s.heap H locs) (hl : lv_has ls 3 []) : W p l e rm_FileTree_openOrNull s mt args below meth c H locs 0 0 (MQ below (PoR G P) args s 0 0 (fr G)) (F0 mt 17 ls []) := by
  have hx := E.1
  have hb := E.2.1
  unfold wp_FileTree_openOrNull_17 at h
  refine rr_null hx hb d_FileTree_openOrNull_17 ?_
  refine lv_goto (tgt := 22) hx hb d_FileTree_openOrNull_18 (by decide) ?_
  exact mp_aret E hr (Or.inl ⟨_, rfl⟩) hp hS h d_FileTree_openOrNull_22
set_option maxHeartbeats 4000000 in
set_option maxRecDepth 100000 in
theorem t_FileTree_openOrNull_0 {G : Gc} {P : Nat → Mm → Prop} (E : En G R_FileTree b_FileTree_openOrNull 3 p s mt args meth c) (hr : meth.sig.returnType = some (.object "MachineLoop$Handle")) (m : Mm) (v0 : Nat) (v1 : Int32) (H : Heap) (locs : List Loc) (ls : Array Slot) (h : wp_FileTree_openOrNull_0 P m v0 v1) (hp : pic G m H) (hS : va_S (fr G) s.heap H locs) (hl : lv_has ls 3 [(0, rn v0), (1, .int v1)]) : W p l e rm_FileTree_openOrNull s mt args below meth c H locs 0 0 (MQ below (PoR G P) args s 0 0 (fr G)) (F0 mt 0 ls []) := by
  have hx := E.1
  have hb := E.2.1
  unfold wp_FileTree_openOrNull_0 at h
  refine rr_aload_n hx hb d_FileTree_openOrNull_0 rfl (lv_at hl 0 rfl) ?_
  refine lv_iload_n hx hb d_FileTree_openOrNull_1 rfl (lv_at hl 1 rfl) ?_
  obtain ⟨g_3, h⟩ := h
  refine mc_r hS (mc_runV (As := [.int v1]) (rest := []) E (c_FileTree_handleOrNull l G m v0 v1 _ h) wd_FileTree_handleOrNull ⟨lk_114, lk_115, lk_116⟩ rfl rfl ⟨Nat.le_of_ble_eq_true rfl, Nat.le_of_ble_eq_true rfl⟩ hp hS g_3 (by decide) rfl rfl rfl hl.1 rfl (lv_room (Nat.le_of_ble_eq_true rfl)) d_FileTree_openOrNull_2 ⟨Nat.le_of_ble_eq_true rfl, Nat.le_of_ble_eq_true rfl⟩) (fun r_2 m_1 h H locs hp hS => ?_)
  try dsimp only at h
  refine rr_astore_n (lv' := [(2, rn r_2), (0, rn v0), (1, .int v1)]) hx hb d_FileTree_openOrNull_5 rfl hl (by decide) rfl (fun ls hl => ?_)
  refine rr_aload_n hx hb d_FileTree_openOrNull_6 rfl (lv_at hl 0 rfl) ?_
  refine rr_ifnull (tgt := 17) hx hb d_FileTree_openOrNull_7 (by decide) (fun g_4 => ?_) (fun g_4 => ?_)
  · replace h := h.1 g_4
    exact t_FileTree_openOrNull_17 E hr m_1 _ _ _ h hp hS (lv_sub hl [] rfl)
  · replace h := h.2 g_4
    refine rr_aload_n hx hb d_FileTree_openOrNull_10 rfl (lv_at hl 0 rfl) ?_
    obtain ⟨g_6, h⟩ := h
    refine rg_Handle_store E hp g_6 lk_171 d_FileTree_openOrNull_11 (fun x_5 ex_5 => ?_)
    replace h := h x_5 ex_5
    refine rr_ifnonnull (tgt := 21) hx hb d_FileTree_openOrNull_14 (by decide) (fun g_7 => ?_) (fun g_7 => ?_)
    · replace h := h.2 g_7
      refine rr_aload_n hx hb d_FileTree_openOrNull_21 rfl (lv_at hl 0 rfl) ?_
      exact mp_aret E hr (Or.inl ⟨_, rfl⟩) hp hS h d_FileTree_openOrNull_22
    · replace h := h.1 g_7
      exact t_FileTree_openOrNull_17 E hr m_1 _ _ _ h hp hS (lv_sub hl [] rfl)
set_option maxHeartbeats 4000000 in
set_option maxRecDepth 100000 in
theorem c_FileTree_openOrNull (l : Launch) (G : Gc) (m : Mm) (v0 : Nat) (v1 : Int32) (P : Nat → Mm → Prop) (h : wp_FileTree_openOrNull m v0 v1 P) : Met l y_FileTree_openOrNull (Cond.code y_FileTree_openOrNull b_FileTree_openOrNull 3 (some (.object "MachineLoop$Handle")) :: lw_good) rm_FileTree_openOrNull (Pre9 G m [rn v0, .int v1]) (PoR G P) 0 0 (fr G) := by
  refine Met.ofW (cc := b_FileTree_openOrNull) (maxL := 3) (ret := (some (.object "MachineLoop$Handle"))) (by decide) rfl ?_
  intro p e s mt args below meth c s₁ B hml hv
  obtain ⟨rfl, hp, hC⟩ := hv
  have hts := atoms_spec (ws := Cond.code y_FileTree_openOrNull b_FileTree_openOrNull 3 (some (.object "MachineLoop$Handle")) :: lw_good) B.pre
  have E : En G R_FileTree b_FileTree_openOrNull 3 p s mt _ meth c := ⟨B.exec, B.bytes, hml, findClass_of_methodNamed B.named, fun w hw => hts w (List.mem_cons_of_mem _ hw), hC, B.notSynchronized⟩
  have hr := B.returns
  have hl := lv_entry [rn v0, .int v1] (n := 3) (by simp [lg_sl, rn_cat, cat_int, cat_long, cat_ref, cat_null])
  rw [lg_entry_eq]
  generalize (lg_sl [rn v0, .int v1] ++ List.replicate (3 - (lg_sl [rn v0, .int v1]).length) Slot.unset).toArray = ls at hl ⊢
  have hl : lv_has ls 3 [(0, rn v0), (1, .int v1)] := by simpa [lv_args, rn_cat, cat_int, cat_long, cat_ref, cat_null] using hl
  exact t_FileTree_openOrNull_0 E hr m v0 v1 _ _ _ h hp va_S.rf (lv_sub hl [0, 1] rfl)
abbrev rm_FileTree_shutByJob : Room := { frames := 2, cells := 0, slots := 0, locals := 43 }
set_option maxHeartbeats 4000000 in
set_option maxRecDepth 100000 in
theorem t_FileTree_shutByJob_0 {G : Gc} {P : Int32 → Mm → Prop} (E : En G R_FileTree b_FileTree_shutByJob 3 p s mt args meth c) (hr : meth.sig.returnType = some .int) (m : Mm) (v0 : Nat) (v1 : Int32) (H : Heap) (locs : List Loc) (ls : Array Slot) (h : wp_FileTree_shutByJob_0 P m v0 v1) (hp : pic G m H) (hS : va_S (fr G) s.heap H locs) (hl : lv_has ls 3 [(0, rn v0), (1, .int v1)]) : W p l e rm_FileTree_shutByJob s mt args below meth c H locs 0 0 (MQ below (PoI G P) args s 0 0 (fr G)) (F0 mt 0 ls []) := by
  have hx := E.1
  have hb := E.2.1
  unfold wp_FileTree_shutByJob_0 at h
  refine rr_aload_n hx hb d_FileTree_shutByJob_0 rfl (lv_at hl 0 rfl) ?_
  refine lv_iload_n hx hb d_FileTree_shutByJob_1 rfl (lv_at hl 1 rfl) ?_
  obtain ⟨g_3, h⟩ := h
  refine mc_r hS (mc_runV (As := [.int v1]) (rest := []) E (c_FileTree_openOrNull l G m v0 v1 _ h) wd_FileTree_openOrNull ⟨lk_186, lk_187, lk_188⟩ rfl rfl ⟨Nat.le_of_ble_eq_true rfl, Nat.le_of_ble_eq_true rfl⟩ hp hS g_3 (by decide) rfl rfl rfl hl.1 rfl (lv_room (Nat.le_of_ble_eq_true rfl)) d_FileTree_shutByJob_2 ⟨Nat.le_of_ble_eq_true rfl, Nat.le_of_ble_eq_true rfl⟩) (fun r_2 m_1 h H locs hp hS => ?_)
  try dsimp only at h
  refine rr_astore_n (lv' := [(2, rn r_2), (0, rn v0), (1, .int v1)]) hx hb d_FileTree_shutByJob_5 rfl hl (by decide) rfl (fun ls hl => ?_)
  refine rr_aload_n hx hb d_FileTree_shutByJob_6 rfl (lv_at hl 0 rfl) ?_
  refine rr_ifnull (tgt := 17) hx hb d_FileTree_shutByJob_7 (by decide) (fun g_4 => ?_) (fun g_4 => ?_)
  · replace h := h.1 g_4
    refine lv_iconst (v := (-1)) hx hb d_FileTree_shutByJob_17 (by decide) ?_
    exact mp_iret E hr hp hS h d_FileTree_shutByJob_18
  · replace h := h.2 g_4
    refine rr_aload_n hx hb d_FileTree_shutByJob_10 rfl (lv_at hl 0 rfl) ?_
    obtain ⟨g_6, h⟩ := h
    refine rg_Handle_isOfJob E hp g_6 lk_189 d_FileTree_shutByJob_11 (fun x_5 ex_5 => ?_)
    replace h := h x_5 ex_5
    refine lv_if_ne (tgt := 19) hx hb d_FileTree_shutByJob_14 (by decide) (fun g_7 => ?_) (fun g_7 => ?_)
    · replace h := h.2 g_7
      refine rr_aload_n hx hb d_FileTree_shutByJob_19 rfl (lv_at hl 0 rfl) ?_
      obtain ⟨g_10, h⟩ := h
      refine mc_v hS (mc_runV (As := []) (rest := []) E (c_Handle_detach l G m_1 r_2 _ h) wd_Handle_detach ⟨lk_190, lk_25, lk_26⟩ rfl rfl ⟨Nat.le_of_ble_eq_true rfl, Nat.le_of_ble_eq_true rfl⟩ hp hS g_10 (by decide) rfl rfl rfl hl.1 rfl (lv_room (Nat.le_of_ble_eq_true rfl)) d_FileTree_shutByJob_20 ⟨Nat.le_of_ble_eq_true rfl, Nat.le_of_ble_eq_true rfl⟩) (fun m_8 h H locs hp hS => ?_)
      try dsimp only at h
      refine lv_iconst (v := 1) hx hb d_FileTree_shutByJob_23 (by decide) ?_
      exact mp_iret E hr hp hS h d_FileTree_shutByJob_24
    · replace h := h.1 g_7
      refine lv_iconst (v := (-1)) hx hb d_FileTree_shutByJob_17 (by decide) ?_
      exact mp_iret E hr hp hS h d_FileTree_shutByJob_18
set_option maxHeartbeats 4000000 in
set_option maxRecDepth 100000 in
theorem c_FileTree_shutByJob (l : Launch) (G : Gc) (m : Mm) (v0 : Nat) (v1 : Int32) (P : Int32 → Mm → Prop) (h : wp_FileTree_shutByJob m v0 v1 P) : Met l y_FileTree_shutByJob (Cond.code y_FileTree_shutByJob b_FileTree_shutByJob 3 (some .int) :: lw_good) rm_FileTree_shutByJob (Pre9 G m [rn v0, .int v1]) (PoI G P) 0 0 (fr G) := by
  refine Met.ofW (cc := b_FileTree_shutByJob) (maxL := 3) (ret := (some .int)) (by decide) rfl ?_
  intro p e s mt args below meth c s₁ B hml hv
  obtain ⟨rfl, hp, hC⟩ := hv
  have hts := atoms_spec (ws := Cond.code y_FileTree_shutByJob b_FileTree_shutByJob 3 (some .int) :: lw_good) B.pre
  have E : En G R_FileTree b_FileTree_shutByJob 3 p s mt _ meth c := ⟨B.exec, B.bytes, hml, findClass_of_methodNamed B.named, fun w hw => hts w (List.mem_cons_of_mem _ hw), hC, B.notSynchronized⟩
  have hr := B.returns
  have hl := lv_entry [rn v0, .int v1] (n := 3) (by simp [lg_sl, rn_cat, cat_int, cat_long, cat_ref, cat_null])
  rw [lg_entry_eq]
  generalize (lg_sl [rn v0, .int v1] ++ List.replicate (3 - (lg_sl [rn v0, .int v1]).length) Slot.unset).toArray = ls at hl ⊢
  have hl : lv_has ls 3 [(0, rn v0), (1, .int v1)] := by simpa [lv_args, rn_cat, cat_int, cat_long, cat_ref, cat_null] using hl
  exact t_FileTree_shutByJob_0 E hr m v0 v1 _ _ _ h hp va_S.rf (lv_sub hl [0, 1] rfl)
abbrev rm_Store_isFull : Room := { frames := 0, cells := 0, slots := 0, locals := 0 }
set_option maxHeartbeats 4000000 in
set_option maxRecDepth 100000 in
theorem t_Store_isFull_0 {G : Gc} {P : Int32 → Mm → Prop} (E : En G R_Store b_Store_isFull 1 p s mt args meth c) (hr : meth.sig.returnType = some .boolean) (m : Mm) (v0 : Nat) (H : Heap) (locs : List Loc) (ls : Array Slot) (h : wp_Store_isFull_0 P m v0) (hp : pic G m H) (hS : va_S (fr G) s.heap H locs) (hl : lv_has ls 1 [(0, rn v0)]) : W p l e rm_Store_isFull s mt args below meth c H locs 0 0 (MQ below (PoI G P) args s 0 0 (fr G)) (F0 mt 0 ls []) := by
  have hx := E.1
  have hb := E.2.1
  unfold wp_Store_isFull_0 at h
  refine rr_aload_n hx hb d_Store_isFull_0 rfl (lv_at hl 0 rfl) ?_
  obtain ⟨g_2, h⟩ := h
  refine rg_Store_size E hp g_2 lk_14 d_Store_isFull_1 (fun x_1 ex_1 => ?_)
  replace h := h x_1 ex_1
  refine rr_aload_n hx hb d_Store_isFull_4 rfl (lv_at hl 0 rfl) ?_
  obtain ⟨g_4, h⟩ := h
  refine rg_Store_bytes E hp g_4 lk_13 d_Store_isFull_5 (fun x_3 ex_3 => ?_)
  replace h := h x_3 ex_3
  obtain ⟨g_6, h⟩ := h
  refine mp_alen (t0 := 4) E hp g_6 (by decide) rfl rfl d_Store_isFull_8 (fun x_5 ex_5 => ?_)
  replace h := h x_5 ex_5
  refine lv_icmp_lt (tgt := 16) hx hb d_Store_isFull_9 (by decide) (fun g_7 => ?_) (fun g_7 => ?_)
  · replace h := h.1 g_7
    refine lv_iconst (v := 0) hx hb d_Store_isFull_16 (by decide) ?_
    exact mp_zret E hr hp hS (by decide) h d_Store_isFull_17
  · replace h := h.2 g_7
    refine lv_iconst (v := 1) hx hb d_Store_isFull_12 (by decide) ?_
    refine lv_goto (tgt := 17) hx hb d_Store_isFull_13 (by decide) ?_
    exact mp_zret E hr hp hS (by decide) h d_Store_isFull_17
set_option maxHeartbeats 4000000 in
set_option maxRecDepth 100000 in
theorem c_Store_isFull (l : Launch) (G : Gc) (m : Mm) (v0 : Nat) (P : Int32 → Mm → Prop) (h : wp_Store_isFull m v0 P) : Met l y_Store_isFull (Cond.code y_Store_isFull b_Store_isFull 1 (some .boolean) :: lw_good) rm_Store_isFull (Pre9 G m [rn v0]) (PoI G P) 0 0 (fr G) := by
  refine Met.ofW (cc := b_Store_isFull) (maxL := 1) (ret := (some .boolean)) (by decide) rfl ?_
  intro p e s mt args below meth c s₁ B hml hv
  obtain ⟨rfl, hp, hC⟩ := hv
  have hts := atoms_spec (ws := Cond.code y_Store_isFull b_Store_isFull 1 (some .boolean) :: lw_good) B.pre
  have E : En G R_Store b_Store_isFull 1 p s mt _ meth c := ⟨B.exec, B.bytes, hml, findClass_of_methodNamed B.named, fun w hw => hts w (List.mem_cons_of_mem _ hw), hC, B.notSynchronized⟩
  have hr := B.returns
  have hl := lv_entry [rn v0] (n := 1) (by simp [lg_sl, rn_cat, cat_int, cat_long, cat_ref, cat_null])
  rw [lg_entry_eq]
  generalize (lg_sl [rn v0] ++ List.replicate (1 - (lg_sl [rn v0]).length) Slot.unset).toArray = ls at hl ⊢
  have hl : lv_has ls 1 [(0, rn v0)] := by simpa [lv_args, rn_cat, cat_int, cat_long, cat_ref, cat_null] using hl
  exact t_Store_isFull_0 E hr m v0 _ _ _ h hp va_S.rf (lv_sub hl [0] rfl)
abbrev rm_Handle_throughFilter : Room := { frames := 0, cells := 0, slots := 0, locals := 0 }
set_option maxHeartbeats 4000000 in
set_option maxRecDepth 100000 in
theorem t_Handle_throughFilter_0 {G : Gc} {P : Int32 → Mm → Prop} (E : En G R_Handle b_Handle_throughFilter 3 p s mt args meth c) (hr : meth.sig.returnType = some .int) (m : Mm) (v0 : Int32) (v1 : Int32) (v2 : Int32) (H : Heap) (locs : List Loc) (ls : Array Slot) (h : wp_Handle_throughFilter_0 P m v0 v1 v2) (hp : pic G m H) (hS : va_S (fr G) s.heap H locs) (hl : lv_has ls 3 [(0, .int v0), (1, .int v1), (2, .int v2)]) : W p l e rm_Handle_throughFilter s mt args below meth c H locs 0 0 (MQ below (PoI G P) args s 0 0 (fr G)) (F0 mt 0 ls []) := by
  have hx := E.1
  have hb := E.2.1
  unfold wp_Handle_throughFilter_0 at h
  refine lv_iload_n hx hb d_Handle_throughFilter_0 rfl (lv_at hl 0 rfl) ?_
  by_cases g_1 : v0 = 1
  · replace h := h.1 g_1
    refine lv_tableIn (x := v0) (off := 27) (tgt := 28) hx hb d_Handle_throughFilter_1 (by rw [g_1]; decide) (by rw [g_1]; decide) (by rw [g_1]; decide) (by decide) ?_
    refine lv_sipush (v := 255) hx hb d_Handle_throughFilter_28 (by decide) ?_
    refine lv_iload_n hx hb d_Handle_throughFilter_31 rfl (lv_at hl 1 rfl) ?_
    refine lv_isub hx hb d_Handle_throughFilter_32 ?_
    refine lv_topi (fun x_2 ex_2 => ?_)
    replace h := h x_2 ex_2
    exact mp_iret E hr hp hS h d_Handle_throughFilter_33
  · replace h := h.2 g_1
    by_cases g_3 : v0 = 2
    · replace h := h.1 g_3
      refine lv_tableIn (x := v0) (off := 33) (tgt := 34) hx hb d_Handle_throughFilter_1 (by rw [g_3]; decide) (by rw [g_3]; decide) (by rw [g_3]; decide) (by decide) ?_
      refine lv_iload_n hx hb d_Handle_throughFilter_34 rfl (lv_at hl 1 rfl) ?_
      refine lv_iconst (v := 4) hx hb d_Handle_throughFilter_35 (by decide) ?_
      refine lv_ishr hx hb d_Handle_throughFilter_36 ?_
      refine lv_topi (fun x_4 ex_4 => ?_)
      replace h := h x_4 ex_4
      refine lv_iload_n hx hb d_Handle_throughFilter_37 rfl (lv_at hl 1 rfl) ?_
      refine lv_bipush (v := 15) hx hb d_Handle_throughFilter_38 (by decide) ?_
      refine lv_iand hx hb d_Handle_throughFilter_40 ?_
      refine lv_topi (fun x_5 ex_5 => ?_)
      replace h := h x_5 ex_5
      refine lv_iconst (v := 4) hx hb d_Handle_throughFilter_41 (by decide) ?_
      refine lv_ishl hx hb d_Handle_throughFilter_42 ?_
      refine lv_topi (fun x_6 ex_6 => ?_)
      replace h := h x_6 ex_6
      refine lv_ior hx hb d_Handle_throughFilter_43 ?_
      refine lv_topi (fun x_7 ex_7 => ?_)
      replace h := h x_7 ex_7
      exact mp_iret E hr hp hS h d_Handle_throughFilter_44
    · replace h := h.2 g_3
      by_cases g_8 : v0 = 3
      · replace h := h.1 g_8
        refine lv_tableIn (x := v0) (off := 44) (tgt := 45) hx hb d_Handle_throughFilter_1 (by rw [g_8]; decide) (by rw [g_8]; decide) (by rw [g_8]; decide) (by decide) ?_
        refine lv_iload_n hx hb d_Handle_throughFilter_45 rfl (lv_at hl 1 rfl) ?_
        refine lv_iload_n hx hb d_Handle_throughFilter_46 rfl (lv_at hl 2 rfl) ?_
        refine lv_iadd hx hb d_Handle_throughFilter_47 ?_
        refine lv_topi (fun x_9 ex_9 => ?_)
        replace h := h x_9 ex_9
        refine lv_sipush (v := 255) hx hb d_Handle_throughFilter_48 (by decide) ?_
        refine lv_iand hx hb d_Handle_throughFilter_51 ?_
        refine lv_topi (fun x_10 ex_10 => ?_)
        replace h := h x_10 ex_10
        exact mp_iret E hr hp hS h d_Handle_throughFilter_52
      · replace h := h.2 g_8
        have ng_1 := lv_neT g_1 (show (1 : Int32).toInt = 1 from by decide)
        have ng_3 := lv_neT g_3 (show (2 : Int32).toInt = 2 from by decide)
        have ng_8 := lv_neT g_8 (show (3 : Int32).toInt = 3 from by decide)
        refine lv_tableD (x := v0) (tgt := 53) (real := [0, 1, 2]) hx hb d_Handle_throughFilter_1 (by decide) (fun q1 q2 => ⟨by simp only [List.size_toArray, List.length_cons, List.length_nil]; omega, by simp only [List.mem_cons, List.not_mem_nil, or_false]; omega⟩) (by decide) ?_
        refine lv_iload_n hx hb d_Handle_throughFilter_53 rfl (lv_at hl 1 rfl) ?_
        exact mp_iret E hr hp hS h d_Handle_throughFilter_54
set_option maxHeartbeats 4000000 in
set_option maxRecDepth 100000 in
theorem c_Handle_throughFilter (l : Launch) (G : Gc) (m : Mm) (v0 : Int32) (v1 : Int32) (v2 : Int32) (P : Int32 → Mm → Prop) (h : wp_Handle_throughFilter m v0 v1 v2 P) : Met l y_Handle_throughFilter (Cond.code y_Handle_throughFilter b_Handle_throughFilter 3 (some .int) :: lw_good) rm_Handle_throughFilter (Pre9 G m [.int v0, .int v1, .int v2]) (PoI G P) 0 0 (fr G) := by
  refine Met.ofW (cc := b_Handle_throughFilter) (maxL := 3) (ret := (some .int)) (by decide) rfl ?_
  intro p e s mt args below meth c s₁ B hml hv
  obtain ⟨rfl, hp, hC⟩ := hv
  have hts := atoms_spec (ws := Cond.code y_Handle_throughFilter b_Handle_throughFilter 3 (some .int) :: lw_good) B.pre
  have E : En G R_Handle b_Handle_throughFilter 3 p s mt _ meth c := ⟨B.exec, B.bytes, hml, findClass_of_methodNamed B.named, fun w hw => hts w (List.mem_cons_of_mem _ hw), hC, B.notSynchronized⟩
  have hr := B.returns
  have hl := lv_entry [.int v0, .int v1, .int v2] (n := 3) (by simp [lg_sl, rn_cat, cat_int, cat_long, cat_ref, cat_null])
  rw [lg_entry_eq]
  generalize (lg_sl [.int v0, .int v1, .int v2] ++ List.replicate (3 - (lg_sl [.int v0, .int v1, .int v2]).length) Slot.unset).toArray = ls at hl ⊢
  have hl : lv_has ls 3 [(0, .int v0), (1, .int v1), (2, .int v2)] := by simpa [lv_args, rn_cat, cat_int, cat_long, cat_ref, cat_null] using hl
  exact t_Handle_throughFilter_0 E hr m v0 v1 v2 _ _ _ h hp va_S.rf (lv_sub hl [0, 1, 2] rfl)
abbrev rm_Handle_asWritten : Room := { frames := 1, cells := 0, slots := 0, locals := 22 }
set_option maxHeartbeats 4000000 in
set_option maxRecDepth 100000 in
theorem t_Handle_asWritten_13 {G : Gc} {P : Int32 → Mm → Prop} (E : En G R_Handle b_Handle_asWritten 4 p s mt args meth c) (hr : meth.sig.returnType = some .int) : ∀ (n : Nat) (m : Mm) (v0 : Nat) (v2 : Int32) (v3 : Int32) (H : Heap) (locs : List Loc) (ls : Array Slot) (_ : wp_Handle_asWritten_13 P n m v0 v2 v3) (_ : pic G m H) (_ : va_S (fr G) s.heap H locs) (_ : lv_has ls 4 [(0, rn v0), (2, .int v2), (3, .int v3)]), W p l e rm_Handle_asWritten s mt args below meth c H locs 0 0 (MQ below (PoI G P) args s 0 0 (fr G)) (F0 mt 13 ls []) := by
  intro n
  induction n with
  | zero => intro m v0 v2 v3 H locs ls h hp hS hl; exact h.elim
  | succ n ih =>
    intro m v0 v2 v3 H locs ls h hp hS hl
    have hx := E.1
    have hb := E.2.1
    unfold wp_Handle_asWritten_13 at h
    refine lv_iload_n hx hb d_Handle_asWritten_13 rfl (lv_at hl 2 rfl) ?_
    refine lv_if_lt (tgt := 35) hx hb d_Handle_asWritten_14 (by decide) (fun g_1 => ?_) (fun g_1 => ?_)
    · replace h := h.1 g_1
      refine lv_iload_n hx hb d_Handle_asWritten_35 rfl (lv_at hl 1 rfl) ?_
      exact mp_iret E hr hp hS h d_Handle_asWritten_36
    · replace h := h.2 g_1
      refine rr_aload_n hx hb d_Handle_asWritten_17 rfl (lv_at hl 0 rfl) ?_
      obtain ⟨g_3, h⟩ := h
      refine rg_Handle_filters E hp g_3 lk_23 d_Handle_asWritten_18 (fun x_2 ex_2 => ?_)
      replace h := h x_2 ex_2
      refine lv_iload_n hx hb d_Handle_asWritten_21 rfl (lv_at hl 2 rfl) ?_
      obtain ⟨g_5, g_6, h⟩ := h
      refine mp_iald (t0 := 1) E hp g_5 (by decide) rfl rfl g_6 d_Handle_asWritten_22 (fun x_4 ex_4 => ?_)
      replace h := h x_4 ex_4
      refine lv_iload_n hx hb d_Handle_asWritten_23 rfl (lv_at hl 1 rfl) ?_
      refine lv_iconst (v := 1) hx hb d_Handle_asWritten_24 (by decide) ?_
      refine mc_i hS (mc_runS (As := [.int x_4, .int v2, .int 1]) (rest := []) E (c_Handle_throughFilter l G m x_4 v2 1 _ h) wd_Handle_throughFilter ⟨lk_191, lk_192⟩ rfl rfl ⟨Nat.le_of_ble_eq_true rfl, Nat.le_of_ble_eq_true rfl⟩ hp hS rfl hl.1 rfl (lv_room (Nat.le_of_ble_eq_true rfl)) d_Handle_asWritten_25 ⟨Nat.le_of_ble_eq_true rfl, Nat.le_of_ble_eq_true rfl⟩) (fun r_8 m_7 h H locs hp hS => ?_)
      try dsimp only at h
      refine lv_istore_n (lv' := [(2, .int r_8), (0, rn v0), (3, .int v3)]) hx hb d_Handle_asWritten_28 rfl hl (by decide) rfl (fun ls hl => ?_)
      obtain ⟨x_9, ex_9⟩ : ∃ y : Int32, y = v3 + (-1) := ⟨_, rfl⟩
      replace h := h x_9 ex_9
      refine lv_iinc (v := x_9) (lv' := [(3, .int x_9), (2, .int r_8), (0, rn v0)]) hx hb d_Handle_asWritten_29 hl (k := 2) rfl (by rw [ex_9]; rfl) (by decide) rfl (fun ls hl => ?_)
      refine lv_goto (tgt := 13) hx hb d_Handle_asWritten_32 (by decide) ?_
      exact ih m_7 v0 r_8 x_9 _ _ _ h hp hS (lv_sub hl [2, 1, 0] rfl)
set_option maxHeartbeats 4000000 in
set_option maxRecDepth 100000 in
theorem t_Handle_asWritten_0 {G : Gc} {P : Int32 → Mm → Prop} (E : En G R_Handle b_Handle_asWritten 4 p s mt args meth c) (hr : meth.sig.returnType = some .int) (m : Mm) (v0 : Nat) (v1 : Int32) (H : Heap) (locs : List Loc) (ls : Array Slot) (h : wp_Handle_asWritten_0 P m v0 v1) (hp : pic G m H) (hS : va_S (fr G) s.heap H locs) (hl : lv_has ls 4 [(0, rn v0), (1, .int v1)]) : W p l e rm_Handle_asWritten s mt args below meth c H locs 0 0 (MQ below (PoI G P) args s 0 0 (fr G)) (F0 mt 0 ls []) := by
  have hx := E.1
  have hb := E.2.1
  unfold wp_Handle_asWritten_0 at h
  refine lv_iload_n hx hb d_Handle_asWritten_0 rfl (lv_at hl 1 rfl) ?_
  refine lv_sipush (v := 255) hx hb d_Handle_asWritten_1 (by decide) ?_
  refine lv_iand hx hb d_Handle_asWritten_4 ?_
  refine lv_topi (fun x_1 ex_1 => ?_)
  replace h := h x_1 ex_1
  refine lv_istore_n (lv' := [(2, .int x_1), (0, rn v0), (1, .int v1)]) hx hb d_Handle_asWritten_5 rfl hl (by decide) rfl (fun ls hl => ?_)
  refine rr_aload_n hx hb d_Handle_asWritten_6 rfl (lv_at hl 1 rfl) ?_
  obtain ⟨g_3, h⟩ := h
  refine rg_Handle_filterCount E hp g_3 lk_20 d_Handle_asWritten_7 (fun x_2 ex_2 => ?_)
  replace h := h x_2 ex_2
  refine lv_iconst (v := 1) hx hb d_Handle_asWritten_10 (by decide) ?_
  refine lv_isub hx hb d_Handle_asWritten_11 ?_
  refine lv_topi (fun x_4 ex_4 => ?_)
  replace h := h x_4 ex_4
  refine lv_istore_n (lv' := [(3, .int x_4), (2, .int x_1), (0, rn v0), (1, .int v1)]) hx hb d_Handle_asWritten_12 rfl hl (by decide) rfl (fun ls hl => ?_)
  obtain ⟨n_5, h⟩ := h
  exact t_Handle_asWritten_13 E hr n_5 m v0 x_1 x_4 _ _ _ h hp hS (lv_sub hl [2, 1, 0] rfl)
set_option maxHeartbeats 4000000 in
set_option maxRecDepth 100000 in
theorem c_Handle_asWritten (l : Launch) (G : Gc) (m : Mm) (v0 : Nat) (v1 : Int32) (P : Int32 → Mm → Prop) (h : wp_Handle_asWritten m v0 v1 P) : Met l y_Handle_asWritten (Cond.code y_Handle_asWritten b_Handle_asWritten 4 (some .int) :: lw_good) rm_Handle_asWritten (Pre9 G m [rn v0, .int v1]) (PoI G P) 0 0 (fr G) := by
  refine Met.ofW (cc := b_Handle_asWritten) (maxL := 4) (ret := (some .int)) (by decide) rfl ?_
  intro p e s mt args below meth c s₁ B hml hv
  obtain ⟨rfl, hp, hC⟩ := hv
  have hts := atoms_spec (ws := Cond.code y_Handle_asWritten b_Handle_asWritten 4 (some .int) :: lw_good) B.pre
  have E : En G R_Handle b_Handle_asWritten 4 p s mt _ meth c := ⟨B.exec, B.bytes, hml, findClass_of_methodNamed B.named, fun w hw => hts w (List.mem_cons_of_mem _ hw), hC, B.notSynchronized⟩
  have hr := B.returns
  have hl := lv_entry [rn v0, .int v1] (n := 4) (by simp [lg_sl, rn_cat, cat_int, cat_long, cat_ref, cat_null])
  rw [lg_entry_eq]
  generalize (lg_sl [rn v0, .int v1] ++ List.replicate (4 - (lg_sl [rn v0, .int v1]).length) Slot.unset).toArray = ls at hl ⊢
  have hl : lv_has ls 4 [(0, rn v0), (1, .int v1)] := by simpa [lv_args, rn_cat, cat_int, cat_long, cat_ref, cat_null] using hl
  exact t_Handle_asWritten_0 E hr m v0 v1 _ _ _ h hp va_S.rf (lv_sub hl [0, 1] rfl)
abbrev rm_Store_append : Room := { frames := 1, cells := 0, slots := 0, locals := 20 }
set_option maxHeartbeats 4000000 in
set_option maxRecDepth 100000 in
theorem t_Store_append_0 {G : Gc} {P : Mm → Prop} (E : En G R_Store b_Store_append 2 p s mt args meth c) (hr : meth.sig.returnType = none) (m : Mm) (v0 : Nat) (v1 : Int32) (H : Heap) (locs : List Loc) (ls : Array Slot) (h : wp_Store_append_0 P m v0 v1) (hp : pic G m H) (hS : va_S (fr G) s.heap H locs) (hl : lv_has ls 2 [(0, rn v0), (1, .int v1)]) : W p l e rm_Store_append s mt args below meth c H locs 0 0 (MQ below (PoV G P) args s 0 0 (fr G)) (F0 mt 0 ls []) := by
  have hx := E.1
  have hb := E.2.1
  unfold wp_Store_append_0 at h
  refine rr_aload_n hx hb d_Store_append_0 rfl (lv_at hl 0 rfl) ?_
  obtain ⟨g_3, h⟩ := h
  refine mc_i hS (mc_runV (As := []) (rest := []) E (c_Store_isFull l G m v0 _ h) wd_Store_isFull ⟨lk_193, lk_194, lk_195⟩ rfl rfl ⟨Nat.le_of_ble_eq_true rfl, Nat.le_of_ble_eq_true rfl⟩ hp hS g_3 (by decide) rfl rfl rfl hl.1 rfl (lv_room (Nat.le_of_ble_eq_true rfl)) d_Store_append_1 ⟨Nat.le_of_ble_eq_true rfl, Nat.le_of_ble_eq_true rfl⟩) (fun r_2 m_1 h H locs hp hS => ?_)
  try dsimp only at h
  refine lv_if_ne (tgt := 28) hx hb d_Store_append_4 (by decide) (fun g_4 => ?_) (fun g_4 => ?_)
  · replace h := h.2 g_4
    exact mp_vret E hr hp hS h d_Store_append_28
  · replace h := h.1 g_4
    refine rr_aload_n hx hb d_Store_append_7 rfl (lv_at hl 0 rfl) ?_
    obtain ⟨g_6, h⟩ := h
    refine rg_Store_bytes E hp g_6 lk_13 d_Store_append_8 (fun x_5 ex_5 => ?_)
    replace h := h x_5 ex_5
    refine rr_aload_n hx hb d_Store_append_11 rfl (lv_at hl 0 rfl) ?_
    obtain ⟨g_8, h⟩ := h
    refine rg_Store_size E hp g_8 lk_14 d_Store_append_12 (fun x_7 ex_7 => ?_)
    replace h := h x_7 ex_7
    refine lv_iload_n hx hb d_Store_append_15 rfl (lv_at hl 1 rfl) ?_
    obtain ⟨x_9, ex_9⟩ : ∃ y : Int32, y = v1.toInt8.toInt32 := ⟨_, rfl⟩
    replace h := h x_9 ex_9
    refine lv_i2b hx hb d_Store_append_16 ex_9.symm ?_
    obtain ⟨g_10, g_11, h⟩ := h
    refine mp_bast (t0 := 4) E hp hS g_10 (by decide) rfl cw_26 rfl g_11 d_Store_append_17 (fun m_12 em_12 H locs hp hS => ?_)
    replace h := h m_12 em_12
    refine rr_aload_n hx hb d_Store_append_18 rfl (lv_at hl 0 rfl) ?_
    refine lv_dup hx hb d_Store_append_19 (rn_cat _) ?_
    obtain ⟨g_14, h⟩ := h
    refine rg_Store_size E hp g_14 lk_14 d_Store_append_20 (fun x_13 ex_13 => ?_)
    replace h := h x_13 ex_13
    refine lv_iconst (v := 1) hx hb d_Store_append_23 (by decide) ?_
    refine lv_iadd hx hb d_Store_append_24 ?_
    refine lv_topi (fun x_15 ex_15 => ?_)
    replace h := h x_15 ex_15
    obtain ⟨g_16, h⟩ := h
    refine rp_Store_size E hp hS g_16 lk_14 d_Store_append_25 (fun m_17 em_17 H locs hp hS => ?_)
    replace h := h m_17 em_17
    exact mp_vret E hr hp hS h d_Store_append_28
set_option maxHeartbeats 4000000 in
set_option maxRecDepth 100000 in
theorem c_Store_append (l : Launch) (G : Gc) (m : Mm) (v0 : Nat) (v1 : Int32) (P : Mm → Prop) (h : wp_Store_append m v0 v1 P) : Met l y_Store_append (Cond.code y_Store_append b_Store_append 2 none :: lw_good) rm_Store_append (Pre9 G m [rn v0, .int v1]) (PoV G P) 0 0 (fr G) := by
  refine Met.ofW (cc := b_Store_append) (maxL := 2) (ret := none) (by decide) rfl ?_
  intro p e s mt args below meth c s₁ B hml hv
  obtain ⟨rfl, hp, hC⟩ := hv
  have hts := atoms_spec (ws := Cond.code y_Store_append b_Store_append 2 none :: lw_good) B.pre
  have E : En G R_Store b_Store_append 2 p s mt _ meth c := ⟨B.exec, B.bytes, hml, findClass_of_methodNamed B.named, fun w hw => hts w (List.mem_cons_of_mem _ hw), hC, B.notSynchronized⟩
  have hr := B.returns
  have hl := lv_entry [rn v0, .int v1] (n := 2) (by simp [lg_sl, rn_cat, cat_int, cat_long, cat_ref, cat_null])
  rw [lg_entry_eq]
  generalize (lg_sl [rn v0, .int v1] ++ List.replicate (2 - (lg_sl [rn v0, .int v1]).length) Slot.unset).toArray = ls at hl ⊢
  have hl : lv_has ls 2 [(0, rn v0), (1, .int v1)] := by simpa [lv_args, rn_cat, cat_int, cat_long, cat_ref, cat_null] using hl
  exact t_Store_append_0 E hr m v0 v1 _ _ _ h hp va_S.rf (lv_sub hl [0, 1] rfl)
abbrev rm_FileTree_put : Room := { frames := 2, cells := 0, slots := 0, locals := 45 }
set_option maxHeartbeats 4000000 in
set_option maxRecDepth 100000 in
theorem t_FileTree_put_0 {G : Gc} {P : Int32 → Mm → Prop} (E : En G R_FileTree b_FileTree_put 4 p s mt args meth c) (hr : meth.sig.returnType = some .int) (m : Mm) (v0 : Nat) (v1 : Int32) (v2 : Int32) (H : Heap) (locs : List Loc) (ls : Array Slot) (h : wp_FileTree_put_0 P m v0 v1 v2) (hp : pic G m H) (hS : va_S (fr G) s.heap H locs) (hl : lv_has ls 4 [(0, rn v0), (1, .int v1), (2, .int v2)]) : W p l e rm_FileTree_put s mt args below meth c H locs 0 0 (MQ below (PoI G P) args s 0 0 (fr G)) (F0 mt 0 ls []) := by
  have hx := E.1
  have hb := E.2.1
  unfold wp_FileTree_put_0 at h
  refine rr_aload_n hx hb d_FileTree_put_0 rfl (lv_at hl 0 rfl) ?_
  refine lv_iload_n hx hb d_FileTree_put_1 rfl (lv_at hl 1 rfl) ?_
  obtain ⟨g_3, h⟩ := h
  refine mc_r hS (mc_runV (As := [.int v1]) (rest := []) E (c_FileTree_openOrNull l G m v0 v1 _ h) wd_FileTree_openOrNull ⟨lk_186, lk_187, lk_188⟩ rfl rfl ⟨Nat.le_of_ble_eq_true rfl, Nat.le_of_ble_eq_true rfl⟩ hp hS g_3 (by decide) rfl rfl rfl hl.1 rfl (lv_room (Nat.le_of_ble_eq_true rfl)) d_FileTree_put_2 ⟨Nat.le_of_ble_eq_true rfl, Nat.le_of_ble_eq_true rfl⟩) (fun r_2 m_1 h H locs hp hS => ?_)
  try dsimp only at h
  refine rr_astore_n (lv' := [(3, rn r_2), (0, rn v0), (1, .int v1), (2, .int v2)]) hx hb d_FileTree_put_5 rfl hl (by decide) rfl (fun ls hl => ?_)
  refine rr_aload_n hx hb d_FileTree_put_6 rfl (lv_at hl 0 rfl) ?_
  refine rr_ifnull (tgt := 17) hx hb d_FileTree_put_7 (by decide) (fun g_4 => ?_) (fun g_4 => ?_)
  · replace h := h.1 g_4
    refine lv_iconst (v := (-1)) hx hb d_FileTree_put_17 (by decide) ?_
    exact mp_iret E hr hp hS h d_FileTree_put_18
  · replace h := h.2 g_4
    refine rr_aload_n hx hb d_FileTree_put_10 rfl (lv_at hl 0 rfl) ?_
    obtain ⟨g_6, h⟩ := h
    refine rg_Handle_store E hp g_6 lk_171 d_FileTree_put_11 (fun x_5 ex_5 => ?_)
    replace h := h x_5 ex_5
    refine rr_ifnonnull (tgt := 19) hx hb d_FileTree_put_14 (by decide) (fun g_7 => ?_) (fun g_7 => ?_)
    · replace h := h.2 g_7
      refine rr_aload_n hx hb d_FileTree_put_19 rfl (lv_at hl 0 rfl) ?_
      obtain ⟨g_9, h⟩ := h
      refine rg_Handle_mode E hp g_9 lk_172 d_FileTree_put_20 (fun x_8 ex_8 => ?_)
      replace h := h x_8 ex_8
      refine lv_if_ne (tgt := 29) hx hb d_FileTree_put_23 (by decide) (fun g_10 => ?_) (fun g_10 => ?_)
      · replace h := h.2 g_10
        refine rr_aload_n hx hb d_FileTree_put_29 rfl (lv_at hl 0 rfl) ?_
        obtain ⟨g_12, h⟩ := h
        refine rg_Handle_store E hp g_12 lk_171 d_FileTree_put_30 (fun x_11 ex_11 => ?_)
        replace h := h x_11 ex_11
        obtain ⟨g_15, h⟩ := h
        refine mc_i hS (mc_runV (As := []) (rest := []) E (c_Store_isFull l G m_1 x_11 _ h) wd_Store_isFull ⟨lk_196, lk_194, lk_195⟩ rfl rfl ⟨Nat.le_of_ble_eq_true rfl, Nat.le_of_ble_eq_true rfl⟩ hp hS g_15 (by decide) rfl rfl rfl hl.1 rfl (lv_room (Nat.le_of_ble_eq_true rfl)) d_FileTree_put_33 ⟨Nat.le_of_ble_eq_true rfl, Nat.le_of_ble_eq_true rfl⟩) (fun r_14 m_13 h H locs hp hS => ?_)
        try dsimp only at h
        refine lv_if_eq (tgt := 42) hx hb d_FileTree_put_36 (by decide) (fun g_16 => ?_) (fun g_16 => ?_)
        · replace h := h.1 g_16
          refine rr_aload_n hx hb d_FileTree_put_42 rfl (lv_at hl 0 rfl) ?_
          obtain ⟨g_18, h⟩ := h
          refine rg_Handle_store E hp g_18 lk_171 d_FileTree_put_43 (fun x_17 ex_17 => ?_)
          replace h := h x_17 ex_17
          refine rr_aload_n hx hb d_FileTree_put_46 rfl (lv_at hl 0 rfl) ?_
          refine lv_iload_n hx hb d_FileTree_put_47 rfl (lv_at hl 3 rfl) ?_
          obtain ⟨g_21, h⟩ := h
          refine mc_i hS (mc_runV (As := [.int v2]) (rest := [rn x_17]) E (c_Handle_asWritten l G m_13 r_2 v2 _ h) wd_Handle_asWritten ⟨lk_197, lk_198, lk_199⟩ rfl rfl ⟨Nat.le_of_ble_eq_true rfl, Nat.le_of_ble_eq_true rfl⟩ hp hS g_21 (by decide) rfl rfl rfl hl.1 rfl (lv_room (by simp [rn_cat, cat_int, cat_long, cat_ref, cat_null])) d_FileTree_put_48 ⟨Nat.le_of_ble_eq_true rfl, Nat.le_of_ble_eq_true rfl⟩) (fun r_20 m_19 h H locs hp hS => ?_)
          try dsimp only at h
          obtain ⟨g_24, h⟩ := h
          refine mc_v hS (mc_runV (As := [.int r_20]) (rest := []) E (c_Store_append l G m_19 x_17 r_20 _ h) wd_Store_append ⟨lk_200, lk_201, lk_202⟩ rfl rfl ⟨Nat.le_of_ble_eq_true rfl, Nat.le_of_ble_eq_true rfl⟩ hp hS g_24 (by decide) rfl rfl rfl hl.1 rfl (lv_room (Nat.le_of_ble_eq_true rfl)) d_FileTree_put_51 ⟨Nat.le_of_ble_eq_true rfl, Nat.le_of_ble_eq_true rfl⟩) (fun m_22 h H locs hp hS => ?_)
          try dsimp only at h
          refine lv_iconst (v := 1) hx hb d_FileTree_put_54 (by decide) ?_
          exact mp_iret E hr hp hS h d_FileTree_put_55
        · replace h := h.2 g_16
          refine lv_bipush (v := (-4)) hx hb d_FileTree_put_39 (by decide) ?_
          exact mp_iret E hr hp hS h d_FileTree_put_41
      · replace h := h.1 g_10
        refine lv_bipush (v := (-3)) hx hb d_FileTree_put_26 (by decide) ?_
        exact mp_iret E hr hp hS h d_FileTree_put_28
    · replace h := h.1 g_7
      refine lv_iconst (v := (-1)) hx hb d_FileTree_put_17 (by decide) ?_
      exact mp_iret E hr hp hS h d_FileTree_put_18
set_option maxHeartbeats 4000000 in
set_option maxRecDepth 100000 in
theorem c_FileTree_put (l : Launch) (G : Gc) (m : Mm) (v0 : Nat) (v1 : Int32) (v2 : Int32) (P : Int32 → Mm → Prop) (h : wp_FileTree_put m v0 v1 v2 P) : Met l y_FileTree_put (Cond.code y_FileTree_put b_FileTree_put 4 (some .int) :: lw_good) rm_FileTree_put (Pre9 G m [rn v0, .int v1, .int v2]) (PoI G P) 0 0 (fr G) := by
  refine Met.ofW (cc := b_FileTree_put) (maxL := 4) (ret := (some .int)) (by decide) rfl ?_
  intro p e s mt args below meth c s₁ B hml hv
  obtain ⟨rfl, hp, hC⟩ := hv
  have hts := atoms_spec (ws := Cond.code y_FileTree_put b_FileTree_put 4 (some .int) :: lw_good) B.pre
  have E : En G R_FileTree b_FileTree_put 4 p s mt _ meth c := ⟨B.exec, B.bytes, hml, findClass_of_methodNamed B.named, fun w hw => hts w (List.mem_cons_of_mem _ hw), hC, B.notSynchronized⟩
  have hr := B.returns
  have hl := lv_entry [rn v0, .int v1, .int v2] (n := 4) (by simp [lg_sl, rn_cat, cat_int, cat_long, cat_ref, cat_null])
  rw [lg_entry_eq]
  generalize (lg_sl [rn v0, .int v1, .int v2] ++ List.replicate (4 - (lg_sl [rn v0, .int v1, .int v2]).length) Slot.unset).toArray = ls at hl ⊢
  have hl : lv_has ls 4 [(0, rn v0), (1, .int v1), (2, .int v2)] := by simpa [lv_args, rn_cat, cat_int, cat_long, cat_ref, cat_null] using hl
  exact t_FileTree_put_0 E hr m v0 v1 v2 _ _ _ h hp va_S.rf (lv_sub hl [0, 1, 2] rfl)
abbrev rm_Handle_layFilter : Room := { frames := 0, cells := 0, slots := 0, locals := 0 }
set_option maxHeartbeats 4000000 in
set_option maxRecDepth 100000 in
theorem t_Handle_layFilter_0 {G : Gc} {P : Int32 → Mm → Prop} (E : En G R_Handle b_Handle_layFilter 2 p s mt args meth c) (hr : meth.sig.returnType = some .int) (m : Mm) (v0 : Nat) (v1 : Int32) (H : Heap) (locs : List Loc) (ls : Array Slot) (h : wp_Handle_layFilter_0 P m v0 v1) (hp : pic G m H) (hS : va_S (fr G) s.heap H locs) (hl : lv_has ls 2 [(0, rn v0), (1, .int v1)]) : W p l e rm_Handle_layFilter s mt args below meth c H locs 0 0 (MQ below (PoI G P) args s 0 0 (fr G)) (F0 mt 0 ls []) := by
  have hx := E.1
  have hb := E.2.1
  unfold wp_Handle_layFilter_0 at h
  refine rr_aload_n hx hb d_Handle_layFilter_0 rfl (lv_at hl 0 rfl) ?_
  obtain ⟨g_2, h⟩ := h
  refine rg_Handle_filterCount E hp g_2 lk_20 d_Handle_layFilter_1 (fun x_1 ex_1 => ?_)
  replace h := h x_1 ex_1
  refine lv_iconst (v := 3) hx hb d_Handle_layFilter_4 (by decide) ?_
  refine lv_icmp_lt (tgt := 11) hx hb d_Handle_layFilter_5 (by decide) (fun g_3 => ?_) (fun g_3 => ?_)
  · replace h := h.1 g_3
    refine rr_aload_n hx hb d_Handle_layFilter_11 rfl (lv_at hl 0 rfl) ?_
    obtain ⟨g_5, h⟩ := h
    refine rg_Handle_filters E hp g_5 lk_23 d_Handle_layFilter_12 (fun x_4 ex_4 => ?_)
    replace h := h x_4 ex_4
    refine rr_aload_n hx hb d_Handle_layFilter_15 rfl (lv_at hl 0 rfl) ?_
    obtain ⟨g_7, h⟩ := h
    refine rg_Handle_filterCount E hp g_7 lk_20 d_Handle_layFilter_16 (fun x_6 ex_6 => ?_)
    replace h := h x_6 ex_6
    refine lv_iload_n hx hb d_Handle_layFilter_19 rfl (lv_at hl 1 rfl) ?_
    obtain ⟨g_8, g_9, h⟩ := h
    refine mp_iast (t0 := 1) E hp hS g_8 (by decide) rfl cw_27 rfl g_9 d_Handle_layFilter_20 (fun m_10 em_10 H locs hp hS => ?_)
    replace h := h m_10 em_10
    refine rr_aload_n hx hb d_Handle_layFilter_21 rfl (lv_at hl 0 rfl) ?_
    refine lv_dup hx hb d_Handle_layFilter_22 (rn_cat _) ?_
    obtain ⟨g_12, h⟩ := h
    refine rg_Handle_filterCount E hp g_12 lk_20 d_Handle_layFilter_23 (fun x_11 ex_11 => ?_)
    replace h := h x_11 ex_11
    refine lv_iconst (v := 1) hx hb d_Handle_layFilter_26 (by decide) ?_
    refine lv_iadd hx hb d_Handle_layFilter_27 ?_
    refine lv_topi (fun x_13 ex_13 => ?_)
    replace h := h x_13 ex_13
    obtain ⟨g_14, h⟩ := h
    refine rp_Handle_filterCount E hp hS g_14 lk_20 d_Handle_layFilter_28 (fun m_15 em_15 H locs hp hS => ?_)
    replace h := h m_15 em_15
    refine rr_aload_n hx hb d_Handle_layFilter_31 rfl (lv_at hl 0 rfl) ?_
    obtain ⟨g_17, h⟩ := h
    refine rg_Handle_filterCount E hp g_17 lk_20 d_Handle_layFilter_32 (fun x_16 ex_16 => ?_)
    replace h := h x_16 ex_16
    exact mp_iret E hr hp hS h d_Handle_layFilter_35
  · replace h := h.2 g_3
    refine lv_bipush (v := (-4)) hx hb d_Handle_layFilter_8 (by decide) ?_
    exact mp_iret E hr hp hS h d_Handle_layFilter_10
set_option maxHeartbeats 4000000 in
set_option maxRecDepth 100000 in
theorem c_Handle_layFilter (l : Launch) (G : Gc) (m : Mm) (v0 : Nat) (v1 : Int32) (P : Int32 → Mm → Prop) (h : wp_Handle_layFilter m v0 v1 P) : Met l y_Handle_layFilter (Cond.code y_Handle_layFilter b_Handle_layFilter 2 (some .int) :: lw_good) rm_Handle_layFilter (Pre9 G m [rn v0, .int v1]) (PoI G P) 0 0 (fr G) := by
  refine Met.ofW (cc := b_Handle_layFilter) (maxL := 2) (ret := (some .int)) (by decide) rfl ?_
  intro p e s mt args below meth c s₁ B hml hv
  obtain ⟨rfl, hp, hC⟩ := hv
  have hts := atoms_spec (ws := Cond.code y_Handle_layFilter b_Handle_layFilter 2 (some .int) :: lw_good) B.pre
  have E : En G R_Handle b_Handle_layFilter 2 p s mt _ meth c := ⟨B.exec, B.bytes, hml, findClass_of_methodNamed B.named, fun w hw => hts w (List.mem_cons_of_mem _ hw), hC, B.notSynchronized⟩
  have hr := B.returns
  have hl := lv_entry [rn v0, .int v1] (n := 2) (by simp [lg_sl, rn_cat, cat_int, cat_long, cat_ref, cat_null])
  rw [lg_entry_eq]
  generalize (lg_sl [rn v0, .int v1] ++ List.replicate (2 - (lg_sl [rn v0, .int v1]).length) Slot.unset).toArray = ls at hl ⊢
  have hl : lv_has ls 2 [(0, rn v0), (1, .int v1)] := by simpa [lv_args, rn_cat, cat_int, cat_long, cat_ref, cat_null] using hl
  exact t_Handle_layFilter_0 E hr m v0 v1 _ _ _ h hp va_S.rf (lv_sub hl [0, 1] rfl)
abbrev rm_FileTree_putFilter : Room := { frames := 2, cells := 0, slots := 0, locals := 43 }
set_option maxHeartbeats 4000000 in
set_option maxRecDepth 100000 in
theorem t_FileTree_putFilter_0 {G : Gc} {P : Int32 → Mm → Prop} (E : En G R_FileTree b_FileTree_putFilter 4 p s mt args meth c) (hr : meth.sig.returnType = some .int) (m : Mm) (v0 : Nat) (v1 : Int32) (v2 : Int32) (H : Heap) (locs : List Loc) (ls : Array Slot) (h : wp_FileTree_putFilter_0 P m v0 v1 v2) (hp : pic G m H) (hS : va_S (fr G) s.heap H locs) (hl : lv_has ls 4 [(0, rn v0), (1, .int v1), (2, .int v2)]) : W p l e rm_FileTree_putFilter s mt args below meth c H locs 0 0 (MQ below (PoI G P) args s 0 0 (fr G)) (F0 mt 0 ls []) := by
  have hx := E.1
  have hb := E.2.1
  unfold wp_FileTree_putFilter_0 at h
  refine rr_aload_n hx hb d_FileTree_putFilter_0 rfl (lv_at hl 0 rfl) ?_
  refine lv_iload_n hx hb d_FileTree_putFilter_1 rfl (lv_at hl 1 rfl) ?_
  obtain ⟨g_3, h⟩ := h
  refine mc_r hS (mc_runV (As := [.int v1]) (rest := []) E (c_FileTree_openOrNull l G m v0 v1 _ h) wd_FileTree_openOrNull ⟨lk_186, lk_187, lk_188⟩ rfl rfl ⟨Nat.le_of_ble_eq_true rfl, Nat.le_of_ble_eq_true rfl⟩ hp hS g_3 (by decide) rfl rfl rfl hl.1 rfl (lv_room (Nat.le_of_ble_eq_true rfl)) d_FileTree_putFilter_2 ⟨Nat.le_of_ble_eq_true rfl, Nat.le_of_ble_eq_true rfl⟩) (fun r_2 m_1 h H locs hp hS => ?_)
  try dsimp only at h
  refine rr_astore_n (lv' := [(3, rn r_2), (0, rn v0), (1, .int v1), (2, .int v2)]) hx hb d_FileTree_putFilter_5 rfl hl (by decide) rfl (fun ls hl => ?_)
  refine rr_aload_n hx hb d_FileTree_putFilter_6 rfl (lv_at hl 0 rfl) ?_
  refine rr_ifnonnull (tgt := 12) hx hb d_FileTree_putFilter_7 (by decide) (fun g_4 => ?_) (fun g_4 => ?_)
  · replace h := h.2 g_4
    refine lv_iload_n hx hb d_FileTree_putFilter_12 rfl (lv_at hl 3 rfl) ?_
    refine lv_iconst (v := 1) hx hb d_FileTree_putFilter_13 (by decide) ?_
    refine lv_icmp_lt (tgt := 22) hx hb d_FileTree_putFilter_14 (by decide) (fun g_5 => ?_) (fun g_5 => ?_)
    · replace h := h.1 g_5
      refine lv_bipush (v := (-2)) hx hb d_FileTree_putFilter_22 (by decide) ?_
      exact mp_iret E hr hp hS h d_FileTree_putFilter_24
    · replace h := h.2 g_5
      refine lv_iload_n hx hb d_FileTree_putFilter_17 rfl (lv_at hl 3 rfl) ?_
      refine lv_iconst (v := 3) hx hb d_FileTree_putFilter_18 (by decide) ?_
      refine lv_icmp_le (tgt := 25) hx hb d_FileTree_putFilter_19 (by decide) (fun g_6 => ?_) (fun g_6 => ?_)
      · replace h := h.1 g_6
        refine rr_aload_n hx hb d_FileTree_putFilter_25 rfl (lv_at hl 0 rfl) ?_
        refine lv_iload_n hx hb d_FileTree_putFilter_26 rfl (lv_at hl 3 rfl) ?_
        obtain ⟨g_9, h⟩ := h
        refine mc_i hS (mc_runV (As := [.int v2]) (rest := []) E (c_Handle_layFilter l G m_1 r_2 v2 _ h) wd_Handle_layFilter ⟨lk_203, lk_204, lk_205⟩ rfl rfl ⟨Nat.le_of_ble_eq_true rfl, Nat.le_of_ble_eq_true rfl⟩ hp hS g_9 (by decide) rfl rfl rfl hl.1 rfl (lv_room (Nat.le_of_ble_eq_true rfl)) d_FileTree_putFilter_27 ⟨Nat.le_of_ble_eq_true rfl, Nat.le_of_ble_eq_true rfl⟩) (fun r_8 m_7 h H locs hp hS => ?_)
        try dsimp only at h
        exact mp_iret E hr hp hS h d_FileTree_putFilter_30
      · replace h := h.2 g_6
        refine lv_bipush (v := (-2)) hx hb d_FileTree_putFilter_22 (by decide) ?_
        exact mp_iret E hr hp hS h d_FileTree_putFilter_24
  · replace h := h.1 g_4
    refine lv_iconst (v := (-1)) hx hb d_FileTree_putFilter_10 (by decide) ?_
    exact mp_iret E hr hp hS h d_FileTree_putFilter_11
set_option maxHeartbeats 4000000 in
set_option maxRecDepth 100000 in
theorem c_FileTree_putFilter (l : Launch) (G : Gc) (m : Mm) (v0 : Nat) (v1 : Int32) (v2 : Int32) (P : Int32 → Mm → Prop) (h : wp_FileTree_putFilter m v0 v1 v2 P) : Met l y_FileTree_putFilter (Cond.code y_FileTree_putFilter b_FileTree_putFilter 4 (some .int) :: lw_good) rm_FileTree_putFilter (Pre9 G m [rn v0, .int v1, .int v2]) (PoI G P) 0 0 (fr G) := by
  refine Met.ofW (cc := b_FileTree_putFilter) (maxL := 4) (ret := (some .int)) (by decide) rfl ?_
  intro p e s mt args below meth c s₁ B hml hv
  obtain ⟨rfl, hp, hC⟩ := hv
  have hts := atoms_spec (ws := Cond.code y_FileTree_putFilter b_FileTree_putFilter 4 (some .int) :: lw_good) B.pre
  have E : En G R_FileTree b_FileTree_putFilter 4 p s mt _ meth c := ⟨B.exec, B.bytes, hml, findClass_of_methodNamed B.named, fun w hw => hts w (List.mem_cons_of_mem _ hw), hC, B.notSynchronized⟩
  have hr := B.returns
  have hl := lv_entry [rn v0, .int v1, .int v2] (n := 4) (by simp [lg_sl, rn_cat, cat_int, cat_long, cat_ref, cat_null])
  rw [lg_entry_eq]
  generalize (lg_sl [rn v0, .int v1, .int v2] ++ List.replicate (4 - (lg_sl [rn v0, .int v1, .int v2]).length) Slot.unset).toArray = ls at hl ⊢
  have hl : lv_has ls 4 [(0, rn v0), (1, .int v1), (2, .int v2)] := by simpa [lv_args, rn_cat, cat_int, cat_long, cat_ref, cat_null] using hl
  exact t_FileTree_putFilter_0 E hr m v0 v1 v2 _ _ _ h hp va_S.rf (lv_sub hl [0, 1, 2] rfl)
end WK
