section WK
variable {p : Program} {l : Launch} {e : Env} {s : State} {mt : MethodId} {args : Array Value} {below : List Frame} {meth : Method} {c : Code}
abbrev rm_Store_byteAt : Room := { frames := 0, cells := 0, slots := 0, locals := 0 }
set_option maxHeartbeats 4000000 in
set_option maxRecDepth 100000 in
theorem t_Store_byteAt_12 {G : Gc} {P : Int32 → Mm → Prop} (E : En G R_Store b_Store_byteAt 2 p s mt args meth c) (hr : meth.sig.returnType = some .int) (m : Mm) (H : Heap) (locs : List Loc) (ls : Array Slot) (h : wp_Store_byteAt_12 P m) (hp : pic G m H) (hS : va_S (fr G) s.heap H locs) (hl : lv_has ls 2 []) : W p l e rm_Store_byteAt s mt args below meth c H locs 0 0 (MQ below (PoI G P) args s 0 0 (fr G)) (F0 mt 12 ls []) := by
  have hx := E.1
  have hb := E.2.1
  unfold wp_Store_byteAt_12 at h
  refine lv_iconst (v := (-1)) hx hb d_Store_byteAt_12 (by decide) ?_
  refine lv_goto (tgt := 26) hx hb d_Store_byteAt_13 (by decide) ?_
  exact mp_iret E hr hp hS h d_Store_byteAt_26
set_option maxHeartbeats 4000000 in
set_option maxRecDepth 100000 in
theorem t_Store_byteAt_0 {G : Gc} {P : Int32 → Mm → Prop} (E : En G R_Store b_Store_byteAt 2 p s mt args meth c) (hr : meth.sig.returnType = some .int) (m : Mm) (v0 : Nat) (v1 : Int32) (H : Heap) (locs : List Loc) (ls : Array Slot) (h : wp_Store_byteAt_0 P m v0 v1) (hp : pic G m H) (hS : va_S (fr G) s.heap H locs) (hl : lv_has ls 2 [(0, rn v0), (1, .int v1)]) : W p l e rm_Store_byteAt s mt args below meth c H locs 0 0 (MQ below (PoI G P) args s 0 0 (fr G)) (F0 mt 0 ls []) := by
  have hx := E.1
  have hb := E.2.1
  unfold wp_Store_byteAt_0 at h
  refine lv_iload_n hx hb d_Store_byteAt_0 rfl (lv_at hl 1 rfl) ?_
  refine lv_if_lt (tgt := 12) hx hb d_Store_byteAt_1 (by decide) (fun g_1 => ?_) (fun g_1 => ?_)
  · replace h := h.1 g_1
    exact t_Store_byteAt_12 E hr m _ _ _ h hp hS (lv_sub hl [] rfl)
  · replace h := h.2 g_1
    refine lv_iload_n hx hb d_Store_byteAt_4 rfl (lv_at hl 1 rfl) ?_
    refine rr_aload_n hx hb d_Store_byteAt_5 rfl (lv_at hl 0 rfl) ?_
    obtain ⟨g_3, h⟩ := h
    refine rg_Store_size E hp g_3 lk_14 d_Store_byteAt_6 (fun x_2 ex_2 => ?_)
    replace h := h x_2 ex_2
    refine lv_icmp_lt (tgt := 16) hx hb d_Store_byteAt_9 (by decide) (fun g_4 => ?_) (fun g_4 => ?_)
    · replace h := h.1 g_4
      refine rr_aload_n hx hb d_Store_byteAt_16 rfl (lv_at hl 0 rfl) ?_
      obtain ⟨g_6, h⟩ := h
      refine rg_Store_bytes E hp g_6 lk_13 d_Store_byteAt_17 (fun x_5 ex_5 => ?_)
      replace h := h x_5 ex_5
      refine lv_iload_n hx hb d_Store_byteAt_20 rfl (lv_at hl 1 rfl) ?_
      obtain ⟨g_8, g_9, h⟩ := h
      refine mp_bald (t0 := 4) E hp g_8 (by decide) rfl rfl g_9 d_Store_byteAt_21 (fun x_7 ex_7 => ?_)
      replace h := h x_7 ex_7
      refine lv_sipush (v := 255) hx hb d_Store_byteAt_22 (by decide) ?_
      refine lv_iand hx hb d_Store_byteAt_25 ?_
      refine lv_topi (fun x_10 ex_10 => ?_)
      replace h := h x_10 ex_10
      exact mp_iret E hr hp hS h d_Store_byteAt_26
    · replace h := h.2 g_4
      exact t_Store_byteAt_12 E hr m _ _ _ h hp hS (lv_sub hl [] rfl)
set_option maxHeartbeats 4000000 in
set_option maxRecDepth 100000 in
theorem c_Store_byteAt (l : Launch) (G : Gc) (m : Mm) (v0 : Nat) (v1 : Int32) (P : Int32 → Mm → Prop) (h : wp_Store_byteAt m v0 v1 P) : Met l y_Store_byteAt (Cond.code y_Store_byteAt b_Store_byteAt 2 (some .int) :: lw_good) rm_Store_byteAt (Pre9 G m [rn v0, .int v1]) (PoI G P) 0 0 (fr G) := by
  refine Met.ofW (cc := b_Store_byteAt) (maxL := 2) (ret := (some .int)) (by decide) rfl ?_
  intro p e s mt args below meth c s₁ B hml hv
  obtain ⟨rfl, hp, hC⟩ := hv
  have hts := atoms_spec (ws := Cond.code y_Store_byteAt b_Store_byteAt 2 (some .int) :: lw_good) B.pre
  have E : En G R_Store b_Store_byteAt 2 p s mt _ meth c := ⟨B.exec, B.bytes, hml, findClass_of_methodNamed B.named, fun w hw => hts w (List.mem_cons_of_mem _ hw), hC, B.notSynchronized⟩
  have hr := B.returns
  have hl := lv_entry [rn v0, .int v1] (n := 2) (by simp [lg_sl, rn_cat, cat_int, cat_long, cat_ref, cat_null])
  rw [lg_entry_eq]
  generalize (lg_sl [rn v0, .int v1] ++ List.replicate (2 - (lg_sl [rn v0, .int v1]).length) Slot.unset).toArray = ls at hl ⊢
  have hl : lv_has ls 2 [(0, rn v0), (1, .int v1)] := by simpa [lv_args, rn_cat, cat_int, cat_long, cat_ref, cat_null] using hl
  exact t_Store_byteAt_0 E hr m v0 v1 _ _ _ h hp va_S.rf (lv_sub hl [0, 1] rfl)
abbrev rm_Handle_nextByte : Room := { frames := 1, cells := 0, slots := 0, locals := 22 }
set_option maxHeartbeats 4000000 in
set_option maxRecDepth 100000 in
theorem t_Handle_nextByte_30 {G : Gc} {P : Int32 → Mm → Prop} (E : En G R_Handle b_Handle_nextByte 4 p s mt args meth c) (hr : meth.sig.returnType = some .int) : ∀ (n : Nat) (m : Mm) (v0 : Nat) (v2 : Int32) (v3 : Int32) (H : Heap) (locs : List Loc) (ls : Array Slot) (_ : wp_Handle_nextByte_30 P n m v0 v2 v3) (_ : pic G m H) (_ : va_S (fr G) s.heap H locs) (_ : lv_has ls 4 [(0, rn v0), (2, .int v2), (3, .int v3)]), W p l e rm_Handle_nextByte s mt args below meth c H locs 0 0 (MQ below (PoI G P) args s 0 0 (fr G)) (F0 mt 30 ls []) := by
  intro n
  induction n with
  | zero => intro m v0 v2 v3 H locs ls h hp hS hl; exact h.elim
  | succ n ih =>
    intro m v0 v2 v3 H locs ls h hp hS hl
    have hx := E.1
    have hb := E.2.1
    unfold wp_Handle_nextByte_30 at h
    refine lv_iload_n hx hb d_Handle_nextByte_30 rfl (lv_at hl 2 rfl) ?_
    refine rr_aload_n hx hb d_Handle_nextByte_31 rfl (lv_at hl 0 rfl) ?_
    obtain ⟨g_2, h⟩ := h
    refine rg_Handle_filterCount E hp g_2 lk_20 d_Handle_nextByte_32 (fun x_1 ex_1 => ?_)
    replace h := h x_1 ex_1
    refine lv_icmp_ge (tgt := 56) hx hb d_Handle_nextByte_35 (by decide) (fun g_3 => ?_) (fun g_3 => ?_)
    · replace h := h.1 g_3
      refine lv_iload_n hx hb d_Handle_nextByte_56 rfl (lv_at hl 1 rfl) ?_
      exact mp_iret E hr hp hS h d_Handle_nextByte_57
    · replace h := h.2 g_3
      refine rr_aload_n hx hb d_Handle_nextByte_38 rfl (lv_at hl 0 rfl) ?_
      obtain ⟨g_5, h⟩ := h
      refine rg_Handle_filters E hp g_5 lk_23 d_Handle_nextByte_39 (fun x_4 ex_4 => ?_)
      replace h := h x_4 ex_4
      refine lv_iload_n hx hb d_Handle_nextByte_42 rfl (lv_at hl 2 rfl) ?_
      obtain ⟨g_7, g_8, h⟩ := h
      refine mp_iald (t0 := 1) E hp g_7 (by decide) rfl rfl g_8 d_Handle_nextByte_43 (fun x_6 ex_6 => ?_)
      replace h := h x_6 ex_6
      refine lv_iload_n hx hb d_Handle_nextByte_44 rfl (lv_at hl 1 rfl) ?_
      refine lv_iconst (v := (-1)) hx hb d_Handle_nextByte_45 (by decide) ?_
      refine mc_i hS (mc_runS (As := [.int x_6, .int v2, .int (-1)]) (rest := []) E (c_Handle_throughFilter l G m x_6 v2 (-1) _ h) wd_Handle_throughFilter ⟨lk_191, lk_192⟩ rfl rfl ⟨Nat.le_of_ble_eq_true rfl, Nat.le_of_ble_eq_true rfl⟩ hp hS rfl hl.1 rfl (lv_room (Nat.le_of_ble_eq_true rfl)) d_Handle_nextByte_46 ⟨Nat.le_of_ble_eq_true rfl, Nat.le_of_ble_eq_true rfl⟩) (fun r_10 m_9 h H locs hp hS => ?_)
      try dsimp only at h
      refine lv_istore_n (lv' := [(2, .int r_10), (0, rn v0), (3, .int v3)]) hx hb d_Handle_nextByte_49 rfl hl (by decide) rfl (fun ls hl => ?_)
      obtain ⟨x_11, ex_11⟩ : ∃ y : Int32, y = v3 + 1 := ⟨_, rfl⟩
      replace h := h x_11 ex_11
      refine lv_iinc (v := x_11) (lv' := [(3, .int x_11), (2, .int r_10), (0, rn v0)]) hx hb d_Handle_nextByte_50 hl (k := 2) rfl (by rw [ex_11]; rfl) (by decide) rfl (fun ls hl => ?_)
      refine lv_goto (tgt := 30) hx hb d_Handle_nextByte_53 (by decide) ?_
      exact ih m_9 v0 r_10 x_11 _ _ _ h hp hS (lv_sub hl [2, 1, 0] rfl)
set_option maxHeartbeats 4000000 in
set_option maxRecDepth 100000 in
theorem t_Handle_nextByte_0 {G : Gc} {P : Int32 → Mm → Prop} (E : En G R_Handle b_Handle_nextByte 4 p s mt args meth c) (hr : meth.sig.returnType = some .int) (m : Mm) (v0 : Nat) (v1 : Nat) (H : Heap) (locs : List Loc) (ls : Array Slot) (h : wp_Handle_nextByte_0 P m v0 v1) (hp : pic G m H) (hS : va_S (fr G) s.heap H locs) (hl : lv_has ls 4 [(0, rn v0), (1, rn v1)]) : W p l e rm_Handle_nextByte s mt args below meth c H locs 0 0 (MQ below (PoI G P) args s 0 0 (fr G)) (F0 mt 0 ls []) := by
  have hx := E.1
  have hb := E.2.1
  unfold wp_Handle_nextByte_0 at h
  refine rr_aload_n hx hb d_Handle_nextByte_0 rfl (lv_at hl 1 rfl) ?_
  refine rr_aload_n hx hb d_Handle_nextByte_1 rfl (lv_at hl 0 rfl) ?_
  obtain ⟨g_2, h⟩ := h
  refine rg_Handle_place E hp g_2 lk_19 d_Handle_nextByte_2 (fun x_1 ex_1 => ?_)
  replace h := h x_1 ex_1
  obtain ⟨g_5, h⟩ := h
  refine mc_i hS (mc_runV (As := [.int x_1]) (rest := []) E (c_Store_byteAt l G m v1 x_1 _ h) wd_Store_byteAt ⟨lk_206, lk_207, lk_208⟩ rfl rfl ⟨Nat.le_of_ble_eq_true rfl, Nat.le_of_ble_eq_true rfl⟩ hp hS g_5 (by decide) rfl rfl rfl hl.1 rfl (lv_room (Nat.le_of_ble_eq_true rfl)) d_Handle_nextByte_5 ⟨Nat.le_of_ble_eq_true rfl, Nat.le_of_ble_eq_true rfl⟩) (fun r_4 m_3 h H locs hp hS => ?_)
  try dsimp only at h
  refine lv_istore_n (lv' := [(2, .int r_4), (0, rn v0), (1, rn v1)]) hx hb d_Handle_nextByte_8 rfl hl (by decide) (by simp [rn_cat]) (fun ls hl => ?_)
  refine lv_iload_n hx hb d_Handle_nextByte_9 rfl (lv_at hl 0 rfl) ?_
  refine lv_iconst (v := (-1)) hx hb d_Handle_nextByte_10 (by decide) ?_
  refine lv_icmp_ne (tgt := 18) hx hb d_Handle_nextByte_11 (by decide) (fun g_6 => ?_) (fun g_6 => ?_)
  · replace h := h.2 g_6
    refine rr_aload_n hx hb d_Handle_nextByte_18 rfl (lv_at hl 1 rfl) ?_
    refine lv_dup hx hb d_Handle_nextByte_19 (rn_cat _) ?_
    obtain ⟨g_8, h⟩ := h
    refine rg_Handle_place E hp g_8 lk_19 d_Handle_nextByte_20 (fun x_7 ex_7 => ?_)
    replace h := h x_7 ex_7
    refine lv_iconst (v := 1) hx hb d_Handle_nextByte_23 (by decide) ?_
    refine lv_iadd hx hb d_Handle_nextByte_24 ?_
    refine lv_topi (fun x_9 ex_9 => ?_)
    replace h := h x_9 ex_9
    obtain ⟨g_10, h⟩ := h
    refine rp_Handle_place E hp hS g_10 lk_19 d_Handle_nextByte_25 (fun m_11 em_11 H locs hp hS => ?_)
    replace h := h m_11 em_11
    refine lv_iconst (v := 0) hx hb d_Handle_nextByte_28 (by decide) ?_
    refine lv_istore_n (lv' := [(3, .int 0), (2, .int r_4), (0, rn v0), (1, rn v1)]) hx hb d_Handle_nextByte_29 rfl hl (by decide) rfl (fun ls hl => ?_)
    obtain ⟨n_12, h⟩ := h
    exact t_Handle_nextByte_30 E hr n_12 m_11 v0 r_4 0 _ _ _ h hp hS (lv_sub hl [2, 1, 0] rfl)
  · replace h := h.1 g_6
    refine lv_sipush (v := 256) hx hb d_Handle_nextByte_14 (by decide) ?_
    exact mp_iret E hr hp hS h d_Handle_nextByte_17
set_option maxHeartbeats 4000000 in
set_option maxRecDepth 100000 in
theorem c_Handle_nextByte (l : Launch) (G : Gc) (m : Mm) (v0 : Nat) (v1 : Nat) (P : Int32 → Mm → Prop) (h : wp_Handle_nextByte m v0 v1 P) : Met l y_Handle_nextByte (Cond.code y_Handle_nextByte b_Handle_nextByte 4 (some .int) :: lw_good) rm_Handle_nextByte (Pre9 G m [rn v0, rn v1]) (PoI G P) 0 0 (fr G) := by
  refine Met.ofW (cc := b_Handle_nextByte) (maxL := 4) (ret := (some .int)) (by decide) rfl ?_
  intro p e s mt args below meth c s₁ B hml hv
  obtain ⟨rfl, hp, hC⟩ := hv
  have hts := atoms_spec (ws := Cond.code y_Handle_nextByte b_Handle_nextByte 4 (some .int) :: lw_good) B.pre
  have E : En G R_Handle b_Handle_nextByte 4 p s mt _ meth c := ⟨B.exec, B.bytes, hml, findClass_of_methodNamed B.named, fun w hw => hts w (List.mem_cons_of_mem _ hw), hC, B.notSynchronized⟩
  have hr := B.returns
  have hl := lv_entry [rn v0, rn v1] (n := 4) (by simp [lg_sl, rn_cat, cat_int, cat_long, cat_ref, cat_null])
  rw [lg_entry_eq]
  generalize (lg_sl [rn v0, rn v1] ++ List.replicate (4 - (lg_sl [rn v0, rn v1]).length) Slot.unset).toArray = ls at hl ⊢
  have hl : lv_has ls 4 [(0, rn v0), (1, rn v1)] := by simpa [lv_args, rn_cat, cat_int, cat_long, cat_ref, cat_null] using hl
  exact t_Handle_nextByte_0 E hr m v0 v1 _ _ _ h hp va_S.rf (lv_sub hl [0, 1] rfl)
abbrev rm_FileTree_take : Room := { frames := 2, cells := 0, slots := 0, locals := 45 }
set_option maxHeartbeats 4000000 in
set_option maxRecDepth 100000 in
theorem t_FileTree_take_0 {G : Gc} {P : Int32 → Mm → Prop} (E : En G R_FileTree b_FileTree_take 3 p s mt args meth c) (hr : meth.sig.returnType = some .int) (m : Mm) (v0 : Nat) (v1 : Int32) (H : Heap) (locs : List Loc) (ls : Array Slot) (h : wp_FileTree_take_0 P m v0 v1) (hp : pic G m H) (hS : va_S (fr G) s.heap H locs) (hl : lv_has ls 3 [(0, rn v0), (1, .int v1)]) : W p l e rm_FileTree_take s mt args below meth c H locs 0 0 (MQ below (PoI G P) args s 0 0 (fr G)) (F0 mt 0 ls []) := by
  have hx := E.1
  have hb := E.2.1
  unfold wp_FileTree_take_0 at h
  refine rr_aload_n hx hb d_FileTree_take_0 rfl (lv_at hl 0 rfl) ?_
  refine lv_iload_n hx hb d_FileTree_take_1 rfl (lv_at hl 1 rfl) ?_
  obtain ⟨g_3, h⟩ := h
  refine mc_r hS (mc_runV (As := [.int v1]) (rest := []) E (c_FileTree_openOrNull l G m v0 v1 _ h) wd_FileTree_openOrNull ⟨lk_186, lk_187, lk_188⟩ rfl rfl ⟨Nat.le_of_ble_eq_true rfl, Nat.le_of_ble_eq_true rfl⟩ hp hS g_3 (by decide) rfl rfl rfl hl.1 rfl (lv_room (Nat.le_of_ble_eq_true rfl)) d_FileTree_take_2 ⟨Nat.le_of_ble_eq_true rfl, Nat.le_of_ble_eq_true rfl⟩) (fun r_2 m_1 h H locs hp hS => ?_)
  try dsimp only at h
  refine rr_astore_n (lv' := [(2, rn r_2), (0, rn v0), (1, .int v1)]) hx hb d_FileTree_take_5 rfl hl (by decide) rfl (fun ls hl => ?_)
  refine rr_aload_n hx hb d_FileTree_take_6 rfl (lv_at hl 0 rfl) ?_
  refine rr_ifnull (tgt := 17) hx hb d_FileTree_take_7 (by decide) (fun g_4 => ?_) (fun g_4 => ?_)
  · replace h := h.1 g_4
    refine lv_iconst (v := (-1)) hx hb d_FileTree_take_17 (by decide) ?_
    exact mp_iret E hr hp hS h d_FileTree_take_18
  · replace h := h.2 g_4
    refine rr_aload_n hx hb d_FileTree_take_10 rfl (lv_at hl 0 rfl) ?_
    obtain ⟨g_6, h⟩ := h
    refine rg_Handle_store E hp g_6 lk_171 d_FileTree_take_11 (fun x_5 ex_5 => ?_)
    replace h := h x_5 ex_5
    refine rr_ifnonnull (tgt := 19) hx hb d_FileTree_take_14 (by decide) (fun g_7 => ?_) (fun g_7 => ?_)
    · replace h := h.2 g_7
      refine rr_aload_n hx hb d_FileTree_take_19 rfl (lv_at hl 0 rfl) ?_
      obtain ⟨g_9, h⟩ := h
      refine rg_Handle_mode E hp g_9 lk_172 d_FileTree_take_20 (fun x_8 ex_8 => ?_)
      replace h := h x_8 ex_8
      refine lv_if_eq (tgt := 29) hx hb d_FileTree_take_23 (by decide) (fun g_10 => ?_) (fun g_10 => ?_)
      · replace h := h.1 g_10
        refine rr_aload_n hx hb d_FileTree_take_29 rfl (lv_at hl 0 rfl) ?_
        refine rr_aload_n hx hb d_FileTree_take_30 rfl (lv_at hl 0 rfl) ?_
        obtain ⟨g_12, h⟩ := h
        refine rg_Handle_store E hp g_12 lk_171 d_FileTree_take_31 (fun x_11 ex_11 => ?_)
        replace h := h x_11 ex_11
        obtain ⟨g_15, h⟩ := h
        refine mc_i hS (mc_runV (As := [rn x_11]) (rest := []) E (c_Handle_nextByte l G m_1 r_2 x_11 _ h) wd_Handle_nextByte ⟨lk_209, lk_210, lk_211⟩ rfl rfl ⟨Nat.le_of_ble_eq_true rfl, Nat.le_of_ble_eq_true rfl⟩ hp hS g_15 (by decide) rfl rfl rfl hl.1 rfl (lv_room (Nat.le_of_ble_eq_true rfl)) d_FileTree_take_34 ⟨Nat.le_of_ble_eq_true rfl, Nat.le_of_ble_eq_true rfl⟩) (fun r_14 m_13 h H locs hp hS => ?_)
        try dsimp only at h
        exact mp_iret E hr hp hS h d_FileTree_take_37
      · replace h := h.2 g_10
        refine lv_bipush (v := (-3)) hx hb d_FileTree_take_26 (by decide) ?_
        exact mp_iret E hr hp hS h d_FileTree_take_28
    · replace h := h.1 g_7
      refine lv_iconst (v := (-1)) hx hb d_FileTree_take_17 (by decide) ?_
      exact mp_iret E hr hp hS h d_FileTree_take_18
set_option maxHeartbeats 4000000 in
set_option maxRecDepth 100000 in
theorem c_FileTree_take (l : Launch) (G : Gc) (m : Mm) (v0 : Nat) (v1 : Int32) (P : Int32 → Mm → Prop) (h : wp_FileTree_take m v0 v1 P) : Met l y_FileTree_take (Cond.code y_FileTree_take b_FileTree_take 3 (some .int) :: lw_good) rm_FileTree_take (Pre9 G m [rn v0, .int v1]) (PoI G P) 0 0 (fr G) := by
  refine Met.ofW (cc := b_FileTree_take) (maxL := 3) (ret := (some .int)) (by decide) rfl ?_
  intro p e s mt args below meth c s₁ B hml hv
  obtain ⟨rfl, hp, hC⟩ := hv
  have hts := atoms_spec (ws := Cond.code y_FileTree_take b_FileTree_take 3 (some .int) :: lw_good) B.pre
  have E : En G R_FileTree b_FileTree_take 3 p s mt _ meth c := ⟨B.exec, B.bytes, hml, findClass_of_methodNamed B.named, fun w hw => hts w (List.mem_cons_of_mem _ hw), hC, B.notSynchronized⟩
  have hr := B.returns
  have hl := lv_entry [rn v0, .int v1] (n := 3) (by simp [lg_sl, rn_cat, cat_int, cat_long, cat_ref, cat_null])
  rw [lg_entry_eq]
  generalize (lg_sl [rn v0, .int v1] ++ List.replicate (3 - (lg_sl [rn v0, .int v1]).length) Slot.unset).toArray = ls at hl ⊢
  have hl : lv_has ls 3 [(0, rn v0), (1, .int v1)] := by simpa [lv_args, rn_cat, cat_int, cat_long, cat_ref, cat_null] using hl
  exact t_FileTree_take_0 E hr m v0 v1 _ _ _ h hp va_S.rf (lv_sub hl [0, 1] rfl)
abbrev rm_Machine_layByte : Room := { frames := 2, cells := 0, slots := 0, locals := 43 }
set_option maxHeartbeats 4000000 in
set_option maxRecDepth 100000 in
theorem t_Machine_layByte_0 {G : Gc} {P : Int32 → Mm → Prop} (E : En G R_Machine b_Machine_layByte 2 p s mt args meth c) (hr : meth.sig.returnType = some .int) (m : Mm) (v0 : Nat) (v1 : Int32) (H : Heap) (locs : List Loc) (ls : Array Slot) (h : wp_Machine_layByte_0 P m v0 v1) (hp : pic G m H) (hS : va_S (fr G) s.heap H locs) (hl : lv_has ls 2 [(0, rn v0), (1, .int v1)]) : W p l e rm_Machine_layByte s mt args below meth c H locs 0 0 (MQ below (PoI G P) args s 0 0 (fr G)) (F0 mt 0 ls []) := by
  have hx := E.1
  have hb := E.2.1
  unfold wp_Machine_layByte_0 at h
  refine lv_iload_n hx hb d_Machine_layByte_0 rfl (lv_at hl 1 rfl) ?_
  refine lv_sipush (v := 256) hx hb d_Machine_layByte_1 (by decide) ?_
  refine lv_icmp_ne (tgt := 18) hx hb d_Machine_layByte_4 (by decide) (fun g_1 => ?_) (fun g_1 => ?_)
  · replace h := h.2 g_1
    refine rr_aload_n hx hb d_Machine_layByte_18 rfl (lv_at hl 0 rfl) ?_
    refine lv_iload_n hx hb d_Machine_layByte_19 rfl (lv_at hl 1 rfl) ?_
    refine lv_iconst (v := 4) hx hb d_Machine_layByte_20 (by decide) ?_
    obtain ⟨g_4, h⟩ := h
    refine mc_i hS (mc_runV (As := [.int v1, .int 4]) (rest := []) E (c_Machine_layUnlessRefused l G m v0 v1 4 _ h) wd_Machine_layUnlessRefused ⟨lk_212, lk_213, lk_214⟩ rfl rfl ⟨Nat.le_of_ble_eq_true rfl, Nat.le_of_ble_eq_true rfl⟩ hp hS g_4 (by decide) rfl rfl rfl hl.1 rfl (lv_room (Nat.le_of_ble_eq_true rfl)) d_Machine_layByte_21 ⟨Nat.le_of_ble_eq_true rfl, Nat.le_of_ble_eq_true rfl⟩) (fun r_3 m_2 h H locs hp hS => ?_)
    try dsimp only at h
    exact mp_iret E hr hp hS h d_Machine_layByte_24
  · replace h := h.1 g_1
    refine rr_aload_n hx hb d_Machine_layByte_7 rfl (lv_at hl 0 rfl) ?_
    obtain ⟨g_6, h⟩ := h
    refine rg_Machine_stack E hp g_6 lk_72 d_Machine_layByte_8 (fun x_5 ex_5 => ?_)
    replace h := h x_5 ex_5
    refine lv_iconst (v := (-1)) hx hb d_Machine_layByte_11 (by decide) ?_
    obtain ⟨g_9, h⟩ := h
    refine mc_i hS (mc_runV (As := [.int (-1)]) (rest := []) E (c_Numbers_lay l G m x_5 (-1) _ h) wd_Numbers_lay ⟨lk_168, lk_169, lk_170⟩ rfl rfl ⟨Nat.le_of_ble_eq_true rfl, Nat.le_of_ble_eq_true rfl⟩ hp hS g_9 (by decide) rfl rfl rfl hl.1 rfl (lv_room (Nat.le_of_ble_eq_true rfl)) d_Machine_layByte_12 ⟨Nat.le_of_ble_eq_true rfl, Nat.le_of_ble_eq_true rfl⟩) (fun r_8 m_7 h H locs hp hS => ?_)
    try dsimp only at h
    refine lv_goto (tgt := 24) hx hb d_Machine_layByte_15 (by decide) ?_
    exact mp_iret E hr hp hS h d_Machine_layByte_24
set_option maxHeartbeats 4000000 in
set_option maxRecDepth 100000 in
theorem c_Machine_layByte (l : Launch) (G : Gc) (m : Mm) (v0 : Nat) (v1 : Int32) (P : Int32 → Mm → Prop) (h : wp_Machine_layByte m v0 v1 P) : Met l y_Machine_layByte (Cond.code y_Machine_layByte b_Machine_layByte 2 (some .int) :: lw_good) rm_Machine_layByte (Pre9 G m [rn v0, .int v1]) (PoI G P) 0 0 (fr G) := by
  refine Met.ofW (cc := b_Machine_layByte) (maxL := 2) (ret := (some .int)) (by decide) rfl ?_
  intro p e s mt args below meth c s₁ B hml hv
  obtain ⟨rfl, hp, hC⟩ := hv
  have hts := atoms_spec (ws := Cond.code y_Machine_layByte b_Machine_layByte 2 (some .int) :: lw_good) B.pre
  have E : En G R_Machine b_Machine_layByte 2 p s mt _ meth c := ⟨B.exec, B.bytes, hml, findClass_of_methodNamed B.named, fun w hw => hts w (List.mem_cons_of_mem _ hw), hC, B.notSynchronized⟩
  have hr := B.returns
  have hl := lv_entry [rn v0, .int v1] (n := 2) (by simp [lg_sl, rn_cat, cat_int, cat_long, cat_ref, cat_null])
  rw [lg_entry_eq]
  generalize (lg_sl [rn v0, .int v1] ++ List.replicate (2 - (lg_sl [rn v0, .int v1]).length) Slot.unset).toArray = ls at hl ⊢
  have hl : lv_has ls 2 [(0, rn v0), (1, .int v1)] := by simpa [lv_args, rn_cat, cat_int, cat_long, cat_ref, cat_null] using hl
  exact t_Machine_layByte_0 E hr m v0 v1 _ _ _ h hp va_S.rf (lv_sub hl [0, 1] rfl)
abbrev rm_Machine_doFileSign : Room := { frames := 3, cells := 0, slots := 0, locals := 71 }
set_option maxHeartbeats 4000000 in
set_option maxRecDepth 100000 in
theorem t_Machine_doFileSign_0 {G : Gc} {P : Int32 → Mm → Prop} (E : En G R_Machine b_Machine_doFileSign 4 p s mt args meth c) (hr : meth.sig.returnType = some .int) (m : Mm) (v0 : Nat) (v1 : Int32) (v2 : Int32) (v3 : Int32) (H : Heap) (locs : List Loc) (ls : Array Slot) (h : wp_Machine_doFileSign_0 P m v0 v1 v2 v3) (hp : pic G m H) (hS : va_S (fr G) s.heap H locs) (hl : lv_has ls 4 [(0, rn v0), (1, .int v1), (2, .int v2), (3, .int v3)]) : W p l e rm_Machine_doFileSign s mt args below meth c H locs 0 0 (MQ below (PoI G P) args s 0 0 (fr G)) (F0 mt 0 ls []) := by
  have hx := E.1
  have hb := E.2.1
  unfold wp_Machine_doFileSign_0 at h
  refine lv_iload_n hx hb d_Machine_doFileSign_0 rfl (lv_at hl 1 rfl) ?_
  by_cases g_1 : v1 = 99
  · replace h := h.1 g_1
    refine lv_lookup (x := v1) (off := 59) (tgt := 60) hx hb d_Machine_doFileSign_1 (by decide) (by rw [g_1]; decide) (by decide) ?_
    refine rr_aload_n hx hb d_Machine_doFileSign_60 rfl (lv_at hl 0 rfl) ?_
    obtain ⟨g_3, h⟩ := h
    refine rg_Machine_files E hp g_3 lk_60 d_Machine_doFileSign_61 (fun x_2 ex_2 => ?_)
    replace h := h x_2 ex_2
    refine lv_iload_n hx hb d_Machine_doFileSign_64 rfl (lv_at hl 2 rfl) ?_
    obtain ⟨g_6, h⟩ := h
    refine mc_i hS (mc_runV (As := [.int v2]) (rest := []) E (c_FileTree_shutByJob l G m x_2 v2 _ h) wd_FileTree_shutByJob ⟨lk_215, lk_216, lk_217⟩ rfl rfl ⟨Nat.le_of_ble_eq_true rfl, Nat.le_of_ble_eq_true rfl⟩ hp hS g_6 (by decide) rfl rfl rfl hl.1 rfl (lv_room (Nat.le_of_ble_eq_true rfl)) d_Machine_doFileSign_65 ⟨Nat.le_of_ble_eq_true rfl, Nat.le_of_ble_eq_true rfl⟩) (fun r_5 m_4 h H locs hp hS => ?_)
    try dsimp only at h
    refine lv_iconst (v := 4) hx hb d_Machine_doFileSign_68 (by decide) ?_
    refine mc_i hS (mc_runS (As := [.int r_5, .int 4]) (rest := []) E (c_Machine_errorIfRefused l G m_4 r_5 4 _ h) wd_Machine_errorIfRefused ⟨lk_218, lk_219⟩ rfl rfl ⟨Nat.le_of_ble_eq_true rfl, Nat.le_of_ble_eq_true rfl⟩ hp hS rfl hl.1 rfl (lv_room (Nat.le_of_ble_eq_true rfl)) d_Machine_doFileSign_69 ⟨Nat.le_of_ble_eq_true rfl, Nat.le_of_ble_eq_true rfl⟩) (fun r_8 m_7 h H locs hp hS => ?_)
    try dsimp only at h
    exact mp_iret E hr hp hS h d_Machine_doFileSign_72
  · replace h := h.2 g_1
    by_cases g_9 : v1 = 102
    · replace h := h.1 g_9
      refine lv_lookup (x := v1) (off := 86) (tgt := 87) hx hb d_Machine_doFileSign_1 (by decide) (by rw [g_9]; decide) (by decide) ?_
      refine rr_aload_n hx hb d_Machine_doFileSign_87 rfl (lv_at hl 0 rfl) ?_
      obtain ⟨g_11, h⟩ := h
      refine rg_Machine_files E hp g_11 lk_60 d_Machine_doFileSign_88 (fun x_10 ex_10 => ?_)
      replace h := h x_10 ex_10
      refine lv_iload_n hx hb d_Machine_doFileSign_91 rfl (lv_at hl 2 rfl) ?_
      refine lv_iload_n hx hb d_Machine_doFileSign_92 rfl (lv_at hl 3 rfl) ?_
      obtain ⟨g_14, h⟩ := h
      refine mc_i hS (mc_runV (As := [.int v2, .int v3]) (rest := []) E (c_FileTree_putFilter l G m x_10 v2 v3 _ h) wd_FileTree_putFilter ⟨lk_220, lk_221, lk_222⟩ rfl rfl ⟨Nat.le_of_ble_eq_true rfl, Nat.le_of_ble_eq_true rfl⟩ hp hS g_14 (by decide) rfl rfl rfl hl.1 rfl (lv_room (Nat.le_of_ble_eq_true rfl)) d_Machine_doFileSign_93 ⟨Nat.le_of_ble_eq_true rfl, Nat.le_of_ble_eq_true rfl⟩) (fun r_13 m_12 h H locs hp hS => ?_)
      try dsimp only at h
      refine lv_iconst (v := 4) hx hb d_Machine_doFileSign_96 (by decide) ?_
      refine mc_i hS (mc_runS (As := [.int r_13, .int 4]) (rest := []) E (c_Machine_errorIfRefused l G m_12 r_13 4 _ h) wd_Machine_errorIfRefused ⟨lk_218, lk_219⟩ rfl rfl ⟨Nat.le_of_ble_eq_true rfl, Nat.le_of_ble_eq_true rfl⟩ hp hS rfl hl.1 rfl (lv_room (Nat.le_of_ble_eq_true rfl)) d_Machine_doFileSign_97 ⟨Nat.le_of_ble_eq_true rfl, Nat.le_of_ble_eq_true rfl⟩) (fun r_16 m_15 h H locs hp hS => ?_)
      try dsimp only at h
      exact mp_iret E hr hp hS h d_Machine_doFileSign_100
    · replace h := h.2 g_9
      by_cases g_17 : v1 = 111
      · replace h := h.1 g_17
        refine lv_lookup (x := v1) (off := 43) (tgt := 44) hx hb d_Machine_doFileSign_1 (by decide) (by rw [g_17]; decide) (by decide) ?_
        refine rr_aload_n hx hb d_Machine_doFileSign_44 rfl (lv_at hl 0 rfl) ?_
        refine rr_aload_n hx hb d_Machine_doFileSign_45 rfl (lv_at hl 0 rfl) ?_
        obtain ⟨g_19, h⟩ := h
        refine rg_Machine_files E hp g_19 lk_60 d_Machine_doFileSign_46 (fun x_18 ex_18 => ?_)
        replace h := h x_18 ex_18
        refine lv_iload_n hx hb d_Machine_doFileSign_49 rfl (lv_at hl 2 rfl) ?_
        refine lv_iload_n hx hb d_Machine_doFileSign_50 rfl (lv_at hl 3 rfl) ?_
        refine lv_iconst (v := 1) hx hb d_Machine_doFileSign_51 (by decide) ?_
        obtain ⟨g_22, h⟩ := h
        refine mc_i hS (mc_runV (As := [.int v2, .int v3, .int 1]) (rest := [rn v0]) E (c_FileTree_open l G m x_18 v2 v3 1 _ h) wd_FileTree_open ⟨lk_223, lk_224, lk_225⟩ rfl rfl ⟨Nat.le_of_ble_eq_true rfl, Nat.le_of_ble_eq_true rfl⟩ hp hS g_22 (by decide) rfl rfl rfl hl.1 rfl (lv_room (by simp [rn_cat, cat_int, cat_long, cat_ref, cat_null])) d_Machine_doFileSign_52 ⟨Nat.le_of_ble_eq_true rfl, Nat.le_of_ble_eq_true rfl⟩) (fun r_21 m_20 h H locs hp hS => ?_)
        try dsimp only at h
        refine lv_iconst (v := 4) hx hb d_Machine_doFileSign_55 (by decide) ?_
        obtain ⟨g_25, h⟩ := h
        refine mc_i hS (mc_runV (As := [.int r_21, .int 4]) (rest := []) E (c_Machine_layUnlessRefused l G m_20 v0 r_21 4 _ h) wd_Machine_layUnlessRefused ⟨lk_212, lk_213, lk_214⟩ rfl rfl ⟨Nat.le_of_ble_eq_true rfl, Nat.le_of_ble_eq_true rfl⟩ hp hS g_25 (by decide) rfl rfl rfl hl.1 rfl (lv_room (Nat.le_of_ble_eq_true rfl)) d_Machine_doFileSign_56 ⟨Nat.le_of_ble_eq_true rfl, Nat.le_of_ble_eq_true rfl⟩) (fun r_24 m_23 h H locs hp hS => ?_)
        try dsimp only at h
        exact mp_iret E hr hp hS h d_Machine_doFileSign_59
      · replace h := h.2 g_17
        by_cases g_26 : v1 = 119
        · replace h := h.1 g_26
          refine lv_lookup (x := v1) (off := 72) (tgt := 73) hx hb d_Machine_doFileSign_1 (by decide) (by rw [g_26]; decide) (by decide) ?_
          refine rr_aload_n hx hb d_Machine_doFileSign_73 rfl (lv_at hl 0 rfl) ?_
          obtain ⟨g_28, h⟩ := h
          refine rg_Machine_files E hp g_28 lk_60 d_Machine_doFileSign_74 (fun x_27 ex_27 => ?_)
          replace h := h x_27 ex_27
          refine lv_iload_n hx hb d_Machine_doFileSign_77 rfl (lv_at hl 2 rfl) ?_
          refine lv_iload_n hx hb d_Machine_doFileSign_78 rfl (lv_at hl 3 rfl) ?_
          obtain ⟨g_31, h⟩ := h
          refine mc_i hS (mc_runV (As := [.int v2, .int v3]) (rest := []) E (c_FileTree_put l G m x_27 v2 v3 _ h) wd_FileTree_put ⟨lk_226, lk_227, lk_228⟩ rfl rfl ⟨Nat.le_of_ble_eq_true rfl, Nat.le_of_ble_eq_true rfl⟩ hp hS g_31 (by decide) rfl rfl rfl hl.1 rfl (lv_room (Nat.le_of_ble_eq_true rfl)) d_Machine_doFileSign_79 ⟨Nat.le_of_ble_eq_true rfl, Nat.le_of_ble_eq_true rfl⟩) (fun r_30 m_29 h H locs hp hS => ?_)
          try dsimp only at h
          refine lv_iconst (v := 4) hx hb d_Machine_doFileSign_82 (by decide) ?_
          refine mc_i hS (mc_runS (As := [.int r_30, .int 4]) (rest := []) E (c_Machine_errorIfRefused l G m_29 r_30 4 _ h) wd_Machine_errorIfRefused ⟨lk_218, lk_219⟩ rfl rfl ⟨Nat.le_of_ble_eq_true rfl, Nat.le_of_ble_eq_true rfl⟩ hp hS rfl hl.1 rfl (lv_room (Nat.le_of_ble_eq_true rfl)) d_Machine_doFileSign_83 ⟨Nat.le_of_ble_eq_true rfl, Nat.le_of_ble_eq_true rfl⟩) (fun r_33 m_32 h H locs hp hS => ?_)
          try dsimp only at h
          exact mp_iret E hr hp hS h d_Machine_doFileSign_86
        · replace h := h.2 g_26
          refine lv_lookup (x := v1) (off := 100) (tgt := 101) hx hb d_Machine_doFileSign_1 (by decide) (by show Op.lookupswitch.offset [(99, 59), (102, 86), (111, 43), (119, 72)] _ _ = _; rw [lv_osw g_1 (by decide), lv_osw g_9 (by decide), lv_osw g_17 (by decide), lv_osw g_26 (by decide)]; rfl) (by decide) ?_
          refine rr_aload_n hx hb d_Machine_doFileSign_101 rfl (lv_at hl 0 rfl) ?_
          refine rr_aload_n hx hb d_Machine_doFileSign_102 rfl (lv_at hl 0 rfl) ?_
          obtain ⟨g_35, h⟩ := h
          refine rg_Machine_files E hp g_35 lk_60 d_Machine_doFileSign_103 (fun x_34 ex_34 => ?_)
          replace h := h x_34 ex_34
          refine lv_iload_n hx hb d_Machine_doFileSign_106 rfl (lv_at hl 2 rfl) ?_
          obtain ⟨g_38, h⟩ := h
          refine mc_i hS (mc_runV (As := [.int v2]) (rest := [rn v0]) E (c_FileTree_take l G m x_34 v2 _ h) wd_FileTree_take ⟨lk_229, lk_230, lk_231⟩ rfl rfl ⟨Nat.le_of_ble_eq_true rfl, Nat.le_of_ble_eq_true rfl⟩ hp hS g_38 (by decide) rfl rfl rfl hl.1 rfl (lv_room (by simp [rn_cat, cat_int, cat_long, cat_ref, cat_null])) d_Machine_doFileSign_107 ⟨Nat.le_of_ble_eq_true rfl, Nat.le_of_ble_eq_true rfl⟩) (fun r_37 m_36 h H locs hp hS => ?_)
          try dsimp only at h
          obtain ⟨g_41, h⟩ := h
          refine mc_i hS (mc_runV (As := [.int r_37]) (rest := []) E (c_Machine_layByte l G m_36 v0 r_37 _ h) wd_Machine_layByte ⟨lk_232, lk_233, lk_234⟩ rfl rfl ⟨Nat.le_of_ble_eq_true rfl, Nat.le_of_ble_eq_true rfl⟩ hp hS g_41 (by decide) rfl rfl rfl hl.1 rfl (lv_room (Nat.le_of_ble_eq_true rfl)) d_Machine_doFileSign_110 ⟨Nat.le_of_ble_eq_true rfl, Nat.le_of_ble_eq_true rfl⟩) (fun r_40 m_39 h H locs hp hS => ?_)
          try dsimp only at h
          exact mp_iret E hr hp hS h d_Machine_doFileSign_113
set_option maxHeartbeats 4000000 in
set_option maxRecDepth 100000 in
theorem c_Machine_doFileSign (l : Launch) (G : Gc) (m : Mm) (v0 : Nat) (v1 : Int32) (v2 : Int32) (v3 : Int32) (P : Int32 → Mm → Prop) (h : wp_Machine_doFileSign m v0 v1 v2 v3 P) : Met l y_Machine_doFileSign (Cond.code y_Machine_doFileSign b_Machine_doFileSign 4 (some .int) :: lw_good) rm_Machine_doFileSign (Pre9 G m [rn v0, .int v1, .int v2, .int v3]) (PoI G P) 0 0 (fr G) := by
  refine Met.ofW (cc := b_Machine_doFileSign) (maxL := 4) (ret := (some .int)) (by decide) rfl ?_
  intro p e s mt args below meth c s₁ B hml hv
  obtain ⟨rfl, hp, hC⟩ := hv
  have hts := atoms_spec (ws := Cond.code y_Machine_doFileSign b_Machine_doFileSign 4 (some .int) :: lw_good) B.pre
  have E : En G R_Machine b_Machine_doFileSign 4 p s mt _ meth c := ⟨B.exec, B.bytes, hml, findClass_of_methodNamed B.named, fun w hw => hts w (List.mem_cons_of_mem _ hw), hC, B.notSynchronized⟩
  have hr := B.returns
  have hl := lv_entry [rn v0, .int v1, .int v2, .int v3] (n := 4) (by simp [lg_sl, rn_cat, cat_int, cat_long, cat_ref, cat_null])
  rw [lg_entry_eq]
  generalize (lg_sl [rn v0, .int v1, .int v2, .int v3] ++ List.replicate (4 - (lg_sl [rn v0, .int v1, .int v2, .int v3]).length) Slot.unset).toArray = ls at hl ⊢
  have hl : lv_has ls 4 [(0, rn v0), (1, .int v1), (2, .int v2), (3, .int v3)] := by simpa [lv_args, rn_cat, cat_int, cat_long, cat_ref, cat_null] using hl
  exact t_Machine_doFileSign_0 E hr m v0 v1 v2 v3 _ _ _ h hp va_S.rf (lv_sub hl [0, 1, 2, 3] rfl)
abbrev rm_Numbers_layTwo : Room := { frames := 1, cells := 0, slots := 0, locals := 21 }
set_option maxHeartbeats 4000000 in
set_option maxRecDepth 100000 in
theorem t_Numbers_layTwo_0 {G : Gc} {P : Int32 → Mm → Prop} (E : En G R_Numbers b_Numbers_layTwo 4 p s mt args meth c) (hr : meth.sig.returnType = some .int) (m : Mm) (v0 : Nat) (v1 : Int32) (v2 : Int32) (H : Heap) (locs : List Loc) (ls : Array Slot) (h : wp_Numbers_layTwo_0 P m v0 v1 v2) (hp : pic G m H) (hS : va_S (fr G) s.heap H locs) (hl : lv_has ls 4 [(0, rn v0), (1, .int v1), (2, .int v2)]) : W p l e rm_Numbers_layTwo s mt args below meth c H locs 0 0 (MQ below (PoI G P) args s 0 0 (fr G)) (F0 mt 0 ls []) := by
  have hx := E.1
  have hb := E.2.1
  unfold wp_Numbers_layTwo_0 at h
  refine rr_aload_n hx hb d_Numbers_layTwo_0 rfl (lv_at hl 0 rfl) ?_
  refine lv_iload_n hx hb d_Numbers_layTwo_1 rfl (lv_at hl 1 rfl) ?_
  obtain ⟨g_3, h⟩ := h
  refine mc_i hS (mc_runV (As := [.int v1]) (rest := []) E (c_Numbers_lay l G m v0 v1 _ h) wd_Numbers_lay ⟨lk_235, lk_169, lk_170⟩ rfl rfl ⟨Nat.le_of_ble_eq_true rfl, Nat.le_of_ble_eq_true rfl⟩ hp hS g_3 (by decide) rfl rfl rfl hl.1 rfl (lv_room (Nat.le_of_ble_eq_true rfl)) d_Numbers_layTwo_2 ⟨Nat.le_of_ble_eq_true rfl, Nat.le_of_ble_eq_true rfl⟩) (fun r_2 m_1 h H locs hp hS => ?_)
  try dsimp only at h
  refine lv_istore_n (lv' := [(3, .int r_2), (0, rn v0), (1, .int v1), (2, .int v2)]) hx hb d_Numbers_layTwo_5 rfl hl (by decide) rfl (fun ls hl => ?_)
  refine lv_iload_n hx hb d_Numbers_layTwo_6 rfl (lv_at hl 0 rfl) ?_
  refine lv_if_ne (tgt := 18) hx hb d_Numbers_layTwo_7 (by decide) (fun g_4 => ?_) (fun g_4 => ?_)
  · replace h := h.2 g_4
    refine lv_iload_n hx hb d_Numbers_layTwo_18 rfl (lv_at hl 0 rfl) ?_
    exact mp_iret E hr hp hS h d_Numbers_layTwo_19
  · replace h := h.1 g_4
    refine rr_aload_n hx hb d_Numbers_layTwo_10 rfl (lv_at hl 1 rfl) ?_
    refine lv_iload_n hx hb d_Numbers_layTwo_11 rfl (lv_at hl 3 rfl) ?_
    obtain ⟨g_7, h⟩ := h
    refine mc_i hS (mc_runV (As := [.int v2]) (rest := []) E (c_Numbers_lay l G m_1 v0 v2 _ h) wd_Numbers_lay ⟨lk_235, lk_169, lk_170⟩ rfl rfl ⟨Nat.le_of_ble_eq_true rfl, Nat.le_of_ble_eq_true rfl⟩ hp hS g_7 (by decide) rfl rfl rfl hl.1 rfl (lv_room (Nat.le_of_ble_eq_true rfl)) d_Numbers_layTwo_12 ⟨Nat.le_of_ble_eq_true rfl, Nat.le_of_ble_eq_true rfl⟩) (fun r_6 m_5 h H locs hp hS => ?_)
    try dsimp only at h
    refine lv_goto (tgt := 19) hx hb d_Numbers_layTwo_15 (by decide) ?_
    exact mp_iret E hr hp hS h d_Numbers_layTwo_19
set_option maxHeartbeats 4000000 in
set_option maxRecDepth 100000 in
theorem c_Numbers_layTwo (l : Launch) (G : Gc) (m : Mm) (v0 : Nat) (v1 : Int32) (v2 : Int32) (P : Int32 → Mm → Prop) (h : wp_Numbers_layTwo m v0 v1 v2 P) : Met l y_Numbers_layTwo (Cond.code y_Numbers_layTwo b_Numbers_layTwo 4 (some .int) :: lw_good) rm_Numbers_layTwo (Pre9 G m [rn v0, .int v1, .int v2]) (PoI G P) 0 0 (fr G) := by
  refine Met.ofW (cc := b_Numbers_layTwo) (maxL := 4) (ret := (some .int)) (by decide) rfl ?_
  intro p e s mt args below meth c s₁ B hml hv
  obtain ⟨rfl, hp, hC⟩ := hv
  have hts := atoms_spec (ws := Cond.code y_Numbers_layTwo b_Numbers_layTwo 4 (some .int) :: lw_good) B.pre
  have E : En G R_Numbers b_Numbers_layTwo 4 p s mt _ meth c := ⟨B.exec, B.bytes, hml, findClass_of_methodNamed B.named, fun w hw => hts w (List.mem_cons_of_mem _ hw), hC, B.notSynchronized⟩
  have hr := B.returns
  have hl := lv_entry [rn v0, .int v1, .int v2] (n := 4) (by simp [lg_sl, rn_cat, cat_int, cat_long, cat_ref, cat_null])
  rw [lg_entry_eq]
  generalize (lg_sl [rn v0, .int v1, .int v2] ++ List.replicate (4 - (lg_sl [rn v0, .int v1, .int v2]).length) Slot.unset).toArray = ls at hl ⊢
  have hl : lv_has ls 4 [(0, rn v0), (1, .int v1), (2, .int v2)] := by simpa [lv_args, rn_cat, cat_int, cat_long, cat_ref, cat_null] using hl
  exact t_Numbers_layTwo_0 E hr m v0 v1 v2 _ _ _ h hp va_S.rf (lv_sub hl [0, 1, 2] rfl)
abbrev rm_Machine_doStackSign : Room := { frames := 2, cells := 0, slots := 0, locals := 44 }
set_option maxHeartbeats 4000000 in
set_option maxRecDepth 100000 in
theorem t_Machine_doStackSign_0 {G : Gc} {P : Int32 → Mm → Prop} (E : En G R_Machine b_Machine_doStackSign 4 p s mt args meth c) (hr : meth.sig.returnType = some .int) (m : Mm) (v0 : Nat) (v1 : Int32) (v2 : Int32) (v3 : Int32) (H : Heap) (locs : List Loc) (ls : Array Slot) (h : wp_Machine_doStackSign_0 P m v0 v1 v2 v3) (hp : pic G m H) (hS : va_S (fr G) s.heap H locs) (hl : lv_has ls 4 [(0, rn v0), (1, .int v1), (2, .int v2), (3, .int v3)]) : W p l e rm_Machine_doStackSign s mt args below meth c H locs 0 0 (MQ below (PoI G P) args s 0 0 (fr G)) (F0 mt 0 ls []) := by
  have hx := E.1
  have hb := E.2.1
  unfold wp_Machine_doStackSign_0 at h
  refine lv_iload_n hx hb d_Machine_doStackSign_0 rfl (lv_at hl 1 rfl) ?_
  by_cases g_1 : v1 = 42
  · replace h := h.1 g_1
    refine lv_lookup (x := v1) (off := 93) (tgt := 94) hx hb d_Machine_doStackSign_1 (by decide) (by rw [g_1]; decide) (by decide) ?_
    refine rr_aload_n hx hb d_Machine_doStackSign_94 rfl (lv_at hl 0 rfl) ?_
    obtain ⟨g_3, h⟩ := h
    refine rg_Machine_stack E hp g_3 lk_72 d_Machine_doStackSign_95 (fun x_2 ex_2 => ?_)
    replace h := h x_2 ex_2
    refine lv_iload_n hx hb d_Machine_doStackSign_98 rfl (lv_at hl 2 rfl) ?_
    refine lv_iload_n hx hb d_Machine_doStackSign_99 rfl (lv_at hl 3 rfl) ?_
    refine lv_imul hx hb d_Machine_doStackSign_100 ?_
    refine lv_topi (fun x_4 ex_4 => ?_)
    replace h := h x_4 ex_4
    obtain ⟨g_7, h⟩ := h
    refine mc_i hS (mc_runV (As := [.int x_4]) (rest := []) E (c_Numbers_lay l G m x_2 x_4 _ h) wd_Numbers_lay ⟨lk_168, lk_169, lk_170⟩ rfl rfl ⟨Nat.le_of_ble_eq_true rfl, Nat.le_of_ble_eq_true rfl⟩ hp hS g_7 (by decide) rfl rfl rfl hl.1 rfl (lv_room (Nat.le_of_ble_eq_true rfl)) d_Machine_doStackSign_101 ⟨Nat.le_of_ble_eq_true rfl, Nat.le_of_ble_eq_true rfl⟩) (fun r_6 m_5 h H locs hp hS => ?_)
    try dsimp only at h
    exact mp_iret E hr hp hS h d_Machine_doStackSign_104
  · replace h := h.2 g_1
    by_cases g_8 : v1 = 43
    · replace h := h.1 g_8
      refine lv_lookup (x := v1) (off := 71) (tgt := 72) hx hb d_Machine_doStackSign_1 (by decide) (by rw [g_8]; decide) (by decide) ?_
      refine rr_aload_n hx hb d_Machine_doStackSign_72 rfl (lv_at hl 0 rfl) ?_
      obtain ⟨g_10, h⟩ := h
      refine rg_Machine_stack E hp g_10 lk_72 d_Machine_doStackSign_73 (fun x_9 ex_9 => ?_)
      replace h := h x_9 ex_9
      refine lv_iload_n hx hb d_Machine_doStackSign_76 rfl (lv_at hl 2 rfl) ?_
      refine lv_iload_n hx hb d_Machine_doStackSign_77 rfl (lv_at hl 3 rfl) ?_
      refine lv_iadd hx hb d_Machine_doStackSign_78 ?_
      refine lv_topi (fun x_11 ex_11 => ?_)
      replace h := h x_11 ex_11
      obtain ⟨g_14, h⟩ := h
      refine mc_i hS (mc_runV (As := [.int x_11]) (rest := []) E (c_Numbers_lay l G m x_9 x_11 _ h) wd_Numbers_lay ⟨lk_168, lk_169, lk_170⟩ rfl rfl ⟨Nat.le_of_ble_eq_true rfl, Nat.le_of_ble_eq_true rfl⟩ hp hS g_14 (by decide) rfl rfl rfl hl.1 rfl (lv_room (Nat.le_of_ble_eq_true rfl)) d_Machine_doStackSign_79 ⟨Nat.le_of_ble_eq_true rfl, Nat.le_of_ble_eq_true rfl⟩) (fun r_13 m_12 h H locs hp hS => ?_)
      try dsimp only at h
      exact mp_iret E hr hp hS h d_Machine_doStackSign_82
    · replace h := h.2 g_8
      by_cases g_15 : v1 = 45
      · replace h := h.1 g_15
        refine lv_lookup (x := v1) (off := 82) (tgt := 83) hx hb d_Machine_doStackSign_1 (by decide) (by rw [g_15]; decide) (by decide) ?_
        refine rr_aload_n hx hb d_Machine_doStackSign_83 rfl (lv_at hl 0 rfl) ?_
        obtain ⟨g_17, h⟩ := h
        refine rg_Machine_stack E hp g_17 lk_72 d_Machine_doStackSign_84 (fun x_16 ex_16 => ?_)
        replace h := h x_16 ex_16
        refine lv_iload_n hx hb d_Machine_doStackSign_87 rfl (lv_at hl 2 rfl) ?_
        refine lv_iload_n hx hb d_Machine_doStackSign_88 rfl (lv_at hl 3 rfl) ?_
        refine lv_isub hx hb d_Machine_doStackSign_89 ?_
        refine lv_topi (fun x_18 ex_18 => ?_)
        replace h := h x_18 ex_18
        obtain ⟨g_21, h⟩ := h
        refine mc_i hS (mc_runV (As := [.int x_18]) (rest := []) E (c_Numbers_lay l G m x_16 x_18 _ h) wd_Numbers_lay ⟨lk_168, lk_169, lk_170⟩ rfl rfl ⟨Nat.le_of_ble_eq_true rfl, Nat.le_of_ble_eq_true rfl⟩ hp hS g_21 (by decide) rfl rfl rfl hl.1 rfl (lv_room (Nat.le_of_ble_eq_true rfl)) d_Machine_doStackSign_90 ⟨Nat.le_of_ble_eq_true rfl, Nat.le_of_ble_eq_true rfl⟩) (fun r_20 m_19 h H locs hp hS => ?_)
        try dsimp only at h
        exact mp_iret E hr hp hS h d_Machine_doStackSign_93
      · replace h := h.2 g_15
        by_cases g_22 : v1 = 100
        · replace h := h.1 g_22
          refine lv_lookup (x := v1) (off := 104) (tgt := 105) hx hb d_Machine_doStackSign_1 (by decide) (by rw [g_22]; decide) (by decide) ?_
          refine rr_aload_n hx hb d_Machine_doStackSign_105 rfl (lv_at hl 0 rfl) ?_
          obtain ⟨g_24, h⟩ := h
          refine rg_Machine_stack E hp g_24 lk_72 d_Machine_doStackSign_106 (fun x_23 ex_23 => ?_)
          replace h := h x_23 ex_23
          refine lv_iload_n hx hb d_Machine_doStackSign_109 rfl (lv_at hl 2 rfl) ?_
          refine lv_iload_n hx hb d_Machine_doStackSign_110 rfl (lv_at hl 2 rfl) ?_
          obtain ⟨g_27, h⟩ := h
          refine mc_i hS (mc_runV (As := [.int v2, .int v2]) (rest := []) E (c_Numbers_layTwo l G m x_23 v2 v2 _ h) wd_Numbers_layTwo ⟨lk_236, lk_237, lk_238⟩ rfl rfl ⟨Nat.le_of_ble_eq_true rfl, Nat.le_of_ble_eq_true rfl⟩ hp hS g_27 (by decide) rfl rfl rfl hl.1 rfl (lv_room (Nat.le_of_ble_eq_true rfl)) d_Machine_doStackSign_111 ⟨Nat.le_of_ble_eq_true rfl, Nat.le_of_ble_eq_true rfl⟩) (fun r_26 m_25 h H locs hp hS => ?_)
          try dsimp only at h
          exact mp_iret E hr hp hS h d_Machine_doStackSign_114
        · replace h := h.2 g_22
          by_cases g_28 : v1 = 116
          · replace h := h.1 g_28
            refine lv_lookup (x := v1) (off := 59) (tgt := 60) hx hb d_Machine_doStackSign_1 (by decide) (by rw [g_28]; decide) (by decide) ?_
            refine rr_aload_n hx hb d_Machine_doStackSign_60 rfl (lv_at hl 0 rfl) ?_
            obtain ⟨g_30, h⟩ := h
            refine rg_Machine_stack E hp g_30 lk_72 d_Machine_doStackSign_61 (fun x_29 ex_29 => ?_)
            replace h := h x_29 ex_29
            refine lv_bipush (v := 10) hx hb d_Machine_doStackSign_64 (by decide) ?_
            refine lv_iload_n hx hb d_Machine_doStackSign_66 rfl (lv_at hl 2 rfl) ?_
            refine lv_imul hx hb d_Machine_doStackSign_67 ?_
            refine lv_topi (fun x_31 ex_31 => ?_)
            replace h := h x_31 ex_31
            obtain ⟨g_34, h⟩ := h
            refine mc_i hS (mc_runV (As := [.int x_31]) (rest := []) E (c_Numbers_lay l G m x_29 x_31 _ h) wd_Numbers_lay ⟨lk_168, lk_169, lk_170⟩ rfl rfl ⟨Nat.le_of_ble_eq_true rfl, Nat.le_of_ble_eq_true rfl⟩ hp hS g_34 (by decide) rfl rfl rfl hl.1 rfl (lv_room (Nat.le_of_ble_eq_true rfl)) d_Machine_doStackSign_68 ⟨Nat.le_of_ble_eq_true rfl, Nat.le_of_ble_eq_true rfl⟩) (fun r_33 m_32 h H locs hp hS => ?_)
            try dsimp only at h
            exact mp_iret E hr hp hS h d_Machine_doStackSign_71
          · replace h := h.2 g_28
            by_cases g_35 : v1 = 120
            · replace h := h.1 g_35
              refine lv_lookup (x := v1) (off := 114) (tgt := 115) hx hb d_Machine_doStackSign_1 (by decide) (by rw [g_35]; decide) (by decide) ?_
              refine rr_aload_n hx hb d_Machine_doStackSign_115 rfl (lv_at hl 0 rfl) ?_
              obtain ⟨g_37, h⟩ := h
              refine rg_Machine_stack E hp g_37 lk_72 d_Machine_doStackSign_116 (fun x_36 ex_36 => ?_)
              replace h := h x_36 ex_36
              refine lv_iload_n hx hb d_Machine_doStackSign_119 rfl (lv_at hl 3 rfl) ?_
              refine lv_iload_n hx hb d_Machine_doStackSign_120 rfl (lv_at hl 2 rfl) ?_
              obtain ⟨g_40, h⟩ := h
              refine mc_i hS (mc_runV (As := [.int v3, .int v2]) (rest := []) E (c_Numbers_layTwo l G m x_36 v3 v2 _ h) wd_Numbers_layTwo ⟨lk_236, lk_237, lk_238⟩ rfl rfl ⟨Nat.le_of_ble_eq_true rfl, Nat.le_of_ble_eq_true rfl⟩ hp hS g_40 (by decide) rfl rfl rfl hl.1 rfl (lv_room (Nat.le_of_ble_eq_true rfl)) d_Machine_doStackSign_121 ⟨Nat.le_of_ble_eq_true rfl, Nat.le_of_ble_eq_true rfl⟩) (fun r_39 m_38 h H locs hp hS => ?_)
              try dsimp only at h
              exact mp_iret E hr hp hS h d_Machine_doStackSign_124
            · replace h := h.2 g_35
              refine lv_lookup (x := v1) (off := 124) (tgt := 125) hx hb d_Machine_doStackSign_1 (by decide) (by show Op.lookupswitch.offset [(42, 93), (43, 71), (45, 82), (100, 104), (116, 59), (120, 114)] _ _ = _; rw [lv_osw g_1 (by decide), lv_osw g_8 (by decide), lv_osw g_15 (by decide), lv_osw g_22 (by decide), lv_osw g_28 (by decide), lv_osw g_35 (by decide)]; rfl) (by decide) ?_
              refine lv_iconst (v := 0) hx hb d_Machine_doStackSign_125 (by decide) ?_
              exact mp_iret E hr hp hS h d_Machine_doStackSign_126
set_option maxHeartbeats 4000000 in
set_option maxRecDepth 100000 in
theorem c_Machine_doStackSign (l : Launch) (G : Gc) (m : Mm) (v0 : Nat) (v1 : Int32) (v2 : Int32) (v3 : Int32) (P : Int32 → Mm → Prop) (h : wp_Machine_doStackSign m v0 v1 v2 v3 P) : Met l y_Machine_doStackSign (Cond.code y_Machine_doStackSign b_Machine_doStackSign 4 (some .int) :: lw_good) rm_Machine_doStackSign (Pre9 G m [rn v0, .int v1, .int v2, .int v3]) (PoI G P) 0 0 (fr G) := by
  refine Met.ofW (cc := b_Machine_doStackSign) (maxL := 4) (ret := (some .int)) (by decide) rfl ?_
  intro p e s mt args below meth c s₁ B hml hv
  obtain ⟨rfl, hp, hC⟩ := hv
  have hts := atoms_spec (ws := Cond.code y_Machine_doStackSign b_Machine_doStackSign 4 (some .int) :: lw_good) B.pre
  have E : En G R_Machine b_Machine_doStackSign 4 p s mt _ meth c := ⟨B.exec, B.bytes, hml, findClass_of_methodNamed B.named, fun w hw => hts w (List.mem_cons_of_mem _ hw), hC, B.notSynchronized⟩
  have hr := B.returns
  have hl := lv_entry [rn v0, .int v1, .int v2, .int v3] (n := 4) (by simp [lg_sl, rn_cat, cat_int, cat_long, cat_ref, cat_null])
  rw [lg_entry_eq]
  generalize (lg_sl [rn v0, .int v1, .int v2, .int v3] ++ List.replicate (4 - (lg_sl [rn v0, .int v1, .int v2, .int v3]).length) Slot.unset).toArray = ls at hl ⊢
  have hl : lv_has ls 4 [(0, rn v0), (1, .int v1), (2, .int v2), (3, .int v3)] := by simpa [lv_args, rn_cat, cat_int, cat_long, cat_ref, cat_null] using hl
  exact t_Machine_doStackSign_0 E hr m v0 v1 v2 v3 _ _ _ h hp va_S.rf (lv_sub hl [0, 1, 2, 3] rfl)
end WK
