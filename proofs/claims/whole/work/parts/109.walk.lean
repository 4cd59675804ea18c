section WK
variable {p : Program} {l : Launch} {e : Env} {s : State} {mt : MethodId} {args : Array Value} {below : List Frame} {meth : Method} {c : Code}
abbrev rm_FileTree_shut : Room := { frames := 2, cells := 0, slots := 0, locals := 43 }
set_option maxHeartbeats 4000000 in
set_option maxRecDepth 100000 in
theorem t_FileTree_shut_0 {G : Gc} {P : Int32 → Mm → Prop} (E : En G R_FileTree b_FileTree_shut 3 p s mt args meth c) (hr : meth.sig.returnType = some .int) (m : Mm) (v0 : Nat) (v1 : Int32) (H : Heap) (locs : List Loc) (ls : Array Slot) (h : wp_FileTree_shut_0 P m v0 v1) (hp : pic G m H) (hS : va_S (fr G) s.heap H locs) (hl : lv_has ls 3 [(0, rn v0), (1, .int v1)]) : W p l e rm_FileTree_shut s mt args below meth c H locs 0 0 (MQ below (PoI G P) args s 0 0 (fr G)) (F0 mt 0 ls []) := by
  have hx := E.1
  have hb := E.2.1
  unfold wp_FileTree_shut_0 at h
  refine rr_aload_n hx hb d_FileTree_shut_0 rfl (lv_at hl 0 rfl) ?_
  refine lv_iload_n hx hb d_FileTree_shut_1 rfl (lv_at hl 1 rfl) ?_
  obtain ⟨g_3, h⟩ := h
  refine mc_r hS (mc_runV (As := [.int v1]) (rest := []) E (c_FileTree_openOrNull l G m v0 v1 _ h) wd_FileTree_openOrNull ⟨lk_186, lk_187, lk_188⟩ rfl rfl ⟨Nat.le_of_ble_eq_true rfl, Nat.le_of_ble_eq_true rfl⟩ hp hS g_3 (by decide) rfl rfl rfl hl.1 rfl (lv_room (Nat.le_of_ble_eq_true rfl)) d_FileTree_shut_2 ⟨Nat.le_of_ble_eq_true rfl, Nat.le_of_ble_eq_true rfl⟩) (fun r_2 m_1 h H locs hp hS => ?_)
  try dsimp only at h
  refine rr_astore_n (lv' := [(2, rn r_2), (0, rn v0), (1, .int v1)]) hx hb d_FileTree_shut_5 rfl hl (by decide) rfl (fun ls hl => ?_)
  refine rr_aload_n hx hb d_FileTree_shut_6 rfl (lv_at hl 0 rfl) ?_
  refine rr_ifnonnull (tgt := 12) hx hb d_FileTree_shut_7 (by decide) (fun g_4 => ?_) (fun g_4 => ?_)
  · replace h := h.2 g_4
    refine lv_iload_n hx hb d_FileTree_shut_12 rfl (lv_at hl 2 rfl) ?_
    refine lv_iconst (v := 1) hx hb d_FileTree_shut_13 (by decide) ?_
    refine lv_icmp_ne (tgt := 20) hx hb d_FileTree_shut_14 (by decide) (fun g_5 => ?_) (fun g_5 => ?_)
    · replace h := h.2 g_5
      refine rr_aload_n hx hb d_FileTree_shut_20 rfl (lv_at hl 0 rfl) ?_
      obtain ⟨g_8, h⟩ := h
      refine mc_v hS (mc_runV (As := []) (rest := []) E (c_Handle_detach l G m_1 r_2 _ h) wd_Handle_detach ⟨lk_190, lk_25, lk_26⟩ rfl rfl ⟨Nat.le_of_ble_eq_true rfl, Nat.le_of_ble_eq_true rfl⟩ hp hS g_8 (by decide) rfl rfl rfl hl.1 rfl (lv_room (Nat.le_of_ble_eq_true rfl)) d_FileTree_shut_21 ⟨Nat.le_of_ble_eq_true rfl, Nat.le_of_ble_eq_true rfl⟩) (fun m_6 h H locs hp hS => ?_)
      try dsimp only at h
      refine lv_iconst (v := 1) hx hb d_FileTree_shut_24 (by decide) ?_
      exact mp_iret E hr hp hS h d_FileTree_shut_25
    · replace h := h.1 g_5
      refine lv_bipush (v := (-3)) hx hb d_FileTree_shut_17 (by decide) ?_
      exact mp_iret E hr hp hS h d_FileTree_shut_19
  · replace h := h.1 g_4
    refine lv_iconst (v := (-1)) hx hb d_FileTree_shut_10 (by decide) ?_
    exact mp_iret E hr hp hS h d_FileTree_shut_11
set_option maxHeartbeats 4000000 in
set_option maxRecDepth 100000 in
theorem c_FileTree_shut (l : Launch) (G : Gc) (m : Mm) (v0 : Nat) (v1 : Int32) (P : Int32 → Mm → Prop) (h : wp_FileTree_shut m v0 v1 P) : Met l y_FileTree_shut (Cond.code y_FileTree_shut b_FileTree_shut 3 (some .int) :: lw_good) rm_FileTree_shut (Pre9 G m [rn v0, .int v1]) (PoI G P) 0 0 (fr G) := by
  refine Met.ofW (cc := b_FileTree_shut) (maxL := 3) (ret := (some .int)) (by decide) rfl ?_
  intro p e s mt args below meth c s₁ B hml hv
  obtain ⟨rfl, hp, hC⟩ := hv
  have hts := atoms_spec (ws := Cond.code y_FileTree_shut b_FileTree_shut 3 (some .int) :: lw_good) B.pre
  have E : En G R_FileTree b_FileTree_shut 3 p s mt _ meth c := ⟨B.exec, B.bytes, hml, findClass_of_methodNamed B.named, fun w hw => hts w (List.mem_cons_of_mem _ hw), hC, B.notSynchronized⟩
  have hr := B.returns
  have hl := lv_entry [rn v0, .int v1] (n := 3) (by simp [lg_sl, rn_cat, cat_int, cat_long, cat_ref, cat_null])
  rw [lg_entry_eq]
  generalize (lg_sl [rn v0, .int v1] ++ List.replicate (3 - (lg_sl [rn v0, .int v1]).length) Slot.unset).toArray = ls at hl ⊢
  have hl : lv_has ls 3 [(0, rn v0), (1, .int v1)] := by simpa [lv_args, rn_cat, cat_int, cat_long, cat_ref, cat_null] using hl
  exact t_FileTree_shut_0 E hr m v0 v1 _ _ _ h hp va_S.rf (lv_sub hl [0, 1] rfl)
abbrev rm_ML_close : Room := { frames := 3, cells := 0, slots := 0, locals := 65 }
set_option maxHeartbeats 4000000 in
set_option maxRecDepth 100000 in
theorem t_ML_close_0 {G : Gc} {P : Int32 → Mm → Prop} (E : En G R_ML b_ML_close 2 p s mt args meth c) (hr : meth.sig.returnType = some .int) (m : Mm) (v0 : Nat) (v1 : Int32) (H : Heap) (locs : List Loc) (ls : Array Slot) (h : wp_ML_close_0 P m v0 v1) (hp : pic G m H) (hS : va_S (fr G) s.heap H locs) (hl : lv_has ls 2 [(0, rn v0), (1, .int v1)]) : W p l e rm_ML_close s mt args below meth c H locs 0 0 (MQ below (PoI G P) args s 0 0 (fr G)) (F0 mt 0 ls []) := by
  have hx := E.1
  have hb := E.2.1
  unfold wp_ML_close_0 at h
  refine rr_aload_n hx hb d_ML_close_0 rfl (lv_at hl 0 rfl) ?_
  obtain ⟨g_2, h⟩ := h
  refine rg_ML_machine E hp g_2 lk_87 d_ML_close_1 (fun x_1 ex_1 => ?_)
  replace h := h x_1 ex_1
  obtain ⟨g_4, h⟩ := h
  refine rg_Machine_files E hp g_4 lk_315 d_ML_close_4 (fun x_3 ex_3 => ?_)
  replace h := h x_3 ex_3
  refine lv_iload_n hx hb d_ML_close_7 rfl (lv_at hl 1 rfl) ?_
  obtain ⟨g_7, h⟩ := h
  refine mc_i hS (mc_runV (As := [.int v1]) (rest := []) E (c_FileTree_shut l G m x_3 v1 _ h) wd_FileTree_shut ⟨lk_320, lk_321, lk_322⟩ rfl rfl ⟨Nat.le_of_ble_eq_true rfl, Nat.le_of_ble_eq_true rfl⟩ hp hS g_7 (by decide) rfl rfl rfl hl.1 rfl (lv_room (Nat.le_of_ble_eq_true rfl)) d_ML_close_8 ⟨Nat.le_of_ble_eq_true rfl, Nat.le_of_ble_eq_true rfl⟩) (fun r_6 m_5 h H locs hp hS => ?_)
  try dsimp only at h
  exact mp_iret E hr hp hS h d_ML_close_11
set_option maxHeartbeats 4000000 in
set_option maxRecDepth 100000 in
theorem c_ML_close (l : Launch) (G : Gc) (m : Mm) (v0 : Nat) (v1 : Int32) (P : Int32 → Mm → Prop) (h : wp_ML_close m v0 v1 P) : Met l y_ML_close (Cond.code y_ML_close b_ML_close 2 (some .int) :: lw_good) rm_ML_close (Pre9 G m [rn v0, .int v1]) (PoI G P) 0 0 (fr G) := by
  refine Met.ofW (cc := b_ML_close) (maxL := 2) (ret := (some .int)) (by decide) rfl ?_
  intro p e s mt args below meth c s₁ B hml hv
  obtain ⟨rfl, hp, hC⟩ := hv
  have hts := atoms_spec (ws := Cond.code y_ML_close b_ML_close 2 (some .int) :: lw_good) B.pre
  have E : En G R_ML b_ML_close 2 p s mt _ meth c := ⟨B.exec, B.bytes, hml, findClass_of_methodNamed B.named, fun w hw => hts w (List.mem_cons_of_mem _ hw), hC, B.notSynchronized⟩
  have hr := B.returns
  have hl := lv_entry [rn v0, .int v1] (n := 2) (by simp [lg_sl, rn_cat, cat_int, cat_long, cat_ref, cat_null])
  rw [lg_entry_eq]
  generalize (lg_sl [rn v0, .int v1] ++ List.replicate (2 - (lg_sl [rn v0, .int v1]).length) Slot.unset).toArray = ls at hl ⊢
  have hl : lv_has ls 2 [(0, rn v0), (1, .int v1)] := by simpa [lv_args, rn_cat, cat_int, cat_long, cat_ref, cat_null] using hl
  exact t_ML_close_0 E hr m v0 v1 _ _ _ h hp va_S.rf (lv_sub hl [0, 1] rfl)
abbrev rm_ML_startFails : Room := { frames := 0, cells := 0, slots := 0, locals := 0 }
set_option maxHeartbeats 4000000 in
set_option maxRecDepth 100000 in
theorem t_ML_startFails_0 {G : Gc} {P : Int32 → Mm → Prop} (E : En G R_ML b_ML_startFails 3 p s mt args meth c) (hr : meth.sig.returnType = some .boolean) (m : Mm) (v0 : Nat) (v1 : Int32) (H : Heap) (locs : List Loc) (ls : Array Slot) (h : wp_ML_startFails_0 P m v0 v1) (hp : pic G m H) (hS : va_S (fr G) s.heap H locs) (hl : lv_has ls 3 [(0, rn v0), (1, .int v1)]) : W p l e rm_ML_startFails s mt args below meth c H locs 0 0 (MQ below (PoI G P) args s 0 0 (fr G)) (F0 mt 0 ls []) := by
  have hx := E.1
  have hb := E.2.1
  unfold wp_ML_startFails_0 at h
  refine rr_aload_n hx hb d_ML_startFails_0 rfl (lv_at hl 0 rfl) ?_
  obtain ⟨g_2, h⟩ := h
  refine rg_ML_startsFail E hp g_2 lk_89 d_ML_startFails_1 (fun x_1 ex_1 => ?_)
  replace h := h x_1 ex_1
  refine lv_istore_n (lv' := [(2, .int x_1), (0, rn v0), (1, .int v1)]) hx hb d_ML_startFails_4 rfl hl (by decide) rfl (fun ls hl => ?_)
  refine rr_aload_n hx hb d_ML_startFails_5 rfl (lv_at hl 1 rfl) ?_
  refine lv_iload_n hx hb d_ML_startFails_6 rfl (lv_at hl 2 rfl) ?_
  obtain ⟨g_3, g_5, h⟩ := h
  refine rp_ML_startsFail E hp hS g_3 lk_89 g_5 d_ML_startFails_7 (fun m_4 em_4 H locs hp hS => ?_)
  replace h := h m_4 em_4
  refine lv_iload_n hx hb d_ML_startFails_10 rfl (lv_at hl 0 rfl) ?_
  exact mp_zret E hr hp hS (by rcases h.1 with e0 | e0 <;> rw [e0] <;> decide) h.2 d_ML_startFails_11
set_option maxHeartbeats 4000000 in
set_option maxRecDepth 100000 in
theorem c_ML_startFails (l : Launch) (G : Gc) (m : Mm) (v0 : Nat) (v1 : Int32) (P : Int32 → Mm → Prop) (h : wp_ML_startFails m v0 v1 P) : Met l y_ML_startFails (Cond.code y_ML_startFails b_ML_startFails 3 (some .boolean) :: lw_good) rm_ML_startFails (Pre9 G m [rn v0, .int v1]) (PoI G P) 0 0 (fr G) := by
  refine Met.ofW (cc := b_ML_startFails) (maxL := 3) (ret := (some .boolean)) (by decide) rfl ?_
  intro p e s mt args below meth c s₁ B hml hv
  obtain ⟨rfl, hp, hC⟩ := hv
  have hts := atoms_spec (ws := Cond.code y_ML_startFails b_ML_startFails 3 (some .boolean) :: lw_good) B.pre
  have E : En G R_ML b_ML_startFails 3 p s mt _ meth c := ⟨B.exec, B.bytes, hml, findClass_of_methodNamed B.named, fun w hw => hts w (List.mem_cons_of_mem _ hw), hC, B.notSynchronized⟩
  have hr := B.returns
  have hl := lv_entry [rn v0, .int v1] (n := 3) (by simp [lg_sl, rn_cat, cat_int, cat_long, cat_ref, cat_null])
  rw [lg_entry_eq]
  generalize (lg_sl [rn v0, .int v1] ++ List.replicate (3 - (lg_sl [rn v0, .int v1]).length) Slot.unset).toArray = ls at hl ⊢
  have hl : lv_has ls 3 [(0, rn v0), (1, .int v1)] := by simpa [lv_args, rn_cat, cat_int, cat_long, cat_ref, cat_null] using hl
  exact t_ML_startFails_0 E hr m v0 v1 _ _ _ h hp va_S.rf (lv_sub hl [0, 1] rfl)
abbrev rm_FileTree_outputByte : Room := { frames := 1, cells := 0, slots := 0, locals := 21 }
set_option maxHeartbeats 4000000 in
set_option maxRecDepth 100000 in
theorem t_FileTree_outputByte_0 {G : Gc} {P : Int32 → Mm → Prop} (E : En G R_FileTree b_FileTree_outputByte 2 p s mt args meth c) (hr : meth.sig.returnType = some .int) (m : Mm) (v0 : Nat) (v1 : Int32) (H : Heap) (locs : List Loc) (ls : Array Slot) (h : wp_FileTree_outputByte_0 P m v0 v1) (hp : pic G m H) (hS : va_S (fr G) s.heap H locs) (hl : lv_has ls 2 [(0, rn v0), (1, .int v1)]) : W p l e rm_FileTree_outputByte s mt args below meth c H locs 0 0 (MQ below (PoI G P) args s 0 0 (fr G)) (F0 mt 0 ls []) := by
  have hx := E.1
  have hb := E.2.1
  unfold wp_FileTree_outputByte_0 at h
  refine rr_aload_n hx hb d_FileTree_outputByte_0 rfl (lv_at hl 0 rfl) ?_
  obtain ⟨g_2, h⟩ := h
  refine rg_FileTree_output E hp g_2 lk_34 d_FileTree_outputByte_1 (fun x_1 ex_1 => ?_)
  replace h := h x_1 ex_1
  refine lv_iload_n hx hb d_FileTree_outputByte_4 rfl (lv_at hl 1 rfl) ?_
  obtain ⟨g_5, h⟩ := h
  refine mc_i hS (mc_runV (As := [.int v1]) (rest := []) E (c_Store_byteAt l G m x_1 v1 _ h) wd_Store_byteAt ⟨lk_323, lk_207, lk_208⟩ rfl rfl ⟨Nat.le_of_ble_eq_true rfl, Nat.le_of_ble_eq_true rfl⟩ hp hS g_5 (by decide) rfl rfl rfl hl.1 rfl (lv_room (Nat.le_of_ble_eq_true rfl)) d_FileTree_outputByte_5 ⟨Nat.le_of_ble_eq_true rfl, Nat.le_of_ble_eq_true rfl⟩) (fun r_4 m_3 h H locs hp hS => ?_)
  try dsimp only at h
  exact mp_iret E hr hp hS h d_FileTree_outputByte_8
set_option maxHeartbeats 4000000 in
set_option maxRecDepth 100000 in
theorem c_FileTree_outputByte (l : Launch) (G : Gc) (m : Mm) (v0 : Nat) (v1 : Int32) (P : Int32 → Mm → Prop) (h : wp_FileTree_outputByte m v0 v1 P) : Met l y_FileTree_outputByte (Cond.code y_FileTree_outputByte b_FileTree_outputByte 2 (some .int) :: lw_good) rm_FileTree_outputByte (Pre9 G m [rn v0, .int v1]) (PoI G P) 0 0 (fr G) := by
  refine Met.ofW (cc := b_FileTree_outputByte) (maxL := 2) (ret := (some .int)) (by decide) rfl ?_
  intro p e s mt args below meth c s₁ B hml hv
  obtain ⟨rfl, hp, hC⟩ := hv
  have hts := atoms_spec (ws := Cond.code y_FileTree_outputByte b_FileTree_outputByte 2 (some .int) :: lw_good) B.pre
  have E : En G R_FileTree b_FileTree_outputByte 2 p s mt _ meth c := ⟨B.exec, B.bytes, hml, findClass_of_methodNamed B.named, fun w hw => hts w (List.mem_cons_of_mem _ hw), hC, B.notSynchronized⟩
  have hr := B.returns
  have hl := lv_entry [rn v0, .int v1] (n := 2) (by simp [lg_sl, rn_cat, cat_int, cat_long, cat_ref, cat_null])
  rw [lg_entry_eq]
  generalize (lg_sl [rn v0, .int v1] ++ List.replicate (2 - (lg_sl [rn v0, .int v1]).length) Slot.unset).toArray = ls at hl ⊢
  have hl : lv_has ls 2 [(0, rn v0), (1, .int v1)] := by simpa [lv_args, rn_cat, cat_int, cat_long, cat_ref, cat_null] using hl
  exact t_FileTree_outputByte_0 E hr m v0 v1 _ _ _ h hp va_S.rf (lv_sub hl [0, 1] rfl)
abbrev rm_ML_output : Room := { frames := 2, cells := 0, slots := 0, locals := 42 }
set_option maxHeartbeats 4000000 in
set_option maxRecDepth 100000 in
theorem t_ML_output_0 {G : Gc} {P : Int32 → Mm → Prop} (E : En G R_ML b_ML_output 2 p s mt args meth c) (hr : meth.sig.returnType = some .int) (m : Mm) (v0 : Nat) (v1 : Int32) (H : Heap) (locs : List Loc) (ls : Array Slot) (h : wp_ML_output_0 P m v0 v1) (hp : pic G m H) (hS : va_S (fr G) s.heap H locs) (hl : lv_has ls 2 [(0, rn v0), (1, .int v1)]) : W p l e rm_ML_output s mt args below meth c H locs 0 0 (MQ below (PoI G P) args s 0 0 (fr G)) (F0 mt 0 ls []) := by
  have hx := E.1
  have hb := E.2.1
  unfold wp_ML_output_0 at h
  refine rr_aload_n hx hb d_ML_output_0 rfl (lv_at hl 0 rfl) ?_
  obtain ⟨g_2, h⟩ := h
  refine rg_ML_machine E hp g_2 lk_87 d_ML_output_1 (fun x_1 ex_1 => ?_)
  replace h := h x_1 ex_1
  obtain ⟨g_4, h⟩ := h
  refine rg_Machine_files E hp g_4 lk_315 d_ML_output_4 (fun x_3 ex_3 => ?_)
  replace h := h x_3 ex_3
  refine lv_iload_n hx hb d_ML_output_7 rfl (lv_at hl 1 rfl) ?_
  obtain ⟨g_7, h⟩ := h
  refine mc_i hS (mc_runV (As := [.int v1]) (rest := []) E (c_FileTree_outputByte l G m x_3 v1 _ h) wd_FileTree_outputByte ⟨lk_324, lk_325, lk_326⟩ rfl rfl ⟨Nat.le_of_ble_eq_true rfl, Nat.le_of_ble_eq_true rfl⟩ hp hS g_7 (by decide) rfl rfl rfl hl.1 rfl (lv_room (Nat.le_of_ble_eq_true rfl)) d_ML_output_8 ⟨Nat.le_of_ble_eq_true rfl, Nat.le_of_ble_eq_true rfl⟩) (fun r_6 m_5 h H locs hp hS => ?_)
  try dsimp only at h
  exact mp_iret E hr hp hS h d_ML_output_11
set_option maxHeartbeats 4000000 in
set_option maxRecDepth 100000 in
theorem c_ML_output (l : Launch) (G : Gc) (m : Mm) (v0 : Nat) (v1 : Int32) (P : Int32 → Mm → Prop) (h : wp_ML_output m v0 v1 P) : Met l y_ML_output (Cond.code y_ML_output b_ML_output 2 (some .int) :: lw_good) rm_ML_output (Pre9 G m [rn v0, .int v1]) (PoI G P) 0 0 (fr G) := by
  refine Met.ofW (cc := b_ML_output) (maxL := 2) (ret := (some .int)) (by decide) rfl ?_
  intro p e s mt args below meth c s₁ B hml hv
  obtain ⟨rfl, hp, hC⟩ := hv
  have hts := atoms_spec (ws := Cond.code y_ML_output b_ML_output 2 (some .int) :: lw_good) B.pre
  have E : En G R_ML b_ML_output 2 p s mt _ meth c := ⟨B.exec, B.bytes, hml, findClass_of_methodNamed B.named, fun w hw => hts w (List.mem_cons_of_mem _ hw), hC, B.notSynchronized⟩
  have hr := B.returns
  have hl := lv_entry [rn v0, .int v1] (n := 2) (by simp [lg_sl, rn_cat, cat_int, cat_long, cat_ref, cat_null])
  rw [lg_entry_eq]
  generalize (lg_sl [rn v0, .int v1] ++ List.replicate (2 - (lg_sl [rn v0, .int v1]).length) Slot.unset).toArray = ls at hl ⊢
  have hl : lv_has ls 2 [(0, rn v0), (1, .int v1)] := by simpa [lv_args, rn_cat, cat_int, cat_long, cat_ref, cat_null] using hl
  exact t_ML_output_0 E hr m v0 v1 _ _ _ h hp va_S.rf (lv_sub hl [0, 1] rfl)
abbrev rm_FileTree_fileByte : Room := { frames := 1, cells := 0, slots := 0, locals := 21 }
set_option maxHeartbeats 4000000 in
set_option maxRecDepth 100000 in
theorem t_FileTree_fileByte_0 {G : Gc} {P : Int32 → Mm → Prop} (E : En G R_FileTree b_FileTree_fileByte 4 p s mt args meth c) (hr : meth.sig.returnType = some .int) (m : Mm) (v0 : Nat) (v1 : Int32) (v2 : Int32) (H : Heap) (locs : List Loc) (ls : Array Slot) (h : wp_FileTree_fileByte_0 P m v0 v1 v2) (hp : pic G m H) (hS : va_S (fr G) s.heap H locs) (hl : lv_has ls 4 [(0, rn v0), (1, .int v1), (2, .int v2)]) : W p l e rm_FileTree_fileByte s mt args below meth c H locs 0 0 (MQ below (PoI G P) args s 0 0 (fr G)) (F0 mt 0 ls []) := by
  have hx := E.1
  have hb := E.2.1
  unfold wp_FileTree_fileByte_0 at h
  refine rr_aload_n hx hb d_FileTree_fileByte_0 rfl (lv_at hl 0 rfl) ?_
  refine lv_iload_n hx hb d_FileTree_fileByte_1 rfl (lv_at hl 1 rfl) ?_
  obtain ⟨g_3, h⟩ := h
  refine mc_r hS (mc_runV (As := [.int v1]) (rest := []) E (c_FileTree_storeOrNull l G m v0 v1 _ h) wd_FileTree_storeOrNull ⟨lk_183, lk_184, lk_185⟩ rfl rfl ⟨Nat.le_of_ble_eq_true rfl, Nat.le_of_ble_eq_true rfl⟩ hp hS g_3 (by decide) rfl rfl rfl hl.1 rfl (lv_room (Nat.le_of_ble_eq_true rfl)) d_FileTree_fileByte_2 ⟨Nat.le_of_ble_eq_true rfl, Nat.le_of_ble_eq_true rfl⟩) (fun r_2 m_1 h H locs hp hS => ?_)
  try dsimp only at h
  refine rr_astore_n (lv' := [(3, rn r_2), (0, rn v0), (1, .int v1), (2, .int v2)]) hx hb d_FileTree_fileByte_5 rfl hl (by decide) rfl (fun ls hl => ?_)
  refine rr_aload_n hx hb d_FileTree_fileByte_6 rfl (lv_at hl 0 rfl) ?_
  refine rr_ifnonnull (tgt := 14) hx hb d_FileTree_fileByte_7 (by decide) (fun g_4 => ?_) (fun g_4 => ?_)
  · replace h := h.2 g_4
    refine rr_aload_n hx hb d_FileTree_fileByte_14 rfl (lv_at hl 0 rfl) ?_
    refine lv_iload_n hx hb d_FileTree_fileByte_15 rfl (lv_at hl 3 rfl) ?_
    obtain ⟨g_7, h⟩ := h
    refine mc_i hS (mc_runV (As := [.int v2]) (rest := []) E (c_Store_byteAt l G m_1 r_2 v2 _ h) wd_Store_byteAt ⟨lk_323, lk_207, lk_208⟩ rfl rfl ⟨Nat.le_of_ble_eq_true rfl, Nat.le_of_ble_eq_true rfl⟩ hp hS g_7 (by decide) rfl rfl rfl hl.1 rfl (lv_room (Nat.le_of_ble_eq_true rfl)) d_FileTree_fileByte_16 ⟨Nat.le_of_ble_eq_true rfl, Nat.le_of_ble_eq_true rfl⟩) (fun r_6 m_5 h H locs hp hS => ?_)
    try dsimp only at h
    exact mp_iret E hr hp hS h d_FileTree_fileByte_19
  · replace h := h.1 g_4
    refine lv_iconst (v := (-1)) hx hb d_FileTree_fileByte_10 (by decide) ?_
    refine lv_goto (tgt := 19) hx hb d_FileTree_fileByte_11 (by decide) ?_
    exact mp_iret E hr hp hS h d_FileTree_fileByte_19
set_option maxHeartbeats 4000000 in
set_option maxRecDepth 100000 in
theorem c_FileTree_fileByte (l : Launch) (G : Gc) (m : Mm) (v0 : Nat) (v1 : Int32) (v2 : Int32) (P : Int32 → Mm → Prop) (h : wp_FileTree_fileByte m v0 v1 v2 P) : Met l y_FileTree_fileByte (Cond.code y_FileTree_fileByte b_FileTree_fileByte 4 (some .int) :: lw_good) rm_FileTree_fileByte (Pre9 G m [rn v0, .int v1, .int v2]) (PoI G P) 0 0 (fr G) := by
  refine Met.ofW (cc := b_FileTree_fileByte) (maxL := 4) (ret := (some .int)) (by decide) rfl ?_
  intro p e s mt args below meth c s₁ B hml hv
  obtain ⟨rfl, hp, hC⟩ := hv
  have hts := atoms_spec (ws := Cond.code y_FileTree_fileByte b_FileTree_fileByte 4 (some .int) :: lw_good) B.pre
  have E : En G R_FileTree b_FileTree_fileByte 4 p s mt _ meth c := ⟨B.exec, B.bytes, hml, findClass_of_methodNamed B.named, fun w hw => hts w (List.mem_cons_of_mem _ hw), hC, B.notSynchronized⟩
  have hr := B.returns
  have hl := lv_entry [rn v0, .int v1, .int v2] (n := 4) (by simp [lg_sl, rn_cat, cat_int, cat_long, cat_ref, cat_null])
  rw [lg_entry_eq]
  generalize (lg_sl [rn v0, .int v1, .int v2] ++ List.replicate (4 - (lg_sl [rn v0, .int v1, .int v2]).length) Slot.unset).toArray = ls at hl ⊢
  have hl : lv_has ls 4 [(0, rn v0), (1, .int v1), (2, .int v2)] := by simpa [lv_args, rn_cat, cat_int, cat_long, cat_ref, cat_null] using hl
  exact t_FileTree_fileByte_0 E hr m v0 v1 v2 _ _ _ h hp va_S.rf (lv_sub hl [0, 1, 2] rfl)
abbrev rm_ML_lies : Room := { frames := 2, cells := 0, slots := 0, locals := 44 }
set_option maxHeartbeats 4000000 in
set_option maxRecDepth 100000 in
theorem t_ML_lies_0 {G : Gc} {P : Int32 → Mm → Prop} (E : En G R_ML b_ML_lies 3 p s mt args meth c) (hr : meth.sig.returnType = some .int) (m : Mm) (v0 : Nat) (v1 : Int32) (v2 : Int32) (H : Heap) (locs : List Loc) (ls : Array Slot) (h : wp_ML_lies_0 P m v0 v1 v2) (hp : pic G m H) (hS : va_S (fr G) s.heap H locs) (hl : lv_has ls 3 [(0, rn v0), (1, .int v1), (2, .int v2)]) : W p l e rm_ML_lies s mt args below meth c H locs 0 0 (MQ below (PoI G P) args s 0 0 (fr G)) (F0 mt 0 ls []) := by
  have hx := E.1
  have hb := E.2.1
  unfold wp_ML_lies_0 at h
  refine rr_aload_n hx hb d_ML_lies_0 rfl (lv_at hl 0 rfl) ?_
  obtain ⟨g_2, h⟩ := h
  refine rg_ML_machine E hp g_2 lk_87 d_ML_lies_1 (fun x_1 ex_1 => ?_)
  replace h := h x_1 ex_1
  obtain ⟨g_4, h⟩ := h
  refine rg_Machine_files E hp g_4 lk_315 d_ML_lies_4 (fun x_3 ex_3 => ?_)
  replace h := h x_3 ex_3
  refine lv_iload_n hx hb d_ML_lies_7 rfl (lv_at hl 1 rfl) ?_
  refine lv_iload_n hx hb d_ML_lies_8 rfl (lv_at hl 2 rfl) ?_
  obtain ⟨g_7, h⟩ := h
  refine mc_i hS (mc_runV (As := [.int v1, .int v2]) (rest := []) E (c_FileTree_fileByte l G m x_3 v1 v2 _ h) wd_FileTree_fileByte ⟨lk_327, lk_328, lk_329⟩ rfl rfl ⟨Nat.le_of_ble_eq_true rfl, Nat.le_of_ble_eq_true rfl⟩ hp hS g_7 (by decide) rfl rfl rfl hl.1 rfl (lv_room (Nat.le_of_ble_eq_true rfl)) d_ML_lies_9 ⟨Nat.le_of_ble_eq_true rfl, Nat.le_of_ble_eq_true rfl⟩) (fun r_6 m_5 h H locs hp hS => ?_)
  try dsimp only at h
  exact mp_iret E hr hp hS h d_ML_lies_12
set_option maxHeartbeats 4000000 in
set_option maxRecDepth 100000 in
theorem c_ML_lies (l : Launch) (G : Gc) (m : Mm) (v0 : Nat) (v1 : Int32) (v2 : Int32) (P : Int32 → Mm → Prop) (h : wp_ML_lies m v0 v1 v2 P) : Met l y_ML_lies (Cond.code y_ML_lies b_ML_lies 3 (some .int) :: lw_good) rm_ML_lies (Pre9 G m [rn v0, .int v1, .int v2]) (PoI G P) 0 0 (fr G) := by
  refine Met.ofW (cc := b_ML_lies) (maxL := 3) (ret := (some .int)) (by decide) rfl ?_
  intro p e s mt args below meth c s₁ B hml hv
  obtain ⟨rfl, hp, hC⟩ := hv
  have hts := atoms_spec (ws := Cond.code y_ML_lies b_ML_lies 3 (some .int) :: lw_good) B.pre
  have E : En G R_ML b_ML_lies 3 p s mt _ meth c := ⟨B.exec, B.bytes, hml, findClass_of_methodNamed B.named, fun w hw => hts w (List.mem_cons_of_mem _ hw), hC, B.notSynchronized⟩
  have hr := B.returns
  have hl := lv_entry [rn v0, .int v1, .int v2] (n := 3) (by simp [lg_sl, rn_cat, cat_int, cat_long, cat_ref, cat_null])
  rw [lg_entry_eq]
  generalize (lg_sl [rn v0, .int v1, .int v2] ++ List.replicate (3 - (lg_sl [rn v0, .int v1, .int v2]).length) Slot.unset).toArray = ls at hl ⊢
  have hl : lv_has ls 3 [(0, rn v0), (1, .int v1), (2, .int v2)] := by simpa [lv_args, rn_cat, cat_int, cat_long, cat_ref, cat_null] using hl
  exact t_ML_lies_0 E hr m v0 v1 v2 _ _ _ h hp va_S.rf (lv_sub hl [0, 1, 2] rfl)
abbrev rm_Mo_init : Room := { frames := 1, cells := 23, slots := 6556, locals := 64 }
set_option maxHeartbeats 4000000 in
set_option maxRecDepth 100000 in
theorem t_Mo_init_236 {G : Gc} {P : Mm → Prop} (E : En G R_Mo b_Mo_init 4 p s mt args meth c) (hr : meth.sig.returnType = none) (hin : meth.name = "<init>") : ∀ (n : Nat) (m : Mm) (v0 : Nat) (v3 : Int32) (H : Heap) (locs : List Loc) (ls : Array Slot) (cs sl : Nat) (_ : cs + (n * 0 + 0) ≤ 23) (_ : sl + (n * 0 + 0) ≤ 6556) (_ : wp_Mo_init_236 P n m v0 v3) (_ : pic G m H) (_ : va_S (fr G) s.heap H locs) (_ : lv_has ls 4 [(0, rn v0), (3, .int v3)]), W p l e rm_Mo_init s mt args below meth c H locs cs sl (MQ below (PoV G P) args s 23 6556 (fr G)) (F0 mt 236 ls []) := by
  intro n
  induction n with
  | zero => intro m v0 v3 H locs ls cs sl hc hs h hp hS hl; exact h.elim
  | succ n ih =>
    intro m v0 v3 H locs ls cs sl hc hs h hp hS hl
    have hx := E.1
    have hb := E.2.1
    unfold wp_Mo_init_236 at h
    refine lv_iload_n hx hb d_Mo_init_236 rfl (lv_at hl 1 rfl) ?_
    refine lv_bipush (v := 40) hx hb d_Mo_init_237 (by decide) ?_
    refine lv_icmp_ge (tgt := 255) hx hb d_Mo_init_239 (by decide) (fun g_1 => ?_) (fun g_1 => ?_)
    · replace h := h.1 g_1
      refine rr_aload_n hx hb d_Mo_init_255 rfl (lv_at hl 0 rfl) ?_
      obtain ⟨g_3, h⟩ := h
      refine rg_Mo_open E hp g_3 lk_330 d_Mo_init_256 (fun x_2 ex_2 => ?_)
      replace h := h x_2 ex_2
      refine lv_iconst (v := 1) hx hb d_Mo_init_259 (by decide) ?_
      refine lv_iconst (v := 1) hx hb d_Mo_init_260 (by decide) ?_
      obtain ⟨g_4, g_5, h⟩ := h
      refine mp_zast (t0 := 5) E hp hS g_4 (by decide) rfl cw_40 rfl g_5 d_Mo_init_261 (fun m_6 em_6 H locs hp hS => ?_)
      replace h := h m_6 em_6
      refine rr_aload_n hx hb d_Mo_init_262 rfl (lv_at hl 0 rfl) ?_
      obtain ⟨g_8, h⟩ := h
      refine rg_Mo_mode E hp g_8 lk_331 d_Mo_init_263 (fun x_7 ex_7 => ?_)
      replace h := h x_7 ex_7
      refine lv_iconst (v := 1) hx hb d_Mo_init_266 (by decide) ?_
      refine lv_iconst (v := 1) hx hb d_Mo_init_267 (by decide) ?_
      obtain ⟨g_9, g_10, h⟩ := h
      refine mp_iast (t0 := 1) E hp hS g_9 (by decide) rfl cw_42 rfl g_10 d_Mo_init_268 (fun m_11 em_11 H locs hp hS => ?_)
      replace h := h m_11 em_11
      refine W.widen (k := 23) (n := 6556) (by omega) (by omega) ?_
      exact mp_vret E hr hp hS h d_Mo_init_269
    · replace h := h.2 g_1
      refine rr_aload_n hx hb d_Mo_init_242 rfl (lv_at hl 0 rfl) ?_
      obtain ⟨g_13, h⟩ := h
      refine rg_Mo_resource E hp g_13 lk_332 d_Mo_init_243 (fun x_12 ex_12 => ?_)
      replace h := h x_12 ex_12
      refine lv_iload_n hx hb d_Mo_init_246 rfl (lv_at hl 1 rfl) ?_
      refine lv_iconst (v := (-1)) hx hb d_Mo_init_247 (by decide) ?_
      obtain ⟨g_14, g_15, h⟩ := h
      refine mp_iast (t0 := 1) E hp hS g_14 (by decide) rfl cw_33 rfl g_15 d_Mo_init_248 (fun m_16 em_16 H locs hp hS => ?_)
      replace h := h m_16 em_16
      obtain ⟨x_17, ex_17⟩ : ∃ y : Int32, y = v3 + 1 := ⟨_, rfl⟩
      replace h := h x_17 ex_17
      refine lv_iinc (v := x_17) (lv' := [(3, .int x_17), (0, rn v0)]) hx hb d_Mo_init_249 hl (k := 1) rfl (by rw [ex_17]; rfl) (by decide) rfl (fun ls hl => ?_)
      refine lv_goto (tgt := 236) hx hb d_Mo_init_252 (by decide) ?_
      exact ih m_16 v0 x_17 _ _ _ _ _ (by omega) (by omega) h hp hS (lv_sub hl [1, 0] rfl)
set_option maxHeartbeats 4000000 in
set_option maxRecDepth 100000 in
theorem t_Mo_init_231 {G : Gc} {P : Mm → Prop} (E : En G R_Mo b_Mo_init 4 p s mt args meth c) (hr : meth.sig.returnType = none) (hin : meth.name = "<init>") (m : Mm) (v0 : Nat) (s0 : Int32) (s1 : Nat) (H : Heap) (locs : List Loc) (ls : Array Slot) (cs sl : Nat) (hc : cs + (0) ≤ 23) (hs : sl + (0) ≤ 6556) (h : wp_Mo_init_231 P m v0 s0 s1) (hp : pic G m H) (hS : va_S (fr G) s.heap H locs) (hl : lv_has ls 4 [(0, rn v0)]) : W p l e rm_Mo_init s mt args below meth c H locs cs sl (MQ below (PoV G P) args s 23 6556 (fr G)) (F0 mt 231 ls [.int s0, rn s1]) := by
  have hx := E.1
  have hb := E.2.1
  unfold wp_Mo_init_231 at h
  obtain ⟨g_1, h⟩ := h
  refine rp_Mo_most E hp hS g_1 lk_333 hin d_Mo_init_231 (fun m_2 em_2 H locs hp hS => ?_)
  replace h := h m_2 em_2
  refine lv_iconst (v := 0) hx hb d_Mo_init_234 (by decide) ?_
  refine lv_istore_n (lv' := [(3, .int 0), (0, rn v0)]) hx hb d_Mo_init_235 rfl hl (by decide) rfl (fun ls hl => ?_)
  obtain ⟨n_3, h⟩ := h
  exact t_Mo_init_236 E hr hin n_3 m_2 v0 0 _ _ _ _ _ (by omega) (by omega) h hp hS (lv_sub hl [1, 0] rfl)
set_option maxHeartbeats 4000000 in
set_option maxRecDepth 100000 in
theorem t_Mo_init_0 {G : Gc} {P : Mm → Prop} (E : En G R_Mo b_Mo_init 4 p s mt args meth c) (hr : meth.sig.returnType = none) (hin : meth.name = "<init>") (m : Mm) (v0 : Nat) (v1 : Int64) (H : Heap) (locs : List Loc) (ls : Array Slot) (cs sl : Nat) (hc : cs + (23) ≤ 23) (hs : sl + (6556) ≤ 6556) (h : wp_Mo_init_0 P m v0 v1) (hp : pic G m H) (hS : va_S (fr G) s.heap H locs) (hl : lv_has ls 4 [(0, rn v0), (1, .long v1)]) : W p l e rm_Mo_init s mt args below meth c H locs cs sl (MQ below (PoV G P) args s 23 6556 (fr G)) (F0 mt 0 ls []) := by
  have hx := E.1
  have hb := E.2.1
  unfold wp_Mo_init_0 at h
  refine rr_aload_n hx hb d_Mo_init_0 rfl (lv_at hl 0 rfl) ?_
  obtain ⟨g_1, h⟩ := h
  refine mc_obj E ⟨lk_334, lk_2, lk_3⟩ g_1 hl.1 d_Mo_init_1 (by decide) (by simp [JFrame.monitorRoom, rn_cat, cat_int, cat_long, cat_ref, cat_null, rm_Mo_init]) ?_
  refine rr_aload_n hx hb d_Mo_init_4 rfl (lv_at hl 0 rfl) ?_
  refine lv_sipush (v := 4000) hx hb d_Mo_init_5 (by decide) ?_
  refine na_28 (n := 4000) (N' := 4000) E hp hS (by decide) (by decide) (by decide) (by show _ + _ ≤ (23 : Nat); omega) (by show _ + _ ≤ (6556 : Nat); omega) d_Mo_init_8 (fun q_2 g_4 g_5 m_3 em_3 H hp hS => ?_)
  replace h := h q_2 g_4 g_5 m_3 em_3
  obtain ⟨g_8, h⟩ := h
  refine rp_Mo_signs E hp hS g_8 lk_335 hin d_Mo_init_10 (fun m_9 em_9 H locs hp hS => ?_)
  replace h := h m_9 em_9
  refine rr_aload_n hx hb d_Mo_init_13 rfl (lv_at hl 0 rfl) ?_
  refine lv_bipush (v := 20) hx hb d_Mo_init_14 (by decide) ?_
  refine na_29 (n := 20) (N' := 20) E hp hS (by decide) (by decide) (by decide) (by show _ + _ ≤ (23 : Nat); omega) (by show _ + _ ≤ (6556 : Nat); omega) d_Mo_init_16 (fun q_10 g_12 g_13 m_11 em_11 H hp hS => ?_)
  replace h := h q_10 g_12 g_13 m_11 em_11
  obtain ⟨g_16, h⟩ := h
  refine rp_Mo_size E hp hS g_16 lk_336 hin d_Mo_init_18 (fun m_17 em_17 H locs hp hS => ?_)
  replace h := h m_17 em_17
  refine rr_aload_n hx hb d_Mo_init_21 rfl (lv_at hl 0 rfl) ?_
  refine lv_bipush (v := 120) hx hb d_Mo_init_22 (by decide) ?_
  refine na_30 (n := 120) (N' := 120) E hp hS (by decide) (by decide) (by decide) (by show _ + _ ≤ (23 : Nat); omega) (by show _ + _ ≤ (6556 : Nat); omega) d_Mo_init_24 (fun q_18 g_20 g_21 m_19 em_19 H hp hS => ?_)
  replace h := h q_18 g_20 g_21 m_19 em_19
  obtain ⟨g_24, h⟩ := h
  refine rp_Mo_told E hp hS g_24 lk_337 hin d_Mo_init_26 (fun m_25 em_25 H locs hp hS => ?_)
  replace h := h m_25 em_25
  refine rr_aload_n hx hb d_Mo_init_29 rfl (lv_at hl 0 rfl) ?_
  refine lv_sipush (v := 800) hx hb d_Mo_init_30 (by decide) ?_
  refine na_31 (n := 800) (N' := 800) E hp hS (by decide) (by decide) (by decide) (by show _ + _ ≤ (23 : Nat); omega) (by show _ + _ ≤ (6556 : Nat); omega) d_Mo_init_33 (fun q_26 g_28 g_29 m_27 em_27 H hp hS => ?_)
  replace h := h q_26 g_28 g_29 m_27 em_27
  obtain ⟨g_32, h⟩ := h
  refine rp_Mo_pages E hp hS g_32 lk_338 hin d_Mo_init_35 (fun m_33 em_33 H locs hp hS => ?_)
  replace h := h m_33 em_33
  refine rr_aload_n hx hb d_Mo_init_38 rfl (lv_at hl 0 rfl) ?_
  refine lv_iconst (v := 4) hx hb d_Mo_init_39 (by decide) ?_
  refine na_32 (n := 4) (N' := 4) E hp hS (by decide) (by decide) (by decide) (by show _ + _ ≤ (23 : Nat); omega) (by show _ + _ ≤ (6556 : Nat); omega) d_Mo_init_40 (fun q_34 g_36 g_37 m_35 em_35 H hp hS => ?_)
  replace h := h q_34 g_36 g_37 m_35 em_35
  refine lv_dup hx hb d_Mo_init_42 (rn_cat _) ?_
  refine lv_iconst (v := 0) hx hb d_Mo_init_43 (by decide) ?_
  refine lv_iconst (v := 0) hx hb d_Mo_init_44 (by decide) ?_
  obtain ⟨g_40, g_41, h⟩ := h
  refine mp_iast (t0 := 1) E hp hS g_40 (by decide) rfl cw_32 rfl g_41 d_Mo_init_45 (fun m_42 em_42 H locs hp hS => ?_)
  replace h := h m_42 em_42
  refine lv_dup hx hb d_Mo_init_46 (rn_cat _) ?_
  refine lv_iconst (v := 1) hx hb d_Mo_init_47 (by decide) ?_
  refine lv_iconst (v := 1) hx hb d_Mo_init_48 (by decide) ?_
  obtain ⟨g_43, g_44, h⟩ := h
  refine mp_iast (t0 := 1) E hp hS g_43 (by decide) rfl cw_32 rfl g_44 d_Mo_init_49 (fun m_45 em_45 H locs hp hS => ?_)
  replace h := h m_45 em_45
  refine lv_dup hx hb d_Mo_init_50 (rn_cat _) ?_
  refine lv_iconst (v := 2) hx hb d_Mo_init_51 (by decide) ?_
  refine lv_iconst (v := 0) hx hb d_Mo_init_52 (by decide) ?_
  obtain ⟨g_46, g_47, h⟩ := h
  refine mp_iast (t0 := 1) E hp hS g_46 (by decide) rfl cw_32 rfl g_47 d_Mo_init_53 (fun m_48 em_48 H locs hp hS => ?_)
  replace h := h m_48 em_48
  refine lv_dup hx hb d_Mo_init_54 (rn_cat _) ?_
  refine lv_iconst (v := 3) hx hb d_Mo_init_55 (by decide) ?_
  refine lv_iconst (v := 0) hx hb d_Mo_init_56 (by decide) ?_
  obtain ⟨g_49, g_50, h⟩ := h
  refine mp_iast (t0 := 1) E hp hS g_49 (by decide) rfl cw_32 rfl g_50 d_Mo_init_57 (fun m_51 em_51 H locs hp hS => ?_)
  replace h := h m_51 em_51
  obtain ⟨g_52, h⟩ := h
  refine rp_Mo_setting E hp hS g_52 lk_339 hin d_Mo_init_58 (fun m_53 em_53 H locs hp hS => ?_)
  replace h := h m_53 em_53
  refine rr_aload_n hx hb d_Mo_init_61 rfl (lv_at hl 0 rfl) ?_
  refine lv_bipush (v := 40) hx hb d_Mo_init_62 (by decide) ?_
  refine na_33 (n := 40) (N' := 40) E hp hS (by decide) (by decide) (by decide) (by show _ + _ ≤ (23 : Nat); omega) (by show _ + _ ≤ (6556 : Nat); omega) d_Mo_init_64 (fun q_54 g_56 g_57 m_55 em_55 H hp hS => ?_)
  replace h := h q_54 g_56 g_57 m_55 em_55
  obtain ⟨g_60, h⟩ := h
  refine rp_Mo_resource E hp hS g_60 lk_332 hin d_Mo_init_66 (fun m_61 em_61 H locs hp hS => ?_)
  replace h := h m_61 em_61
  refine rr_aload_n hx hb d_Mo_init_69 rfl (lv_at hl 0 rfl) ?_
  refine lv_iconst (v := 4) hx hb d_Mo_init_70 (by decide) ?_
  refine na_34 (n := 4) (N' := 4) E hp hS (by decide) (by decide) (by decide) (by show _ + _ ≤ (23 : Nat); omega) (by show _ + _ ≤ (6556 : Nat); omega) d_Mo_init_71 (fun q_62 g_64 g_65 m_63 em_63 H hp hS => ?_)
  replace h := h q_62 g_64 g_65 m_63 em_63
  obtain ⟨g_68, h⟩ := h
  refine rp_Mo_settingWas E hp hS g_68 lk_340 hin d_Mo_init_73 (fun m_69 em_69 H locs hp hS => ?_)
  replace h := h m_69 em_69
  refine rr_aload_n hx hb d_Mo_init_76 rfl (lv_at hl 0 rfl) ?_
  refine lv_bipush (v := 40) hx hb d_Mo_init_77 (by decide) ?_
  refine na_35 (n := 40) (N' := 40) E hp hS (by decide) (by decide) (by decide) (by show _ + _ ≤ (23 : Nat); omega) (by show _ + _ ≤ (6556 : Nat); omega) d_Mo_init_79 (fun q_70 g_72 g_73 m_71 em_71 H hp hS => ?_)
  replace h := h q_70 g_72 g_73 m_71 em_71
  obtain ⟨g_76, h⟩ := h
  refine rp_Mo_resourceWas E hp hS g_76 lk_341 hin d_Mo_init_81 (fun m_77 em_77 H locs hp hS => ?_)
  replace h := h m_77 em_77
  refine rr_aload_n hx hb d_Mo_init_84 rfl (lv_at hl 0 rfl) ?_
  refine lv_bipush (v := 10) hx hb d_Mo_init_85 (by decide) ?_
  refine na_36 (n := 10) (N' := 10) E hp hS (by decide) (by decide) (by decide) (by show _ + _ ≤ (23 : Nat); omega) (by show _ + _ ≤ (6556 : Nat); omega) d_Mo_init_87 (fun q_78 g_80 g_81 m_79 em_79 H hp hS => ?_)
  replace h := h q_78 g_80 g_81 m_79 em_79
  obtain ⟨g_84, h⟩ := h
  refine rp_Mo_there E hp hS g_84 lk_342 hin d_Mo_init_89 (fun m_85 em_85 H locs hp hS => ?_)
  replace h := h m_85 em_85
  refine rr_aload_n hx hb d_Mo_init_92 rfl (lv_at hl 0 rfl) ?_
  refine lv_bipush (v := 10) hx hb d_Mo_init_93 (by decide) ?_
  refine na_37 (n := 10) (N' := 10) E hp hS (by decide) (by decide) (by decide) (by show _ + _ ≤ (23 : Nat); omega) (by show _ + _ ≤ (6556 : Nat); omega) d_Mo_init_95 (fun q_86 g_88 g_89 m_87 em_87 H hp hS => ?_)
  replace h := h q_86 g_88 g_89 m_87 em_87
  obtain ⟨g_92, h⟩ := h
  refine rp_Mo_length E hp hS g_92 lk_343 hin d_Mo_init_97 (fun m_93 em_93 H locs hp hS => ?_)
  replace h := h m_93 em_93
  refine rr_aload_n hx hb d_Mo_init_100 rfl (lv_at hl 0 rfl) ?_
  refine lv_sipush (v := 1000) hx hb d_Mo_init_101 (by decide) ?_
  refine na_38 (n := 1000) (N' := 1000) E hp hS (by decide) (by decide) (by decide) (by show _ + _ ≤ (23 : Nat); omega) (by show _ + _ ≤ (6556 : Nat); omega) d_Mo_init_104 (fun q_94 g_96 g_97 m_95 em_95 H hp hS => ?_)
  replace h := h q_94 g_96 g_97 m_95 em_95
  obtain ⟨g_100, h⟩ := h
  refine rp_Mo_lies E hp hS g_100 lk_344 hin d_Mo_init_106 (fun m_101 em_101 H locs hp hS => ?_)
  replace h := h m_101 em_101
  refine rr_aload_n hx hb d_Mo_init_109 rfl (lv_at hl 0 rfl) ?_
  refine lv_sipush (v := 400) hx hb d_Mo_init_110 (by decide) ?_
  refine na_39 (n := 400) (N' := 400) E hp hS (by decide) (by decide) (by decide) (by show _ + _ ≤ (23 : Nat); omega) (by show _ + _ ≤ (6556 : Nat); omega) d_Mo_init_113 (fun q_102 g_104 g_105 m_103 em_103 H hp hS => ?_)
  replace h := h q_102 g_104 g_105 m_103 em_103
  obtain ⟨g_108, h⟩ := h
  refine rp_Mo_out E hp hS g_108 lk_345 hin d_Mo_init_115 (fun m_109 em_109 H locs hp hS => ?_)
  replace h := h m_109 em_109
  refine rr_aload_n hx hb d_Mo_init_118 rfl (lv_at hl 0 rfl) ?_
  refine lv_bipush (v := 8) hx hb d_Mo_init_119 (by decide) ?_
  refine na_40 (n := 8) (N' := 8) E hp hS (by decide) (by decide) (by decide) (by show _ + _ ≤ (23 : Nat); omega) (by show _ + _ ≤ (6556 : Nat); omega) d_Mo_init_121 (fun q_110 g_112 g_113 m_111 em_111 H hp hS => ?_)
  replace h := h q_110 g_112 g_113 m_111 em_111
  obtain ⟨g_116, h⟩ := h
  refine rp_Mo_open E hp hS g_116 lk_330 hin d_Mo_init_123 (fun m_117 em_117 H locs hp hS => ?_)
  replace h := h m_117 em_117
  refine rr_aload_n hx hb d_Mo_init_126 rfl (lv_at hl 0 rfl) ?_
  refine lv_bipush (v := 8) hx hb d_Mo_init_127 (by decide) ?_
  refine na_41 (n := 8) (N' := 8) E hp hS (by decide) (by decide) (by decide) (by show _ + _ ≤ (23 : Nat); omega) (by show _ + _ ≤ (6556 : Nat); omega) d_Mo_init_129 (fun q_118 g_120 g_121 m_119 em_119 H hp hS => ?_)
  replace h := h q_118 g_120 g_121 m_119 em_119
  obtain ⟨g_124, h⟩ := h
  refine rp_Mo_name E hp hS g_124 lk_346 hin d_Mo_init_131 (fun m_125 em_125 H locs hp hS => ?_)
  replace h := h m_125 em_125
  refine rr_aload_n hx hb d_Mo_init_134 rfl (lv_at hl 0 rfl) ?_
  refine lv_bipush (v := 8) hx hb d_Mo_init_135 (by decide) ?_
  refine na_42 (n := 8) (N' := 8) E hp hS (by decide) (by decide) (by decide) (by show _ + _ ≤ (23 : Nat); omega) (by show _ + _ ≤ (6556 : Nat); omega) d_Mo_init_137 (fun q_126 g_128 g_129 m_127 em_127 H hp hS => ?_)
  replace h := h q_126 g_128 g_129 m_127 em_127
  obtain ⟨g_132, h⟩ := h
  refine rp_Mo_mode E hp hS g_132 lk_331 hin d_Mo_init_139 (fun m_133 em_133 H locs hp hS => ?_)
  replace h := h m_133 em_133
  refine rr_aload_n hx hb d_Mo_init_142 rfl (lv_at hl 0 rfl) ?_
  refine lv_bipush (v := 8) hx hb d_Mo_init_143 (by decide) ?_
  refine na_43 (n := 8) (N' := 8) E hp hS (by decide) (by decide) (by decide) (by show _ + _ ≤ (23 : Nat); omega) (by show _ + _ ≤ (6556 : Nat); omega) d_Mo_init_145 (fun q_134 g_136 g_137 m_135 em_135 H hp hS => ?_)
  replace h := h q_134 g_136 g_137 m_135 em_135
  obtain ⟨g_140, h⟩ := h
  refine rp_Mo_place E hp hS g_140 lk_347 hin d_Mo_init_147 (fun m_141 em_141 H locs hp hS => ?_)
  replace h := h m_141 em_141
  refine rr_aload_n hx hb d_Mo_init_150 rfl (lv_at hl 0 rfl) ?_
  refine lv_bipush (v := 8) hx hb d_Mo_init_151 (by decide) ?_
  refine na_44 (n := 8) (N' := 8) E hp hS (by decide) (by decide) (by decide) (by show _ + _ ≤ (23 : Nat); omega) (by show _ + _ ≤ (6556 : Nat); omega) d_Mo_init_153 (fun q_142 g_144 g_145 m_143 em_143 H hp hS => ?_)
  replace h := h q_142 g_144 g_145 m_143 em_143
  obtain ⟨g_148, h⟩ := h
  refine rp_Mo_filters E hp hS g_148 lk_348 hin d_Mo_init_155 (fun m_149 em_149 H locs hp hS => ?_)
  replace h := h m_149 em_149
  refine rr_aload_n hx hb d_Mo_init_158 rfl (lv_at hl 0 rfl) ?_
  refine lv_bipush (v := 24) hx hb d_Mo_init_159 (by decide) ?_
  refine na_45 (n := 24) (N' := 24) E hp hS (by decide) (by decide) (by decide) (by show _ + _ ≤ (23 : Nat); omega) (by show _ + _ ≤ (6556 : Nat); omega) d_Mo_init_161 (fun q_150 g_152 g_153 m_151 em_151 H hp hS => ?_)
  replace h := h q_150 g_152 g_153 m_151 em_151
  obtain ⟨g_156, h⟩ := h
  refine rp_Mo_filter E hp hS g_156 lk_349 hin d_Mo_init_163 (fun m_157 em_157 H locs hp hS => ?_)
  replace h := h m_157 em_157
  refine rr_aload_n hx hb d_Mo_init_166 rfl (lv_at hl 0 rfl) ?_
  refine lv_bipush (v := 8) hx hb d_Mo_init_167 (by decide) ?_
  refine na_46 (n := 8) (N' := 8) E hp hS (by decide) (by decide) (by decide) (by show _ + _ ≤ (23 : Nat); omega) (by show _ + _ ≤ (6556 : Nat); omega) d_Mo_init_169 (fun q_158 g_160 g_161 m_159 em_159 H hp hS => ?_)
  replace h := h q_158 g_160 g_161 m_159 em_159
  obtain ⟨g_164, h⟩ := h
  refine rp_Mo_filtersWas E hp hS g_164 lk_350 hin d_Mo_init_171 (fun m_165 em_165 H locs hp hS => ?_)
  replace h := h m_165 em_165
  refine rr_aload_n hx hb d_Mo_init_174 rfl (lv_at hl 0 rfl) ?_
  refine lv_bipush (v := 8) hx hb d_Mo_init_175 (by decide) ?_
  refine na_47 (n := 8) (N' := 8) E hp hS (by decide) (by decide) (by decide) (by show _ + _ ≤ (23 : Nat); omega) (by show _ + _ ≤ (6556 : Nat); omega) d_Mo_init_177 (fun q_166 g_168 g_169 m_167 em_167 H hp hS => ?_)
  replace h := h q_166 g_168 g_169 m_167 em_167
  obtain ⟨g_172, h⟩ := h
  refine rp_Mo_own E hp hS g_172 lk_351 hin d_Mo_init_179 (fun m_173 em_173 H locs hp hS => ?_)
  replace h := h m_173 em_173
  refine rr_aload_n hx hb d_Mo_init_182 rfl (lv_at hl 0 rfl) ?_
  refine lv_bipush (v := 20) hx hb d_Mo_init_183 (by decide) ?_
  refine na_48 (n := 20) (N' := 20) E hp hS (by decide) (by decide) (by decide) (by show _ + _ ≤ (23 : Nat); omega) (by show _ + _ ≤ (6556 : Nat); omega) d_Mo_init_185 (fun q_174 g_176 g_177 m_175 em_175 H hp hS => ?_)
  replace h := h q_174 g_176 g_177 m_175 em_175
  obtain ⟨g_180, h⟩ := h
  refine rp_Mo_stack E hp hS g_180 lk_352 hin d_Mo_init_187 (fun m_181 em_181 H locs hp hS => ?_)
  replace h := h m_181 em_181
  refine rr_aload_n hx hb d_Mo_init_190 rfl (lv_at hl 0 rfl) ?_
  refine lv_iconst (v := 4) hx hb d_Mo_init_191 (by decide) ?_
  refine na_49 (n := 4) (N' := 4) E hp hS (by decide) (by decide) (by decide) (by show _ + _ ≤ (23 : Nat); omega) (by show _ + _ ≤ (6556 : Nat); omega) d_Mo_init_192 (fun q_182 g_184 g_185 m_183 em_183 H hp hS => ?_)
  replace h := h q_182 g_184 g_185 m_183 em_183
  obtain ⟨g_188, h⟩ := h
  refine rp_Mo_begin E hp hS g_188 lk_353 hin d_Mo_init_194 (fun m_189 em_189 H locs hp hS => ?_)
  replace h := h m_189 em_189
  refine rr_aload_n hx hb d_Mo_init_197 rfl (lv_at hl 0 rfl) ?_
  refine lv_iconst (v := 4) hx hb d_Mo_init_198 (by decide) ?_
  refine na_50 (n := 4) (N' := 4) E hp hS (by decide) (by decide) (by decide) (by show _ + _ ≤ (23 : Nat); omega) (by show _ + _ ≤ (6556 : Nat); omega) d_Mo_init_199 (fun q_190 g_192 g_193 m_191 em_191 H hp hS => ?_)
  replace h := h q_190 g_192 g_193 m_191 em_191
  obtain ⟨g_196, h⟩ := h
  refine rp_Mo_left E hp hS g_196 lk_354 hin d_Mo_init_201 (fun m_197 em_197 H locs hp hS => ?_)
  replace h := h m_197 em_197
  refine rr_aload_n hx hb d_Mo_init_204 rfl (lv_at hl 0 rfl) ?_
  refine lv_lload_n hx hb d_Mo_init_205 rfl (lv_at hl 1 rfl) ?_
  refine lv_lconst (v := 0) hx hb d_Mo_init_206 (by decide) ?_
  refine W.lcmp hx hb d_Mo_init_207 ?_
  refine lv_topi (fun x_198 ex_198 => ?_)
  replace h := h x_198 ex_198
  refine lv_if_ge (tgt := 215) hx hb d_Mo_init_208 (by decide) (fun g_199 => ?_) (fun g_199 => ?_)
  · replace h := h.1 g_199
    refine lv_lload_n hx hb d_Mo_init_215 rfl (lv_at hl 1 rfl) ?_
    refine lv_ldc2 hx hb E.2.2.2.1 (E.2.2.2.2.1 _ lk_355) d_Mo_init_216 ?_
    refine W.lcmp hx hb d_Mo_init_219 ?_
    refine lv_topi (fun x_200 ex_200 => ?_)
    replace h := h x_200 ex_200
    refine lv_if_le (tgt := 229) hx hb d_Mo_init_220 (by decide) (fun g_201 => ?_) (fun g_201 => ?_)
    · replace h := h.1 g_201
      refine lv_lload_n hx hb d_Mo_init_229 rfl (lv_at hl 1 rfl) ?_
      obtain ⟨x_202, ex_202⟩ : ∃ y : Int32, y = v1.toInt32 := ⟨_, rfl⟩
      replace h := h x_202 ex_202
      refine lv_l2i hx hb d_Mo_init_230 ex_202.symm ?_
      exact t_Mo_init_231 E hr hin m_197 v0 x_202 v0 _ _ _ _ _ (by omega) (by omega) h hp hS (lv_sub hl [0] rfl)
    · replace h := h.2 g_201
      refine lv_sipush (v := 20000) hx hb d_Mo_init_223 (by decide) ?_
      refine lv_goto (tgt := 231) hx hb d_Mo_init_226 (by decide) ?_
      exact t_Mo_init_231 E hr hin m_197 v0 20000 v0 _ _ _ _ _ (by omega) (by omega) h hp hS (lv_sub hl [0] rfl)
  · replace h := h.2 g_199
    refine lv_iconst (v := 0) hx hb d_Mo_init_211 (by decide) ?_
    refine lv_goto (tgt := 231) hx hb d_Mo_init_212 (by decide) ?_
    exact t_Mo_init_231 E hr hin m_197 v0 0 v0 _ _ _ _ _ (by omega) (by omega) h hp hS (lv_sub hl [0] rfl)
set_option maxHeartbeats 4000000 in
set_option maxRecDepth 100000 in
theorem c_Mo_init (l : Launch) (G : Gc) (m : Mm) (v0 : Nat) (v1 : Int64) (P : Mm → Prop) (h : wp_Mo_init m v0 v1 P) : Met l y_Mo_init (Cond.code y_Mo_init b_Mo_init 4 none :: lw_good) rm_Mo_init (Pre9 G m [rn v0, .long v1]) (PoV G P) 23 6556 (fr G) := by
  refine Met.ofW (cc := b_Mo_init) (maxL := 4) (ret := none) (by decide) rfl ?_
  intro p e s mt args below meth c s₁ B hml hv
  obtain ⟨rfl, hp, hC⟩ := hv
  have hts := atoms_spec (ws := Cond.code y_Mo_init b_Mo_init 4 none :: lw_good) B.pre
  have E : En G R_Mo b_Mo_init 4 p s mt _ meth c := ⟨B.exec, B.bytes, hml, findClass_of_methodNamed B.named, fun w hw => hts w (List.mem_cons_of_mem _ hw), hC, B.notSynchronized⟩
  have hr := B.returns
  have hl := lv_entry [rn v0, .long v1] (n := 4) (by simp [lg_sl, rn_cat, cat_int, cat_long, cat_ref, cat_null])
  rw [lg_entry_eq]
  generalize (lg_sl [rn v0, .long v1] ++ List.replicate (4 - (lg_sl [rn v0, .long v1]).length) Slot.unset).toArray = ls at hl ⊢
  have hl : lv_has ls 4 [(0, rn v0), (1, .long v1)] := by simpa [lv_args, rn_cat, cat_int, cat_long, cat_ref, cat_null] using hl
  exact t_Mo_init_0 E hr (name_of_methodNamed B.named B.method).1 m v0 v1 _ _ _ 0 0 (by omega) (by omega) h hp va_S.rf (lv_sub hl [0, 1] rfl)
abbrev rm_Mo_in : Room := { frames := 0, cells := 0, slots := 0, locals := 0 }
set_option maxHeartbeats 4000000 in
set_option maxRecDepth 100000 in
theorem t_Mo_in_0 {G : Gc} {P : Int32 → Mm → Prop} (E : En G R_Mo b_Mo_in 3 p s mt args meth c) (hr : meth.sig.returnType = some .boolean) (m : Mm) (v0 : Int32) (v1 : Int32) (v2 : Int32) (H : Heap) (locs : List Loc) (ls : Array Slot) (h : wp_Mo_in_0 P m v0 v1 v2) (hp : pic G m H) (hS : va_S (fr G) s.heap H locs) (hl : lv_has ls 3 [(0, .int v0), (1, .int v1), (2, .int v2)]) : W p l e rm_Mo_in s mt args below meth c H locs 0 0 (MQ below (PoI G P) args s 0 0 (fr G)) (F0 mt 0 ls []) := by
  have hx := E.1
  have hb := E.2.1
  unfold wp_Mo_in_0 at h
  refine lv_iload_n hx hb d_Mo_in_0 rfl (lv_at hl 0 rfl) ?_
  refine lv_iload_n hx hb d_Mo_in_1 rfl (lv_at hl 1 rfl) ?_
  refine lv_icmp_lt (tgt := 14) hx hb d_Mo_in_2 (by decide) (fun g_1 => ?_) (fun g_1 => ?_)
  · replace h := h.1 g_1
    refine lv_iconst (v := 0) hx hb d_Mo_in_14 (by decide) ?_
    exact mp_zret E hr hp hS (by decide) h d_Mo_in_15
  · replace h := h.2 g_1
    refine lv_iload_n hx hb d_Mo_in_5 rfl (lv_at hl 0 rfl) ?_
    refine lv_iload_n hx hb d_Mo_in_6 rfl (lv_at hl 2 rfl) ?_
    refine lv_icmp_gt (tgt := 14) hx hb d_Mo_in_7 (by decide) (fun g_2 => ?_) (fun g_2 => ?_)
    · replace h := h.1 g_2
      refine lv_iconst (v := 0) hx hb d_Mo_in_14 (by decide) ?_
      exact mp_zret E hr hp hS (by decide) h d_Mo_in_15
    · replace h := h.2 g_2
      refine lv_iconst (v := 1) hx hb d_Mo_in_10 (by decide) ?_
      refine lv_goto (tgt := 15) hx hb d_Mo_in_11 (by decide) ?_
      exact mp_zret E hr hp hS (by decide) h d_Mo_in_15
set_option maxHeartbeats 4000000 in
set_option maxRecDepth 100000 in
theorem c_Mo_in (l : Launch) (G : Gc) (m : Mm) (v0 : Int32) (v1 : Int32) (v2 : Int32) (P : Int32 → Mm → Prop) (h : wp_Mo_in m v0 v1 v2 P) : Met l y_Mo_in (Cond.code y_Mo_in b_Mo_in 3 (some .boolean) :: lw_good) rm_Mo_in (Pre9 G m [.int v0, .int v1, .int v2]) (PoI G P) 0 0 (fr G) := by
  refine Met.ofW (cc := b_Mo_in) (maxL := 3) (ret := (some .boolean)) (by decide) rfl ?_
  intro p e s mt args below meth c s₁ B hml hv
  obtain ⟨rfl, hp, hC⟩ := hv
  have hts := atoms_spec (ws := Cond.code y_Mo_in b_Mo_in 3 (some .boolean) :: lw_good) B.pre
  have E : En G R_Mo b_Mo_in 3 p s mt _ meth c := ⟨B.exec, B.bytes, hml, findClass_of_methodNamed B.named, fun w hw => hts w (List.mem_cons_of_mem _ hw), hC, B.notSynchronized⟩
  have hr := B.returns
  have hl := lv_entry [.int v0, .int v1, .int v2] (n := 3) (by simp [lg_sl, rn_cat, cat_int, cat_long, cat_ref, cat_null])
  rw [lg_entry_eq]
  generalize (lg_sl [.int v0, .int v1, .int v2] ++ List.replicate (3 - (lg_sl [.int v0, .int v1, .int v2]).length) Slot.unset).toArray = ls at hl ⊢
  have hl : lv_has ls 3 [(0, .int v0), (1, .int v1), (2, .int v2)] := by simpa [lv_args, rn_cat, cat_int, cat_long, cat_ref, cat_null] using hl
  exact t_Mo_in_0 E hr m v0 v1 v2 _ _ _ h hp va_S.rf (lv_sub hl [0, 1, 2] rfl)
abbrev rm_Mo_job : Room := { frames := 0, cells := 0, slots := 0, locals := 0 }
set_option maxHeartbeats 4000000 in
set_option maxRecDepth 100000 in
theorem t_Mo_job_0 {G : Gc} {P : Int32 → Mm → Prop} (E : En G R_Mo b_Mo_job 1 p s mt args meth c) (hr : meth.sig.returnType = some .int) (m : Mm) (v0 : Nat) (H : Heap) (locs : List Loc) (ls : Array Slot) (h : wp_Mo_job_0 P m v0) (hp : pic G m H) (hS : va_S (fr G) s.heap H locs) (hl : lv_has ls 1 [(0, rn v0)]) : W p l e rm_Mo_job s mt args below meth c H locs 0 0 (MQ below (PoI G P) args s 0 0 (fr G)) (F0 mt 0 ls []) := by
  have hx := E.1
  have hb := E.2.1
  unfold wp_Mo_job_0 at h
  refine rr_aload_n hx hb d_Mo_job_0 rfl (lv_at hl 0 rfl) ?_
  refine lv_iconst (v := 0) hx hb d_Mo_job_1 (by decide) ?_
  obtain ⟨g_1, h⟩ := h
  refine rp_Mo_code E hp hS g_1 lk_356 d_Mo_job_2 (fun m_2 em_2 H locs hp hS => ?_)
  replace h := h m_2 em_2
  refine rr_aload_n hx hb d_Mo_job_5 rfl (lv_at hl 0 rfl) ?_
  obtain ⟨g_4, h⟩ := h
  refine rg_Mo_jobs E hp g_4 lk_357 d_Mo_job_6 (fun x_3 ex_3 => ?_)
  replace h := h x_3 ex_3
  refine lv_bipush (v := 20) hx hb d_Mo_job_9 (by decide) ?_
  refine lv_icmp_ne (tgt := 17) hx hb d_Mo_job_11 (by decide) (fun g_5 => ?_) (fun g_5 => ?_)
  · replace h := h.2 g_5
    refine rr_aload_n hx hb d_Mo_job_17 rfl (lv_at hl 0 rfl) ?_
    refine lv_dup hx hb d_Mo_job_18 (rn_cat _) ?_
    obtain ⟨g_7, h⟩ := h
    refine rg_Mo_jobs E hp g_7 lk_357 d_Mo_job_19 (fun x_6 ex_6 => ?_)
    replace h := h x_6 ex_6
    refine lv_iconst (v := 1) hx hb d_Mo_job_22 (by decide) ?_
    refine lv_iadd hx hb d_Mo_job_23 ?_
    refine lv_topi (fun x_8 ex_8 => ?_)
    replace h := h x_8 ex_8
    obtain ⟨g_9, h⟩ := h
    refine rp_Mo_jobs E hp hS g_9 lk_357 d_Mo_job_24 (fun m_10 em_10 H locs hp hS => ?_)
    replace h := h m_10 em_10
    refine rr_aload_n hx hb d_Mo_job_27 rfl (lv_at hl 0 rfl) ?_
    obtain ⟨g_12, h⟩ := h
    refine rg_Mo_jobs E hp g_12 lk_357 d_Mo_job_28 (fun x_11 ex_11 => ?_)
    replace h := h x_11 ex_11
    refine lv_iconst (v := 1) hx hb d_Mo_job_31 (by decide) ?_
    refine lv_isub hx hb d_Mo_job_32 ?_
    refine lv_topi (fun x_13 ex_13 => ?_)
    replace h := h x_13 ex_13
    exact mp_iret E hr hp hS h d_Mo_job_33
  · replace h := h.1 g_5
    refine lv_bipush (v := (-4)) hx hb d_Mo_job_14 (by decide) ?_
    exact mp_iret E hr hp hS h d_Mo_job_16
set_option maxHeartbeats 4000000 in
set_option maxRecDepth 100000 in
theorem c_Mo_job (l : Launch) (G : Gc) (m : Mm) (v0 : Nat) (P : Int32 → Mm → Prop) (h : wp_Mo_job m v0 P) : Met l y_Mo_job (Cond.code y_Mo_job b_Mo_job 1 (some .int) :: lw_good) rm_Mo_job (Pre9 G m [rn v0]) (PoI G P) 0 0 (fr G) := by
  refine Met.ofW (cc := b_Mo_job) (maxL := 1) (ret := (some .int)) (by decide) rfl ?_
  intro p e s mt args below meth c s₁ B hml hv
  obtain ⟨rfl, hp, hC⟩ := hv
  have hts := atoms_spec (ws := Cond.code y_Mo_job b_Mo_job 1 (some .int) :: lw_good) B.pre
  have E : En G R_Mo b_Mo_job 1 p s mt _ meth c := ⟨B.exec, B.bytes, hml, findClass_of_methodNamed B.named, fun w hw => hts w (List.mem_cons_of_mem _ hw), hC, B.notSynchronized⟩
  have hr := B.returns
  have hl := lv_entry [rn v0] (n := 1) (by simp [lg_sl, rn_cat, cat_int, cat_long, cat_ref, cat_null])
  rw [lg_entry_eq]
  generalize (lg_sl [rn v0] ++ List.replicate (1 - (lg_sl [rn v0]).length) Slot.unset).toArray = ls at hl ⊢
  have hl : lv_has ls 1 [(0, rn v0)] := by simpa [lv_args, rn_cat, cat_int, cat_long, cat_ref, cat_null] using hl
  exact t_Mo_job_0 E hr m v0 _ _ _ h hp va_S.rf (lv_sub hl [0] rfl)
abbrev rm_Mo_noJob : Room := { frames := 0, cells := 0, slots := 0, locals := 0 }
set_option maxHeartbeats 4000000 in
set_option maxRecDepth 100000 in
theorem t_Mo_noJob_12 {G : Gc} {P : Int32 → Mm → Prop} (E : En G R_Mo b_Mo_noJob 2 p s mt args meth c) (hr : meth.sig.returnType = some .boolean) (m : Mm) (H : Heap) (locs : List Loc) (ls : Array Slot) (h : wp_Mo_noJob_12 P m) (hp : pic G m H) (hS : va_S (fr G) s.heap H locs) (hl : lv_has ls 2 []) : W p l e rm_Mo_noJob s mt args below meth c H locs 0 0 (MQ below (PoI G P) args s 0 0 (fr G)) (F0 mt 12 ls []) := by
  have hx := E.1
  have hb := E.2.1
  unfold wp_Mo_noJob_12 at h
  refine lv_iconst (v := 1) hx hb d_Mo_noJob_12 (by decide) ?_
  refine lv_goto (tgt := 17) hx hb d_Mo_noJob_13 (by decide) ?_
  exact mp_zret E hr hp hS (by decide) h d_Mo_noJob_17
set_option maxHeartbeats 4000000 in
set_option maxRecDepth 100000 in
theorem t_Mo_noJob_0 {G : Gc} {P : Int32 → Mm → Prop} (E : En G R_Mo b_Mo_noJob 2 p s mt args meth c) (hr : meth.sig.returnType = some .boolean) (m : Mm) (v0 : Nat) (v1 : Int32) (H : Heap) (locs : List Loc) (ls : Array Slot) (h : wp_Mo_noJob_0 P m v0 v1) (hp : pic G m H) (hS : va_S (fr G) s.heap H locs) (hl : lv_has ls 2 [(0, rn v0), (1, .int v1)]) : W p l e rm_Mo_noJob s mt args below meth c H locs 0 0 (MQ below (PoI G P) args s 0 0 (fr G)) (F0 mt 0 ls []) := by
  have hx := E.1
  have hb := E.2.1
  unfold wp_Mo_noJob_0 at h
  refine lv_iload_n hx hb d_Mo_noJob_0 rfl (lv_at hl 1 rfl) ?_
  refine lv_if_lt (tgt := 12) hx hb d_Mo_noJob_1 (by decide) (fun g_1 => ?_) (fun g_1 => ?_)
  · replace h := h.1 g_1
    exact t_Mo_noJob_12 E hr m _ _ _ h hp hS (lv_sub hl [] rfl)
  · replace h := h.2 g_1
    refine lv_iload_n hx hb d_Mo_noJob_4 rfl (lv_at hl 1 rfl) ?_
    refine rr_aload_n hx hb d_Mo_noJob_5 rfl (lv_at hl 0 rfl) ?_
    obtain ⟨g_3, h⟩ := h
    refine rg_Mo_jobs E hp g_3 lk_357 d_Mo_noJob_6 (fun x_2 ex_2 => ?_)
    replace h := h x_2 ex_2
    refine lv_icmp_lt (tgt := 16) hx hb d_Mo_noJob_9 (by decide) (fun g_4 => ?_) (fun g_4 => ?_)
    · replace h := h.1 g_4
      refine lv_iconst (v := 0) hx hb d_Mo_noJob_16 (by decide) ?_
      exact mp_zret E hr hp hS (by decide) h d_Mo_noJob_17
    · replace h := h.2 g_4
      exact t_Mo_noJob_12 E hr m _ _ _ h hp hS (lv_sub hl [] rfl)
set_option maxHeartbeats 4000000 in
set_option maxRecDepth 100000 in
theorem c_Mo_noJob (l : Launch) (G : Gc) (m : Mm) (v0 : Nat) (v1 : Int32) (P : Int32 → Mm → Prop) (h : wp_Mo_noJob m v0 v1 P) : Met l y_Mo_noJob (Cond.code y_Mo_noJob b_Mo_noJob 2 (some .boolean) :: lw_good) rm_Mo_noJob (Pre9 G m [rn v0, .int v1]) (PoI G P) 0 0 (fr G) := by
  refine Met.ofW (cc := b_Mo_noJob) (maxL := 2) (ret := (some .boolean)) (by decide) rfl ?_
  intro p e s mt args below meth c s₁ B hml hv
  obtain ⟨rfl, hp, hC⟩ := hv
  have hts := atoms_spec (ws := Cond.code y_Mo_noJob b_Mo_noJob 2 (some .boolean) :: lw_good) B.pre
  have E : En G R_Mo b_Mo_noJob 2 p s mt _ meth c := ⟨B.exec, B.bytes, hml, findClass_of_methodNamed B.named, fun w hw => hts w (List.mem_cons_of_mem _ hw), hC, B.notSynchronized⟩
  have hr := B.returns
  have hl := lv_entry [rn v0, .int v1] (n := 2) (by simp [lg_sl, rn_cat, cat_int, cat_long, cat_ref, cat_null])
  rw [lg_entry_eq]
  generalize (lg_sl [rn v0, .int v1] ++ List.replicate (2 - (lg_sl [rn v0, .int v1]).length) Slot.unset).toArray = ls at hl ⊢
  have hl : lv_has ls 2 [(0, rn v0), (1, .int v1)] := by simpa [lv_args, rn_cat, cat_int, cat_long, cat_ref, cat_null] using hl
  exact t_Mo_noJob_0 E hr m v0 v1 _ _ _ h hp va_S.rf (lv_sub hl [0, 1] rfl)
end WK
