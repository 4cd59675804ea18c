section WK
variable {p : Program} {l : Launch} {e : Env} {s : State} {mt : MethodId} {args : Array Value} {below : List Frame} {meth : Method} {c : Code}
abbrev rm_ML_init : Room := { frames := 4, cells := 58, slots := 5689, locals := 129 }
set_option maxHeartbeats 4000000 in
set_option maxRecDepth 100000 in
theorem t_ML_init_0 {G : Gc} {P : Mm → Prop} (E : En G R_ML b_ML_init 3 p s mt args meth c) (hr : meth.sig.returnType = none) (hin : meth.name = "<init>") (m : Mm) (v0 : Nat) (v1 : Int64) (H : Heap) (locs : List Loc) (ls : Array Slot) (cs sl : Nat) (hc : cs + (58) ≤ 58) (hs : sl + (5689) ≤ 5689) (h : wp_ML_init_0 P m v0 v1) (hp : pic G m H) (hS : va_S (fr G) s.heap H locs) (hl : lv_has ls 3 [(0, rn v0), (1, .long v1)]) : W p l e rm_ML_init s mt args below meth c H locs cs sl (MQ below (PoV G P) args s 58 5689 (fr G)) (F0 mt 0 ls []) := by
  have hx := E.1
  have hb := E.2.1
  unfold wp_ML_init_0 at h
  refine rr_aload_n hx hb d_ML_init_0 rfl (lv_at hl 0 rfl) ?_
  obtain ⟨g_1, h⟩ := h
  refine mc_obj E ⟨lk_81, lk_2, lk_3⟩ g_1 hl.1 d_ML_init_1 (by decide) (by simp [JFrame.monitorRoom, rn_cat, cat_int, cat_long, cat_ref, cat_null, rm_ML_init]) ?_
  refine rr_aload_n hx hb d_ML_init_4 rfl (lv_at hl 0 rfl) ?_
  refine lv_bipush (v := 20) hx hb d_ML_init_5 (by decide) ?_
  refine na_12 (n := 20) (N' := 20) E hp hS lk_82 (by decide) (by decide) (by decide) (by show _ + _ ≤ (58 : Nat); omega) (by show _ + _ ≤ (5689 : Nat); omega) d_ML_init_7 (fun q_2 g_4 g_5 m_3 em_3 H hp hS => ?_)
  replace h := h q_2 g_4 g_5 m_3 em_3
  obtain ⟨g_8, h⟩ := h
  refine rp_ML_jobs E hp hS g_8 lk_83 hin d_ML_init_10 (fun m_9 em_9 H locs hp hS => ?_)
  replace h := h m_9 em_9
  refine rr_aload_n hx hb d_ML_init_13 rfl (lv_at hl 0 rfl) ?_
  refine rn_Machine E hp hS lk_84 (by show _ + _ ≤ (58 : Nat); omega) (by show _ + _ ≤ (5689 : Nat); omega) d_ML_init_14 (fun q_10 g_12 g_13 m_11 em_11 H hp hS => ?_)
  replace h := h q_10 g_12 g_13 m_11 em_11
  refine lv_dup hx hb d_ML_init_17 (rn_cat _) ?_
  refine lv_lload_n hx hb d_ML_init_18 rfl (lv_at hl 1 rfl) ?_
  refine mc_v hS (mc_runI (As := [.long v1]) (rest := [rn q_10, rn v0]) E (c_Machine_init l G m_11 q_10 v1 _ h) wd_Machine_init ⟨lk_85, lk_86⟩ rfl rfl rfl ⟨Nat.le_of_ble_eq_true rfl, Nat.le_of_ble_eq_true rfl⟩ hp hS g_13 rfl hl.1 rfl (lv_room (by simp [rn_cat, cat_int, cat_long, cat_ref, cat_null])) d_ML_init_19 ⟨by show _ + _ ≤ (58 : Nat); omega, by show _ + _ ≤ (5689 : Nat); omega⟩) (fun m_14 h H locs hp hS => ?_)
  try dsimp only at h
  obtain ⟨g_16, h⟩ := h
  refine rp_ML_machine E hp hS g_16 lk_87 hin d_ML_init_22 (fun m_17 em_17 H locs hp hS => ?_)
  replace h := h m_17 em_17
  refine rr_aload_n hx hb d_ML_init_25 rfl (lv_at hl 0 rfl) ?_
  refine lv_iconst (v := 0) hx hb d_ML_init_26 (by decide) ?_
  obtain ⟨g_18, h⟩ := h
  refine rp_ML_jobCount E hp hS g_18 lk_88 d_ML_init_27 (fun m_19 em_19 H locs hp hS => ?_)
  replace h := h m_19 em_19
  refine rr_aload_n hx hb d_ML_init_30 rfl (lv_at hl 0 rfl) ?_
  refine lv_iconst (v := 0) hx hb d_ML_init_31 (by decide) ?_
  obtain ⟨g_20, h⟩ := h
  refine rp_ML_startsFail E hp hS g_20 lk_89 (by decide) d_ML_init_32 (fun m_21 em_21 H locs hp hS => ?_)
  replace h := h m_21 em_21
  refine W.widen (k := 58) (n := 5689) (by omega) (by omega) ?_
  exact mp_vret E hr hp hS h d_ML_init_35
set_option maxHeartbeats 4000000 in
set_option maxRecDepth 100000 in
theorem c_ML_init (l : Launch) (G : Gc) (m : Mm) (v0 : Nat) (v1 : Int64) (P : Mm → Prop) (h : wp_ML_init m v0 v1 P) : Met l y_ML_init (Cond.code y_ML_init b_ML_init 3 none :: lw_good) rm_ML_init (Pre9 G m [rn v0, .long v1]) (PoV G P) 58 5689 (fr G) := by
  refine Met.ofW (cc := b_ML_init) (maxL := 3) (ret := none) (by decide) rfl ?_
  intro p e s mt args below meth c s₁ B hml hv
  obtain ⟨rfl, hp, hC⟩ := hv
  have hts := atoms_spec (ws := Cond.code y_ML_init b_ML_init 3 none :: lw_good) B.pre
  have E : En G R_ML b_ML_init 3 p s mt _ meth c := ⟨B.exec, B.bytes, hml, findClass_of_methodNamed B.named, fun w hw => hts w (List.mem_cons_of_mem _ hw), hC, B.notSynchronized⟩
  have hr := B.returns
  have hl := lv_entry [rn v0, .long v1] (n := 3) (by simp [lg_sl, rn_cat, cat_int, cat_long, cat_ref, cat_null])
  rw [lg_entry_eq]
  generalize (lg_sl [rn v0, .long v1] ++ List.replicate (3 - (lg_sl [rn v0, .long v1]).length) Slot.unset).toArray = ls at hl ⊢
  have hl : lv_has ls 3 [(0, rn v0), (1, .long v1)] := by simpa [lv_args, rn_cat, cat_int, cat_long, cat_ref, cat_null] using hl
  exact t_ML_init_0 E hr (name_of_methodNamed B.named B.method).1 m v0 v1 _ _ _ 0 0 (by omega) (by omega) h hp va_S.rf (lv_sub hl [0, 1] rfl)
abbrev rm_Job_init : Room := { frames := 1, cells := 2, slots := 240, locals := 64 }
set_option maxHeartbeats 4000000 in
set_option maxRecDepth 100000 in
theorem t_Job_init_0 {G : Gc} {P : Mm → Prop} (E : En G R_Job b_Job_init 1 p s mt args meth c) (hr : meth.sig.returnType = none) (hin : meth.name = "<init>") (m : Mm) (v0 : Nat) (H : Heap) (locs : List Loc) (ls : Array Slot) (cs sl : Nat) (hc : cs + (2) ≤ 2) (hs : sl + (240) ≤ 240) (h : wp_Job_init_0 P m v0) (hp : pic G m H) (hS : va_S (fr G) s.heap H locs) (hl : lv_has ls 1 [(0, rn v0)]) : W p l e rm_Job_init s mt args below meth c H locs cs sl (MQ below (PoV G P) args s 2 240 (fr G)) (F0 mt 0 ls []) := by
  have hx := E.1
  have hb := E.2.1
  unfold wp_Job_init_0 at h
  refine rr_aload_n hx hb d_Job_init_0 rfl (lv_at hl 0 rfl) ?_
  obtain ⟨g_1, h⟩ := h
  refine mc_obj E ⟨lk_90, lk_2, lk_3⟩ g_1 hl.1 d_Job_init_1 (by decide) (by simp [JFrame.monitorRoom, rn_cat, cat_int, cat_long, cat_ref, cat_null, rm_Job_init]) ?_
  refine rr_aload_n hx hb d_Job_init_4 rfl (lv_at hl 0 rfl) ?_
  refine lv_sipush (v := 200) hx hb d_Job_init_5 (by decide) ?_
  refine na_24 (n := 200) (N' := 200) E hp hS (by decide) (by decide) (by decide) (by show _ + _ ≤ (2 : Nat); omega) (by show _ + _ ≤ (240 : Nat); omega) d_Job_init_8 (fun q_2 g_4 g_5 m_3 em_3 H hp hS => ?_)
  replace h := h q_2 g_4 g_5 m_3 em_3
  obtain ⟨g_8, h⟩ := h
  refine rp_Job_signs E hp hS g_8 lk_91 hin d_Job_init_10 (fun m_9 em_9 H locs hp hS => ?_)
  replace h := h m_9 em_9
  refine rr_aload_n hx hb d_Job_init_13 rfl (lv_at hl 0 rfl) ?_
  refine lv_bipush (v := 40) hx hb d_Job_init_14 (by decide) ?_
  refine na_25 (n := 40) (N' := 40) E hp hS (by decide) (by decide) (by decide) (by show _ + _ ≤ (2 : Nat); omega) (by show _ + _ ≤ (240 : Nat); omega) d_Job_init_16 (fun q_10 g_12 g_13 m_11 em_11 H hp hS => ?_)
  replace h := h q_10 g_12 g_13 m_11 em_11
  obtain ⟨g_16, h⟩ := h
  refine rp_Job_pages E hp hS g_16 lk_92 hin d_Job_init_18 (fun m_17 em_17 H locs hp hS => ?_)
  replace h := h m_17 em_17
  refine rr_aload_n hx hb d_Job_init_21 rfl (lv_at hl 0 rfl) ?_
  refine lv_iconst (v := 0) hx hb d_Job_init_22 (by decide) ?_
  obtain ⟨g_18, h⟩ := h
  refine rp_Job_length E hp hS g_18 lk_93 d_Job_init_23 (fun m_19 em_19 H locs hp hS => ?_)
  replace h := h m_19 em_19
  refine rr_aload_n hx hb d_Job_init_26 rfl (lv_at hl 0 rfl) ?_
  refine lv_iconst (v := 0) hx hb d_Job_init_27 (by decide) ?_
  obtain ⟨g_20, h⟩ := h
  refine rp_Job_pageCount E hp hS g_20 lk_94 d_Job_init_28 (fun m_21 em_21 H locs hp hS => ?_)
  replace h := h m_21 em_21
  refine rr_aload_n hx hb d_Job_init_31 rfl (lv_at hl 0 rfl) ?_
  refine lv_iconst (v := 0) hx hb d_Job_init_32 (by decide) ?_
  obtain ⟨g_22, h⟩ := h
  refine rp_Job_outcome E hp hS g_22 lk_95 d_Job_init_33 (fun m_23 em_23 H locs hp hS => ?_)
  replace h := h m_23 em_23
  refine rr_aload_n hx hb d_Job_init_36 rfl (lv_at hl 0 rfl) ?_
  refine lv_iconst (v := 0) hx hb d_Job_init_37 (by decide) ?_
  obtain ⟨g_24, h⟩ := h
  refine rp_Job_error E hp hS g_24 lk_96 d_Job_init_38 (fun m_25 em_25 H locs hp hS => ?_)
  replace h := h m_25 em_25
  refine rr_aload_n hx hb d_Job_init_41 rfl (lv_at hl 0 rfl) ?_
  refine lv_iconst (v := 0) hx hb d_Job_init_42 (by decide) ?_
  obtain ⟨g_26, h⟩ := h
  refine rp_Job_errorPlace E hp hS g_26 lk_97 d_Job_init_43 (fun m_27 em_27 H locs hp hS => ?_)
  replace h := h m_27 em_27
  refine rr_aload_n hx hb d_Job_init_46 rfl (lv_at hl 0 rfl) ?_
  refine lv_iconst (v := 0) hx hb d_Job_init_47 (by decide) ?_
  obtain ⟨g_28, h⟩ := h
  refine rp_Job_steps E hp hS g_28 lk_98 d_Job_init_48 (fun m_29 em_29 H locs hp hS => ?_)
  replace h := h m_29 em_29
  refine rr_aload_n hx hb d_Job_init_51 rfl (lv_at hl 0 rfl) ?_
  refine lv_iconst (v := 0) hx hb d_Job_init_52 (by decide) ?_
  obtain ⟨g_30, h⟩ := h
  refine rp_Job_flushed E hp hS g_30 lk_99 d_Job_init_53 (fun m_31 em_31 H locs hp hS => ?_)
  replace h := h m_31 em_31
  refine W.widen (k := 2) (n := 240) (by omega) (by omega) ?_
  exact mp_vret E hr hp hS h d_Job_init_56
set_option maxHeartbeats 4000000 in
set_option maxRecDepth 100000 in
theorem c_Job_init (l : Launch) (G : Gc) (m : Mm) (v0 : Nat) (P : Mm → Prop) (h : wp_Job_init m v0 P) : Met l y_Job_init (Cond.code y_Job_init b_Job_init 1 none :: lw_good) rm_Job_init (Pre9 G m [rn v0]) (PoV G P) 2 240 (fr G) := by
  refine Met.ofW (cc := b_Job_init) (maxL := 1) (ret := none) (by decide) rfl ?_
  intro p e s mt args below meth c s₁ B hml hv
  obtain ⟨rfl, hp, hC⟩ := hv
  have hts := atoms_spec (ws := Cond.code y_Job_init b_Job_init 1 none :: lw_good) B.pre
  have E : En G R_Job b_Job_init 1 p s mt _ meth c := ⟨B.exec, B.bytes, hml, findClass_of_methodNamed B.named, fun w hw => hts w (List.mem_cons_of_mem _ hw), hC, B.notSynchronized⟩
  have hr := B.returns
  have hl := lv_entry [rn v0] (n := 1) (by simp [lg_sl, rn_cat, cat_int, cat_long, cat_ref, cat_null])
  rw [lg_entry_eq]
  generalize (lg_sl [rn v0] ++ List.replicate (1 - (lg_sl [rn v0]).length) Slot.unset).toArray = ls at hl ⊢
  have hl : lv_has ls 1 [(0, rn v0)] := by simpa [lv_args, rn_cat, cat_int, cat_long, cat_ref, cat_null] using hl
  exact t_Job_init_0 E hr (name_of_methodNamed B.named B.method).1 m v0 _ _ _ 0 0 (by omega) (by omega) h hp va_S.rf (lv_sub hl [0] rfl)
abbrev rm_ML_job : Room := { frames := 2, cells := 3, slots := 249, locals := 84 }
set_option maxHeartbeats 4000000 in
set_option maxRecDepth 100000 in
theorem t_ML_job_0 {G : Gc} {P : Int32 → Mm → Prop} (E : En G R_ML b_ML_job 1 p s mt args meth c) (hr : meth.sig.returnType = some .int) (m : Mm) (v0 : Nat) (H : Heap) (locs : List Loc) (ls : Array Slot) (cs sl : Nat) (hc : cs + (3) ≤ 3) (hs : sl + (249) ≤ 249) (h : wp_ML_job_0 P m v0) (hp : pic G m H) (hS : va_S (fr G) s.heap H locs) (hl : lv_has ls 1 [(0, rn v0)]) : W p l e rm_ML_job s mt args below meth c H locs cs sl (MQ below (PoI G P) args s 3 249 (fr G)) (F0 mt 0 ls []) := by
  have hx := E.1
  have hb := E.2.1
  unfold wp_ML_job_0 at h
  refine rr_aload_n hx hb d_ML_job_0 rfl (lv_at hl 0 rfl) ?_
  obtain ⟨g_2, h⟩ := h
  refine rg_ML_jobCount E hp g_2 lk_88 d_ML_job_1 (fun x_1 ex_1 => ?_)
  replace h := h x_1 ex_1
  refine lv_bipush (v := 20) hx hb d_ML_job_4 (by decide) ?_
  refine lv_icmp_lt (tgt := 12) hx hb d_ML_job_6 (by decide) (fun g_3 => ?_) (fun g_3 => ?_)
  · replace h := h.1 g_3
    refine rr_aload_n hx hb d_ML_job_12 rfl (lv_at hl 0 rfl) ?_
    obtain ⟨g_5, h⟩ := h
    refine rg_ML_jobs E hp g_5 lk_83 d_ML_job_13 (fun x_4 ex_4 => ?_)
    replace h := h x_4 ex_4
    refine rr_aload_n hx hb d_ML_job_16 rfl (lv_at hl 0 rfl) ?_
    obtain ⟨g_7, h⟩ := h
    refine rg_ML_jobCount E hp g_7 lk_88 d_ML_job_17 (fun x_6 ex_6 => ?_)
    replace h := h x_6 ex_6
    refine rn_Job E hp hS lk_82 (by show _ + _ ≤ (3 : Nat); omega) (by show _ + _ ≤ (249 : Nat); omega) d_ML_job_20 (fun q_8 g_10 g_11 m_9 em_9 H hp hS => ?_)
    replace h := h q_8 g_10 g_11 m_9 em_9
    refine lv_dup hx hb d_ML_job_23 (rn_cat _) ?_
    refine mc_v hS (mc_runI (As := []) (rest := [rn q_8, .int x_6, rn x_4]) E (c_Job_init l G m_9 q_8 _ h) wd_Job_init ⟨lk_100, lk_101⟩ rfl rfl rfl ⟨Nat.le_of_ble_eq_true rfl, Nat.le_of_ble_eq_true rfl⟩ hp hS g_11 rfl hl.1 rfl (lv_room (by simp [rn_cat, cat_int, cat_long, cat_ref, cat_null])) d_ML_job_24 ⟨by show _ + _ ≤ (3 : Nat); omega, by show _ + _ ≤ (249 : Nat); omega⟩) (fun m_12 h H locs hp hS => ?_)
    try dsimp only at h
    obtain ⟨g_14, g_15, g_17, h⟩ := h
    refine mp_aast (t0 := 0) E hp hS g_14 (by decide) rfl cw_12 rfl g_17 (by decide) rfl rfl g_15 d_ML_job_27 (fun m_16 em_16 H locs hp hS => ?_)
    replace h := h m_16 em_16
    refine rr_aload_n hx hb d_ML_job_28 rfl (lv_at hl 0 rfl) ?_
    refine lv_dup hx hb d_ML_job_29 (rn_cat _) ?_
    obtain ⟨g_19, h⟩ := h
    refine rg_ML_jobCount E hp g_19 lk_88 d_ML_job_30 (fun x_18 ex_18 => ?_)
    replace h := h x_18 ex_18
    refine lv_iconst (v := 1) hx hb d_ML_job_33 (by decide) ?_
    refine lv_iadd hx hb d_ML_job_34 ?_
    refine lv_topi (fun x_20 ex_20 => ?_)
    replace h := h x_20 ex_20
    obtain ⟨g_21, h⟩ := h
    refine rp_ML_jobCount E hp hS g_21 lk_88 d_ML_job_35 (fun m_22 em_22 H locs hp hS => ?_)
    replace h := h m_22 em_22
    refine rr_aload_n hx hb d_ML_job_38 rfl (lv_at hl 0 rfl) ?_
    obtain ⟨g_24, h⟩ := h
    refine rg_ML_jobCount E hp g_24 lk_88 d_ML_job_39 (fun x_23 ex_23 => ?_)
    replace h := h x_23 ex_23
    refine lv_iconst (v := 1) hx hb d_ML_job_42 (by decide) ?_
    refine lv_isub hx hb d_ML_job_43 ?_
    refine lv_topi (fun x_25 ex_25 => ?_)
    replace h := h x_25 ex_25
    refine W.widen (k := 3) (n := 249) (by omega) (by omega) ?_
    exact mp_iret E hr hp hS h d_ML_job_44
  · replace h := h.2 g_3
    refine lv_bipush (v := (-4)) hx hb d_ML_job_9 (by decide) ?_
    refine W.widen (k := 3) (n := 249) (by omega) (by omega) ?_
    exact mp_iret E hr hp hS h d_ML_job_11
set_option maxHeartbeats 4000000 in
set_option maxRecDepth 100000 in
theorem c_ML_job (l : Launch) (G : Gc) (m : Mm) (v0 : Nat) (P : Int32 → Mm → Prop) (h : wp_ML_job m v0 P) : Met l y_ML_job (Cond.code y_ML_job b_ML_job 1 (some .int) :: lw_good) rm_ML_job (Pre9 G m [rn v0]) (PoI G P) 3 249 (fr G) := by
  refine Met.ofW (cc := b_ML_job) (maxL := 1) (ret := (some .int)) (by decide) rfl ?_
  intro p e s mt args below meth c s₁ B hml hv
  obtain ⟨rfl, hp, hC⟩ := hv
  have hts := atoms_spec (ws := Cond.code y_ML_job b_ML_job 1 (some .int) :: lw_good) B.pre
  have E : En G R_ML b_ML_job 1 p s mt _ meth c := ⟨B.exec, B.bytes, hml, findClass_of_methodNamed B.named, fun w hw => hts w (List.mem_cons_of_mem _ hw), hC, B.notSynchronized⟩
  have hr := B.returns
  have hl := lv_entry [rn v0] (n := 1) (by simp [lg_sl, rn_cat, cat_int, cat_long, cat_ref, cat_null])
  rw [lg_entry_eq]
  generalize (lg_sl [rn v0] ++ List.replicate (1 - (lg_sl [rn v0]).length) Slot.unset).toArray = ls at hl ⊢
  have hl : lv_has ls 1 [(0, rn v0)] := by simpa [lv_args, rn_cat, cat_int, cat_long, cat_ref, cat_null] using hl
  exact t_ML_job_0 E hr m v0 _ _ _ 0 0 (by omega) (by omega) h hp va_S.rf (lv_sub hl [0] rfl)
abbrev rm_ML_jobOrNull : Room := { frames := 0, cells := 0, slots := 0, locals := 0 }
set_option maxHeartbeats 4000000 in
set_option maxRecDepth 100000 in
theorem t_ML_jobOrNull_18 {G : Gc} {P : Nat → Mm → Prop} (E : En G R_ML b_ML_jobOrNull 2 p s mt args meth c) (hr : meth.sig.returnType = some (.object "MachineLoop$Job")) (m : Mm) (H : Heap) (locs : List Loc) (ls : Array Slot) (h : wp_ML_jobOrNull_18 P m) (hp : pic G m H) (hS : va_S (fr G) s.heap H locs) (hl : lv_has ls 2 []) : W p l e rm_ML_jobOrNull s mt args below meth c H locs 0 0 (MQ below (PoR G P) args s 0 0 (fr G)) (F0 mt 18 ls []) := by
  have hx := E.1
  have hb := E.2.1
  unfold wp_ML_jobOrNull_18 at h
  refine rr_null hx hb d_ML_jobOrNull_18 ?_
  exact mp_aret E hr (Or.inl ⟨_, rfl⟩) hp hS h d_ML_jobOrNull_19
set_option maxHeartbeats 4000000 in
set_option maxRecDepth 100000 in
theorem t_ML_jobOrNull_0 {G : Gc} {P : Nat → Mm → Prop} (E : En G R_ML b_ML_jobOrNull 2 p s mt args meth c) (hr : meth.sig.returnType = some (.object "MachineLoop$Job")) (m : Mm) (v0 : Nat) (v1 : Int32) (H : Heap) (locs : List Loc) (ls : Array Slot) (h : wp_ML_jobOrNull_0 P m v0 v1) (hp : pic G m H) (hS : va_S (fr G) s.heap H locs) (hl : lv_has ls 2 [(0, rn v0), (1, .int v1)]) : W p l e rm_ML_jobOrNull s mt args below meth c H locs 0 0 (MQ below (PoR G P) args s 0 0 (fr G)) (F0 mt 0 ls []) := by
  have hx := E.1
  have hb := E.2.1
  unfold wp_ML_jobOrNull_0 at h
  refine lv_iload_n hx hb d_ML_jobOrNull_0 rfl (lv_at hl 1 rfl) ?_
  refine lv_if_lt (tgt := 18) hx hb d_ML_jobOrNull_1 (by decide) (fun g_1 => ?_) (fun g_1 => ?_)
  · replace h := h.1 g_1
    exact t_ML_jobOrNull_18 E hr m _ _ _ h hp hS (lv_sub hl [] rfl)
  · replace h := h.2 g_1
    refine lv_iload_n hx hb d_ML_jobOrNull_4 rfl (lv_at hl 1 rfl) ?_
    refine rr_aload_n hx hb d_ML_jobOrNull_5 rfl (lv_at hl 0 rfl) ?_
    obtain ⟨g_3, h⟩ := h
    refine rg_ML_jobCount E hp g_3 lk_88 d_ML_jobOrNull_6 (fun x_2 ex_2 => ?_)
    replace h := h x_2 ex_2
    refine lv_icmp_ge (tgt := 18) hx hb d_ML_jobOrNull_9 (by decide) (fun g_4 => ?_) (fun g_4 => ?_)
    · replace h := h.1 g_4
      exact t_ML_jobOrNull_18 E hr m _ _ _ h hp hS (lv_sub hl [] rfl)
    · replace h := h.2 g_4
      refine lv_iload_n hx hb d_ML_jobOrNull_12 rfl (lv_at hl 1 rfl) ?_
      refine lv_bipush (v := 20) hx hb d_ML_jobOrNull_13 (by decide) ?_
      refine lv_icmp_lt (tgt := 20) hx hb d_ML_jobOrNull_15 (by decide) (fun g_5 => ?_) (fun g_5 => ?_)
      · replace h := h.1 g_5
        refine rr_aload_n hx hb d_ML_jobOrNull_20 rfl (lv_at hl 0 rfl) ?_
        obtain ⟨g_7, h⟩ := h
        refine rg_ML_jobs E hp g_7 lk_83 d_ML_jobOrNull_21 (fun x_6 ex_6 => ?_)
        replace h := h x_6 ex_6
        refine lv_iload_n hx hb d_ML_jobOrNull_24 rfl (lv_at hl 1 rfl) ?_
        obtain ⟨g_9, g_10, h⟩ := h
        refine mp_aald (t0 := 0) E hp g_9 (by decide) rfl rfl g_10 d_ML_jobOrNull_25 (fun x_8 ex_8 => ?_)
        replace h := h x_8 ex_8
        exact mp_aret E hr (Or.inl ⟨_, rfl⟩) hp hS h d_ML_jobOrNull_26
      · replace h := h.2 g_5
        exact t_ML_jobOrNull_18 E hr m _ _ _ h hp hS (lv_sub hl [] rfl)
set_option maxHeartbeats 4000000 in
set_option maxRecDepth 100000 in
theorem c_ML_jobOrNull (l : Launch) (G : Gc) (m : Mm) (v0 : Nat) (v1 : Int32) (P : Nat → Mm → Prop) (h : wp_ML_jobOrNull m v0 v1 P) : Met l y_ML_jobOrNull (Cond.code y_ML_jobOrNull b_ML_jobOrNull 2 (some (.object "MachineLoop$Job")) :: lw_good) rm_ML_jobOrNull (Pre9 G m [rn v0, .int v1]) (PoR G P) 0 0 (fr G) := by
  refine Met.ofW (cc := b_ML_jobOrNull) (maxL := 2) (ret := (some (.object "MachineLoop$Job"))) (by decide) rfl ?_
  intro p e s mt args below meth c s₁ B hml hv
  obtain ⟨rfl, hp, hC⟩ := hv
  have hts := atoms_spec (ws := Cond.code y_ML_jobOrNull b_ML_jobOrNull 2 (some (.object "MachineLoop$Job")) :: lw_good) B.pre
  have E : En G R_ML b_ML_jobOrNull 2 p s mt _ meth c := ⟨B.exec, B.bytes, hml, findClass_of_methodNamed B.named, fun w hw => hts w (List.mem_cons_of_mem _ hw), hC, B.notSynchronized⟩
  have hr := B.returns
  have hl := lv_entry [rn v0, .int v1] (n := 2) (by simp [lg_sl, rn_cat, cat_int, cat_long, cat_ref, cat_null])
  rw [lg_entry_eq]
  generalize (lg_sl [rn v0, .int v1] ++ List.replicate (2 - (lg_sl [rn v0, .int v1]).length) Slot.unset).toArray = ls at hl ⊢
  have hl : lv_has ls 2 [(0, rn v0), (1, .int v1)] := by simpa [lv_args, rn_cat, cat_int, cat_long, cat_ref, cat_null] using hl
  exact t_ML_jobOrNull_0 E hr m v0 v1 _ _ _ h hp va_S.rf (lv_sub hl [0, 1] rfl)
abbrev rm_Job_append : Room := { frames := 0, cells := 0, slots := 0, locals := 0 }
set_option maxHeartbeats 4000000 in
set_option maxRecDepth 100000 in
theorem t_Job_append_0 {G : Gc} {P : Int32 → Mm → Prop} (E : En G R_Job b_Job_append 2 p s mt args meth c) (hr : meth.sig.returnType = some .int) (m : Mm) (v0 : Nat) (v1 : Int32) (H : Heap) (locs : List Loc) (ls : Array Slot) (h : wp_Job_append_0 P m v0 v1) (hp : pic G m H) (hS : va_S (fr G) s.heap H locs) (hl : lv_has ls 2 [(0, rn v0), (1, .int v1)]) : W p l e rm_Job_append s mt args below meth c H locs 0 0 (MQ below (PoI G P) args s 0 0 (fr G)) (F0 mt 0 ls []) := by
  have hx := E.1
  have hb := E.2.1
  unfold wp_Job_append_0 at h
  refine rr_aload_n hx hb d_Job_append_0 rfl (lv_at hl 0 rfl) ?_
  obtain ⟨g_2, h⟩ := h
  refine rg_Job_length E hp g_2 lk_93 d_Job_append_1 (fun x_1 ex_1 => ?_)
  replace h := h x_1 ex_1
  refine lv_sipush (v := 200) hx hb d_Job_append_4 (by decide) ?_
  refine lv_icmp_lt (tgt := 13) hx hb d_Job_append_7 (by decide) (fun g_3 => ?_) (fun g_3 => ?_)
  · replace h := h.1 g_3
    refine rr_aload_n hx hb d_Job_append_13 rfl (lv_at hl 0 rfl) ?_
    obtain ⟨g_5, h⟩ := h
    refine rg_Job_signs E hp g_5 lk_91 d_Job_append_14 (fun x_4 ex_4 => ?_)
    replace h := h x_4 ex_4
    refine rr_aload_n hx hb d_Job_append_17 rfl (lv_at hl 0 rfl) ?_
    obtain ⟨g_7, h⟩ := h
    refine rg_Job_length E hp g_7 lk_93 d_Job_append_18 (fun x_6 ex_6 => ?_)
    replace h := h x_6 ex_6
    refine lv_iload_n hx hb d_Job_append_21 rfl (lv_at hl 1 rfl) ?_
    obtain ⟨g_8, g_9, h⟩ := h
    refine mp_bast (t0 := 4) E hp hS g_8 (by decide) rfl cw_24 rfl g_9 d_Job_append_22 (fun m_10 em_10 H locs hp hS => ?_)
    replace h := h m_10 em_10
    refine rr_aload_n hx hb d_Job_append_23 rfl (lv_at hl 0 rfl) ?_
    refine lv_dup hx hb d_Job_append_24 (rn_cat _) ?_
    obtain ⟨g_12, h⟩ := h
    refine rg_Job_length E hp g_12 lk_93 d_Job_append_25 (fun x_11 ex_11 => ?_)
    replace h := h x_11 ex_11
    refine lv_iconst (v := 1) hx hb d_Job_append_28 (by decide) ?_
    refine lv_iadd hx hb d_Job_append_29 ?_
    refine lv_topi (fun x_13 ex_13 => ?_)
    replace h := h x_13 ex_13
    obtain ⟨g_14, h⟩ := h
    refine rp_Job_length E hp hS g_14 lk_93 d_Job_append_30 (fun m_15 em_15 H locs hp hS => ?_)
    replace h := h m_15 em_15
    refine rr_aload_n hx hb d_Job_append_33 rfl (lv_at hl 0 rfl) ?_
    obtain ⟨g_17, h⟩ := h
    refine rg_Job_length E hp g_17 lk_93 d_Job_append_34 (fun x_16 ex_16 => ?_)
    replace h := h x_16 ex_16
    exact mp_iret E hr hp hS h d_Job_append_37
  · replace h := h.2 g_3
    refine lv_bipush (v := (-4)) hx hb d_Job_append_10 (by decide) ?_
    exact mp_iret E hr hp hS h d_Job_append_12
set_option maxHeartbeats 4000000 in
set_option maxRecDepth 100000 in
theorem c_Job_append (l : Launch) (G : Gc) (m : Mm) (v0 : Nat) (v1 : Int32) (P : Int32 → Mm → Prop) (h : wp_Job_append m v0 v1 P) : Met l y_Job_append (Cond.code y_Job_append b_Job_append 2 (some .int) :: lw_good) rm_Job_append (Pre9 G m [rn v0, .int v1]) (PoI G P) 0 0 (fr G) := by
  refine Met.ofW (cc := b_Job_append) (maxL := 2) (ret := (some .int)) (by decide) rfl ?_
  intro p e s mt args below meth c s₁ B hml hv
  obtain ⟨rfl, hp, hC⟩ := hv
  have hts := atoms_spec (ws := Cond.code y_Job_append b_Job_append 2 (some .int) :: lw_good) B.pre
  have E : En G R_Job b_Job_append 2 p s mt _ meth c := ⟨B.exec, B.bytes, hml, findClass_of_methodNamed B.named, fun w hw => hts w (List.mem_cons_of_mem _ hw), hC, B.notSynchronized⟩
  have hr := B.returns
  have hl := lv_entry [rn v0, .int v1] (n := 2) (by simp [lg_sl, rn_cat, cat_int, cat_long, cat_ref, cat_null])
  rw [lg_entry_eq]
  generalize (lg_sl [rn v0, .int v1] ++ List.replicate (2 - (lg_sl [rn v0, .int v1]).length) Slot.unset).toArray = ls at hl ⊢
  have hl : lv_has ls 2 [(0, rn v0), (1, .int v1)] := by simpa [lv_args, rn_cat, cat_int, cat_long, cat_ref, cat_null] using hl
  exact t_Job_append_0 E hr m v0 v1 _ _ _ h hp va_S.rf (lv_sub hl [0, 1] rfl)
abbrev rm_ML_add : Room := { frames := 1, cells := 0, slots := 0, locals := 21 }
set_option maxHeartbeats 4000000 in
set_option maxRecDepth 100000 in
theorem t_ML_add_0 {G : Gc} {P : Int32 → Mm → Prop} (E : En G R_ML b_ML_add 4 p s mt args meth c) (hr : meth.sig.returnType = some .int) (m : Mm) (v0 : Nat) (v1 : Int32) (v2 : Int32) (H : Heap) (locs : List Loc) (ls : Array Slot) (h : wp_ML_add_0 P m v0 v1 v2) (hp : pic G m H) (hS : va_S (fr G) s.heap H locs) (hl : lv_has ls 4 [(0, rn v0), (1, .int v1), (2, .int v2)]) : W p l e rm_ML_add s mt args below meth c H locs 0 0 (MQ below (PoI G P) args s 0 0 (fr G)) (F0 mt 0 ls []) := by
  have hx := E.1
  have hb := E.2.1
  unfold wp_ML_add_0 at h
  refine rr_aload_n hx hb d_ML_add_0 rfl (lv_at hl 0 rfl) ?_
  refine lv_iload_n hx hb d_ML_add_1 rfl (lv_at hl 1 rfl) ?_
  obtain ⟨g_3, h⟩ := h
  refine mc_r hS (mc_runV (As := [.int v1]) (rest := []) E (c_ML_jobOrNull l G m v0 v1 _ h) wd_ML_jobOrNull ⟨lk_102, lk_103, lk_104⟩ rfl rfl ⟨Nat.le_of_ble_eq_true rfl, Nat.le_of_ble_eq_true rfl⟩ hp hS g_3 (by decide) rfl rfl rfl hl.1 rfl (lv_room (Nat.le_of_ble_eq_true rfl)) d_ML_add_2 ⟨Nat.le_of_ble_eq_true rfl, Nat.le_of_ble_eq_true rfl⟩) (fun r_2 m_1 h H locs hp hS => ?_)
  try dsimp only at h
  refine rr_astore_n (lv' := [(3, rn r_2), (0, rn v0), (1, .int v1), (2, .int v2)]) hx hb d_ML_add_5 rfl hl (by decide) rfl (fun ls hl => ?_)
  refine rr_aload_n hx hb d_ML_add_6 rfl (lv_at hl 0 rfl) ?_
  refine rr_ifnonnull (tgt := 12) hx hb d_ML_add_7 (by decide) (fun g_4 => ?_) (fun g_4 => ?_)
  · replace h := h.2 g_4
    refine rr_aload_n hx hb d_ML_add_12 rfl (lv_at hl 0 rfl) ?_
    obtain ⟨g_6, h⟩ := h
    refine rg_Job_outcome E hp g_6 lk_105 d_ML_add_13 (fun x_5 ex_5 => ?_)
    replace h := h x_5 ex_5
    refine lv_if_eq (tgt := 22) hx hb d_ML_add_16 (by decide) (fun g_7 => ?_) (fun g_7 => ?_)
    · replace h := h.1 g_7
      refine rr_aload_n hx hb d_ML_add_22 rfl (lv_at hl 0 rfl) ?_
      refine lv_iload_n hx hb d_ML_add_23 rfl (lv_at hl 3 rfl) ?_
      obtain ⟨g_10, h⟩ := h
      refine mc_i hS (mc_runV (As := [.int v2]) (rest := []) E (c_Job_append l G m_1 r_2 v2 _ h) wd_Job_append ⟨lk_106, lk_107, lk_108⟩ rfl rfl ⟨Nat.le_of_ble_eq_true rfl, Nat.le_of_ble_eq_true rfl⟩ hp hS g_10 (by decide) rfl rfl rfl hl.1 rfl (lv_room (Nat.le_of_ble_eq_true rfl)) d_ML_add_24 ⟨Nat.le_of_ble_eq_true rfl, Nat.le_of_ble_eq_true rfl⟩) (fun r_9 m_8 h H locs hp hS => ?_)
      try dsimp only at h
      exact mp_iret E hr hp hS h d_ML_add_27
    · replace h := h.2 g_7
      refine lv_bipush (v := (-3)) hx hb d_ML_add_19 (by decide) ?_
      exact mp_iret E hr hp hS h d_ML_add_21
  · replace h := h.1 g_4
    refine lv_iconst (v := (-1)) hx hb d_ML_add_10 (by decide) ?_
    exact mp_iret E hr hp hS h d_ML_add_11
set_option maxHeartbeats 4000000 in
set_option maxRecDepth 100000 in
theorem c_ML_add (l : Launch) (G : Gc) (m : Mm) (v0 : Nat) (v1 : Int32) (v2 : Int32) (P : Int32 → Mm → Prop) (h : wp_ML_add m v0 v1 v2 P) : Met l y_ML_add (Cond.code y_ML_add b_ML_add 4 (some .int) :: lw_good) rm_ML_add (Pre9 G m [rn v0, .int v1, .int v2]) (PoI G P) 0 0 (fr G) := by
  refine Met.ofW (cc := b_ML_add) (maxL := 4) (ret := (some .int)) (by decide) rfl ?_
  intro p e s mt args below meth c s₁ B hml hv
  obtain ⟨rfl, hp, hC⟩ := hv
  have hts := atoms_spec (ws := Cond.code y_ML_add b_ML_add 4 (some .int) :: lw_good) B.pre
  have E : En G R_ML b_ML_add 4 p s mt _ meth c := ⟨B.exec, B.bytes, hml, findClass_of_methodNamed B.named, fun w hw => hts w (List.mem_cons_of_mem _ hw), hC, B.notSynchronized⟩
  have hr := B.returns
  have hl := lv_entry [rn v0, .int v1, .int v2] (n := 4) (by simp [lg_sl, rn_cat, cat_int, cat_long, cat_ref, cat_null])
  rw [lg_entry_eq]
  generalize (lg_sl [rn v0, .int v1, .int v2] ++ List.replicate (4 - (lg_sl [rn v0, .int v1, .int v2]).length) Slot.unset).toArray = ls at hl ⊢
  have hl : lv_has ls 4 [(0, rn v0), (1, .int v1), (2, .int v2)] := by simpa [lv_args, rn_cat, cat_int, cat_long, cat_ref, cat_null] using hl
  exact t_ML_add_0 E hr m v0 v1 v2 _ _ _ h hp va_S.rf (lv_sub hl [0, 1, 2] rfl)
abbrev rm_Device_keep : Room := { frames := 1, cells := 0, slots := 0, locals := 64 }
set_option maxHeartbeats 4000000 in
set_option maxRecDepth 100000 in
theorem t_Device_keep_0 {G : Gc} {P : Mm → Prop} (E : En G R_Device b_Device_keep 1 p s mt args meth c) (hr : meth.sig.returnType = none) (m : Mm) (v0 : Nat) (H : Heap) (locs : List Loc) (ls : Array Slot) (h : wp_Device_keep_0 P m v0) (hp : pic G m H) (hS : va_S (fr G) s.heap H locs) (hl : lv_has ls 1 [(0, rn v0)]) : W p l e rm_Device_keep s mt args below meth c H locs 0 0 (MQ below (PoV G P) args s 0 0 (fr G)) (F0 mt 0 ls []) := by
  have hx := E.1
  have hb := E.2.1
  unfold wp_Device_keep_0 at h
  refine rr_aload_n hx hb d_Device_keep_0 rfl (lv_at hl 0 rfl) ?_
  obtain ⟨g_2, h⟩ := h
  refine rg_Device_settings E hp g_2 lk_0 d_Device_keep_1 (fun x_1 ex_1 => ?_)
  replace h := h x_1 ex_1
  refine lv_iconst (v := 0) hx hb d_Device_keep_4 (by decide) ?_
  refine rr_aload_n hx hb d_Device_keep_5 rfl (lv_at hl 0 rfl) ?_
  obtain ⟨g_4, h⟩ := h
  refine rg_Device_kept E hp g_4 lk_4 d_Device_keep_6 (fun x_3 ex_3 => ?_)
  replace h := h x_3 ex_3
  refine lv_iconst (v := 0) hx hb d_Device_keep_9 (by decide) ?_
  refine lv_iconst (v := 4) hx hb d_Device_keep_10 (by decide) ?_
  obtain ⟨g_6, g_7, g_8, g_9, g_10, g_11, g_12, h⟩ := h
  refine mp_copyi (t0 := 1) E hp hS hl.1 ⟨lk_109, lk_110, lk_111, lk_112⟩ g_6 (by decide) rfl g_7 (by decide) rfl cc_15 rfl rfl g_8 g_9 g_10 g_11 g_12 (by decide) (by simp [rn_cat, cat_int, cat_long, cat_ref, cat_null, nativeFrameWords, rm_Device_keep]) d_Device_keep_11 (fun m_5 em_5 H locs hp hS => ?_)
  replace h := h m_5 em_5
  exact mp_vret E hr hp hS h d_Device_keep_14
set_option maxHeartbeats 4000000 in
set_option maxRecDepth 100000 in
theorem c_Device_keep (l : Launch) (G : Gc) (m : Mm) (v0 : Nat) (P : Mm → Prop) (h : wp_Device_keep m v0 P) : Met l y_Device_keep (Cond.code y_Device_keep b_Device_keep 1 none :: lw_good) rm_Device_keep (Pre9 G m [rn v0]) (PoV G P) 0 0 (fr G) := by
  refine Met.ofW (cc := b_Device_keep) (maxL := 1) (ret := none) (by decide) rfl ?_
  intro p e s mt args below meth c s₁ B hml hv
  obtain ⟨rfl, hp, hC⟩ := hv
  have hts := atoms_spec (ws := Cond.code y_Device_keep b_Device_keep 1 none :: lw_good) B.pre
  have E : En G R_Device b_Device_keep 1 p s mt _ meth c := ⟨B.exec, B.bytes, hml, findClass_of_methodNamed B.named, fun w hw => hts w (List.mem_cons_of_mem _ hw), hC, B.notSynchronized⟩
  have hr := B.returns
  have hl := lv_entry [rn v0] (n := 1) (by simp [lg_sl, rn_cat, cat_int, cat_long, cat_ref, cat_null])
  rw [lg_entry_eq]
  generalize (lg_sl [rn v0] ++ List.replicate (1 - (lg_sl [rn v0]).length) Slot.unset).toArray = ls at hl ⊢
  have hl : lv_has ls 1 [(0, rn v0)] := by simpa [lv_args, rn_cat, cat_int, cat_long, cat_ref, cat_null] using hl
  exact t_Device_keep_0 E hr m v0 _ _ _ h hp va_S.rf (lv_sub hl [0] rfl)
abbrev rm_Resources_keep : Room := { frames := 1, cells := 0, slots := 0, locals := 64 }
set_option maxHeartbeats 4000000 in
set_option maxRecDepth 100000 in
theorem t_Resources_keep_0 {G : Gc} {P : Mm → Prop} (E : En G R_Resources b_Resources_keep 1 p s mt args meth c) (hr : meth.sig.returnType = none) (m : Mm) (v0 : Nat) (H : Heap) (locs : List Loc) (ls : Array Slot) (h : wp_Resources_keep_0 P m v0) (hp : pic G m H) (hS : va_S (fr G) s.heap H locs) (hl : lv_has ls 1 [(0, rn v0)]) : W p l e rm_Resources_keep s mt args below meth c H locs 0 0 (MQ below (PoV G P) args s 0 0 (fr G)) (F0 mt 0 ls []) := by
  have hx := E.1
  have hb := E.2.1
  unfold wp_Resources_keep_0 at h
  refine rr_aload_n hx hb d_Resources_keep_0 rfl (lv_at hl 0 rfl) ?_
  obtain ⟨g_2, h⟩ := h
  refine rg_Resources_values E hp g_2 lk_5 d_Resources_keep_1 (fun x_1 ex_1 => ?_)
  replace h := h x_1 ex_1
  refine lv_iconst (v := 0) hx hb d_Resources_keep_4 (by decide) ?_
  refine rr_aload_n hx hb d_Resources_keep_5 rfl (lv_at hl 0 rfl) ?_
  obtain ⟨g_4, h⟩ := h
  refine rg_Resources_kept E hp g_4 lk_7 d_Resources_keep_6 (fun x_3 ex_3 => ?_)
  replace h := h x_3 ex_3
  refine lv_iconst (v := 0) hx hb d_Resources_keep_9 (by decide) ?_
  refine rr_aload_n hx hb d_Resources_keep_10 rfl (lv_at hl 0 rfl) ?_
  obtain ⟨g_6, h⟩ := h
  refine rg_Resources_values E hp g_6 lk_5 d_Resources_keep_11 (fun x_5 ex_5 => ?_)
  replace h := h x_5 ex_5
  obtain ⟨g_8, h⟩ := h
  refine mp_alen (t0 := 1) E hp g_8 (by decide) rfl rfl d_Resources_keep_14 (fun x_7 ex_7 => ?_)
  replace h := h x_7 ex_7
  obtain ⟨g_10, g_11, g_12, g_13, g_14, g_15, g_16, h⟩ := h
  refine mp_copyi (t0 := 1) E hp hS hl.1 ⟨lk_113, lk_110, lk_111, lk_112⟩ g_10 (by decide) rfl g_11 (by decide) rfl cc_17 rfl rfl g_12 g_13 g_14 g_15 g_16 (by decide) (by simp [rn_cat, cat_int, cat_long, cat_ref, cat_null, nativeFrameWords, rm_Resources_keep]) d_Resources_keep_15 (fun m_9 em_9 H locs hp hS => ?_)
  replace h := h m_9 em_9
  exact mp_vret E hr hp hS h d_Resources_keep_18
set_option maxHeartbeats 4000000 in
set_option maxRecDepth 100000 in
theorem c_Resources_keep (l : Launch) (G : Gc) (m : Mm) (v0 : Nat) (P : Mm → Prop) (h : wp_Resources_keep m v0 P) : Met l y_Resources_keep (Cond.code y_Resources_keep b_Resources_keep 1 none :: lw_good) rm_Resources_keep (Pre9 G m [rn v0]) (PoV G P) 0 0 (fr G) := by
  refine Met.ofW (cc := b_Resources_keep) (maxL := 1) (ret := none) (by decide) rfl ?_
  intro p e s mt args below meth c s₁ B hml hv
  obtain ⟨rfl, hp, hC⟩ := hv
  have hts := atoms_spec (ws := Cond.code y_Resources_keep b_Resources_keep 1 none :: lw_good) B.pre
  have E : En G R_Resources b_Resources_keep 1 p s mt _ meth c := ⟨B.exec, B.bytes, hml, findClass_of_methodNamed B.named, fun w hw => hts w (List.mem_cons_of_mem _ hw), hC, B.notSynchronized⟩
  have hr := B.returns
  have hl := lv_entry [rn v0] (n := 1) (by simp [lg_sl, rn_cat, cat_int, cat_long, cat_ref, cat_null])
  rw [lg_entry_eq]
  generalize (lg_sl [rn v0] ++ List.replicate (1 - (lg_sl [rn v0]).length) Slot.unset).toArray = ls at hl ⊢
  have hl : lv_has ls 1 [(0, rn v0)] := by simpa [lv_args, rn_cat, cat_int, cat_long, cat_ref, cat_null] using hl
  exact t_Resources_keep_0 E hr m v0 _ _ _ h hp va_S.rf (lv_sub hl [0] rfl)
abbrev rm_FileTree_handleOrNull : Room := { frames := 0, cells := 0, slots := 0, locals := 0 }
set_option maxHeartbeats 4000000 in
set_option maxRecDepth 100000 in
theorem t_FileTree_handleOrNull_11 {G : Gc} {P : Nat → Mm → Prop} (E : En G R_FileTree b_FileTree_handleOrNull 2 p s mt args meth c) (hr : meth.sig.returnType = some (.object "MachineLoop$Handle")) (m : Mm) (H : Heap) (locs : List Loc) (ls : Array Slot) (h : wp_FileTree_handleOrNull_11 P m) (hp : pic G m H) (hS : va_S (fr G) s.heap H locs) (hl : lv_has ls 2 []) : W p l e rm_FileTree_handleOrNull s mt args below meth c H locs 0 0 (MQ below (PoR G P) args s 0 0 (fr G)) (F0 mt 11 ls []) := by
  have hx := E.1
  have hb := E.2.1
  unfold wp_FileTree_handleOrNull_11 at h
  refine rr_null hx hb d_FileTree_handleOrNull_11 ?_
  refine lv_goto (tgt := 21) hx hb d_FileTree_handleOrNull_12 (by decide) ?_
  exact mp_aret E hr (Or.inl ⟨_, rfl⟩) hp hS h d_FileTree_handleOrNull_21
set_option maxHeartbeats 4000000 in
set_option maxRecDepth 100000 in
theorem t_FileTree_handleOrNull_0 {G : Gc} {P : Nat → Mm → Prop} (E : En G R_FileTree b_FileTree_handleOrNull 2 p s mt args meth c) (hr : meth.sig.returnType = some (.object "MachineLoop$Handle")) (m : Mm) (v0 : Nat) (v1 : Int32) (H : Heap) (locs : List Loc) (ls : Array Slot) (h : wp_FileTree_handleOrNull_0 P m v0 v1) (hp : pic G m H) (hS : va_S (fr G) s.heap H locs) (hl : lv_has ls 2 [(0, rn v0), (1, .int v1)]) : W p l e rm_FileTree_handleOrNull s mt args below meth c H locs 0 0 (MQ below (PoR G P) args s 0 0 (fr G)) (F0 mt 0 ls []) := by
  have hx := E.1
  have hb := E.2.1
  unfold wp_FileTree_handleOrNull_0 at h
  refine lv_iload_n hx hb d_FileTree_handleOrNull_0 rfl (lv_at hl 1 rfl) ?_
  refine lv_iconst (v := 1) hx hb d_FileTree_handleOrNull_1 (by decide) ?_
  refine lv_icmp_lt (tgt := 11) hx hb d_FileTree_handleOrNull_2 (by decide) (fun g_1 => ?_) (fun g_1 => ?_)
  · replace h := h.1 g_1
    exact t_FileTree_handleOrNull_11 E hr m _ _ _ h hp hS (lv_sub hl [] rfl)
  · replace h := h.2 g_1
    refine lv_iload_n hx hb d_FileTree_handleOrNull_5 rfl (lv_at hl 1 rfl) ?_
    refine lv_bipush (v := 7) hx hb d_FileTree_handleOrNull_6 (by decide) ?_
    refine lv_icmp_le (tgt := 15) hx hb d_FileTree_handleOrNull_8 (by decide) (fun g_2 => ?_) (fun g_2 => ?_)
    · replace h := h.1 g_2
      refine rr_aload_n hx hb d_FileTree_handleOrNull_15 rfl (lv_at hl 0 rfl) ?_
      obtain ⟨g_4, h⟩ := h
      refine rg_FileTree_handles E hp g_4 lk_27 d_FileTree_handleOrNull_16 (fun x_3 ex_3 => ?_)
      replace h := h x_3 ex_3
      refine lv_iload_n hx hb d_FileTree_handleOrNull_19 rfl (lv_at hl 1 rfl) ?_
      obtain ⟨g_6, g_7, h⟩ := h
      refine mp_aald (t0 := 3) E hp g_6 (by decide) rfl rfl g_7 d_FileTree_handleOrNull_20 (fun x_5 ex_5 => ?_)
      replace h := h x_5 ex_5
      exact mp_aret E hr (Or.inl ⟨_, rfl⟩) hp hS h d_FileTree_handleOrNull_21
    · replace h := h.2 g_2
      exact t_FileTree_handleOrNull_11 E hr m _ _ _ h hp hS (lv_sub hl [] rfl)
set_option maxHeartbeats 4000000 in
set_option maxRecDepth 100000 in
theorem c_FileTree_handleOrNull (l : Launch) (G : Gc) (m : Mm) (v0 : Nat) (v1 : Int32) (P : Nat → Mm → Prop) (h : wp_FileTree_handleOrNull m v0 v1 P) : Met l y_FileTree_handleOrNull (Cond.code y_FileTree_handleOrNull b_FileTree_handleOrNull 2 (some (.object "MachineLoop$Handle")) :: lw_good) rm_FileTree_handleOrNull (Pre9 G m [rn v0, .int v1]) (PoR G P) 0 0 (fr G) := by
  refine Met.ofW (cc := b_FileTree_handleOrNull) (maxL := 2) (ret := (some (.object "MachineLoop$Handle"))) (by decide) rfl ?_
  intro p e s mt args below meth c s₁ B hml hv
  obtain ⟨rfl, hp, hC⟩ := hv
  have hts := atoms_spec (ws := Cond.code y_FileTree_handleOrNull b_FileTree_handleOrNull 2 (some (.object "MachineLoop$Handle")) :: lw_good) B.pre
  have E : En G R_FileTree b_FileTree_handleOrNull 2 p s mt _ meth c := ⟨B.exec, B.bytes, hml, findClass_of_methodNamed B.named, fun w hw => hts w (List.mem_cons_of_mem _ hw), hC, B.notSynchronized⟩
  have hr := B.returns
  have hl := lv_entry [rn v0, .int v1] (n := 2) (by simp [lg_sl, rn_cat, cat_int, cat_long, cat_ref, cat_null])
  rw [lg_entry_eq]
  generalize (lg_sl [rn v0, .int v1] ++ List.replicate (2 - (lg_sl [rn v0, .int v1]).length) Slot.unset).toArray = ls at hl ⊢
  have hl : lv_has ls 2 [(0, rn v0), (1, .int v1)] := by simpa [lv_args, rn_cat, cat_int, cat_long, cat_ref, cat_null] using hl
  exact t_FileTree_handleOrNull_0 E hr m v0 v1 _ _ _ h hp va_S.rf (lv_sub hl [0, 1] rfl)
abbrev rm_Handle_keepFilters : Room := { frames := 0, cells := 0, slots := 0, locals := 0 }
set_option maxHeartbeats 4000000 in
set_option maxRecDepth 100000 in
theorem t_Handle_keepFilters_0 {G : Gc} {P : Mm → Prop} (E : En G R_Handle b_Handle_keepFilters 1 p s mt args meth c) (hr : meth.sig.returnType = none) (m : Mm) (v0 : Nat) (H : Heap) (locs : List Loc) (ls : Array Slot) (h : wp_Handle_keepFilters_0 P m v0) (hp : pic G m H) (hS : va_S (fr G) s.heap H locs) (hl : lv_has ls 1 [(0, rn v0)]) : W p l e rm_Handle_keepFilters s mt args below meth c H locs 0 0 (MQ below (PoV G P) args s 0 0 (fr G)) (F0 mt 0 ls []) := by
  have hx := E.1
  have hb := E.2.1
  unfold wp_Handle_keepFilters_0 at h
  refine rr_aload_n hx hb d_Handle_keepFilters_0 rfl (lv_at hl 0 rfl) ?_
  refine rr_aload_n hx hb d_Handle_keepFilters_1 rfl (lv_at hl 0 rfl) ?_
  obtain ⟨g_2, h⟩ := h
  refine rg_Handle_filterCount E hp g_2 lk_20 d_Handle_keepFilters_2 (fun x_1 ex_1 => ?_)
  replace h := h x_1 ex_1
  obtain ⟨g_3, h⟩ := h
  refine rp_Handle_keptFilterCount E hp hS g_3 lk_21 d_Handle_keepFilters_5 (fun m_4 em_4 H locs hp hS => ?_)
  replace h := h m_4 em_4
  exact mp_vret E hr hp hS h d_Handle_keepFilters_8
set_option maxHeartbeats 4000000 in
set_option maxRecDepth 100000 in
theorem c_Handle_keepFilters (l : Launch) (G : Gc) (m : Mm) (v0 : Nat) (P : Mm → Prop) (h : wp_Handle_keepFilters m v0 P) : Met l y_Handle_keepFilters (Cond.code y_Handle_keepFilters b_Handle_keepFilters 1 none :: lw_good) rm_Handle_keepFilters (Pre9 G m [rn v0]) (PoV G P) 0 0 (fr G) := by
  refine Met.ofW (cc := b_Handle_keepFilters) (maxL := 1) (ret := none) (by decide) rfl ?_
  intro p e s mt args below meth c s₁ B hml hv
  obtain ⟨rfl, hp, hC⟩ := hv
  have hts := atoms_spec (ws := Cond.code y_Handle_keepFilters b_Handle_keepFilters 1 none :: lw_good) B.pre
  have E : En G R_Handle b_Handle_keepFilters 1 p s mt _ meth c := ⟨B.exec, B.bytes, hml, findClass_of_methodNamed B.named, fun w hw => hts w (List.mem_cons_of_mem _ hw), hC, B.notSynchronized⟩
  have hr := B.returns
  have hl := lv_entry [rn v0] (n := 1) (by simp [lg_sl, rn_cat, cat_int, cat_long, cat_ref, cat_null])
  rw [lg_entry_eq]
  generalize (lg_sl [rn v0] ++ List.replicate (1 - (lg_sl [rn v0]).length) Slot.unset).toArray = ls at hl ⊢
  have hl : lv_has ls 1 [(0, rn v0)] := by simpa [lv_args, rn_cat, cat_int, cat_long, cat_ref, cat_null] using hl
  exact t_Handle_keepFilters_0 E hr m v0 _ _ _ h hp va_S.rf (lv_sub hl [0] rfl)
abbrev rm_FileTree_keep : Room := { frames := 1, cells := 0, slots := 0, locals := 21 }
set_option maxHeartbeats 4000000 in
set_option maxRecDepth 100000 in
theorem t_FileTree_keep_22 {G : Gc} {P : Mm → Prop} (E : En G R_FileTree b_FileTree_keep 3 p s mt args meth c) (hr : meth.sig.returnType = none) {K2 : Mm → Nat → Int32 → Prop} (hK2 : ∀ (m : Mm) (v0 : Nat) (v1 : Int32) (H : Heap) (locs : List Loc) (ls : Array Slot), K2 m v0 v1 → pic G m H → va_S (fr G) s.heap H locs → lv_has ls 3 [(0, rn v0), (1, .int v1)] → W p l e rm_FileTree_keep s mt args below meth c H locs 0 0 (MQ below (PoV G P) args s 0 0 (fr G)) (F0 mt 2 ls [])) (m : Mm) (v0 : Nat) (v1 : Int32) (H : Heap) (locs : List Loc) (ls : Array Slot) (h : wp_FileTree_keep_22 K2 P m v0 v1) (hp : pic G m H) (hS : va_S (fr G) s.heap H locs) (hl : lv_has ls 3 [(0, rn v0), (1, .int v1)]) : W p l e rm_FileTree_keep s mt args below meth c H locs 0 0 (MQ below (PoV G P) args s 0 0 (fr G)) (F0 mt 22 ls []) := by
  have hx := E.1
  have hb := E.2.1
  unfold wp_FileTree_keep_22 at h
  obtain ⟨x_1, ex_1⟩ : ∃ y : Int32, y = v1 + 1 := ⟨_, rfl⟩
  replace h := h x_1 ex_1
  refine lv_iinc (v := x_1) (lv' := [(1, .int x_1), (0, rn v0)]) hx hb d_FileTree_keep_22 hl (k := 1) rfl (by rw [ex_1]; rfl) (by decide) (by simp [rn_cat]) (fun ls hl => ?_)
  refine lv_goto (tgt := 2) hx hb d_FileTree_keep_25 (by decide) ?_
  exact hK2 m v0 x_1 _ _ _ h hp hS (lv_sub hl [1, 0] rfl)
set_option maxHeartbeats 4000000 in
set_option maxRecDepth 100000 in
theorem t_FileTree_keep_2 {G : Gc} {P : Mm → Prop} (E : En G R_FileTree b_FileTree_keep 3 p s mt args meth c) (hr : meth.sig.returnType = none) : ∀ (n : Nat) (m : Mm) (v0 : Nat) (v1 : Int32) (H : Heap) (locs : List Loc) (ls : Array Slot) (_ : wp_FileTree_keep_2 P n m v0 v1) (_ : pic G m H) (_ : va_S (fr G) s.heap H locs) (_ : lv_has ls 3 [(0, rn v0), (1, .int v1)]), W p l e rm_FileTree_keep s mt args below meth c H locs 0 0 (MQ below (PoV G P) args s 0 0 (fr G)) (F0 mt 2 ls []) := by
  intro n
  induction n with
  | zero => intro m v0 v1 H locs ls h hp hS hl; exact h.elim
  | succ n ih =>
    intro m v0 v1 H locs ls h hp hS hl
    have hx := E.1
    have hb := E.2.1
    unfold wp_FileTree_keep_2 at h
    refine lv_iload_n hx hb d_FileTree_keep_2 rfl (lv_at hl 1 rfl) ?_
    refine lv_bipush (v := 7) hx hb d_FileTree_keep_3 (by decide) ?_
    refine lv_icmp_gt (tgt := 28) hx hb d_FileTree_keep_5 (by decide) (fun g_1 => ?_) (fun g_1 => ?_)
    · replace h := h.1 g_1
      exact mp_vret E hr hp hS h d_FileTree_keep_28
    · replace h := h.2 g_1
      refine rr_aload_n hx hb d_FileTree_keep_8 rfl (lv_at hl 0 rfl) ?_
      refine lv_iload_n hx hb d_FileTree_keep_9 rfl (lv_at hl 1 rfl) ?_
      obtain ⟨g_4, h⟩ := h
      refine mc_r hS (mc_runV (As := [.int v1]) (rest := []) E (c_FileTree_handleOrNull l G m v0 v1 _ h) wd_FileTree_handleOrNull ⟨lk_114, lk_115, lk_116⟩ rfl rfl ⟨Nat.le_of_ble_eq_true rfl, Nat.le_of_ble_eq_true rfl⟩ hp hS g_4 (by decide) rfl rfl rfl hl.1 rfl (lv_room (Nat.le_of_ble_eq_true rfl)) d_FileTree_keep_10 ⟨Nat.le_of_ble_eq_true rfl, Nat.le_of_ble_eq_true rfl⟩) (fun r_3 m_2 h H locs hp hS => ?_)
      try dsimp only at h
      refine rr_astore_n (lv' := [(2, rn r_3), (0, rn v0), (1, .int v1)]) hx hb d_FileTree_keep_13 rfl hl (by decide) rfl (fun ls hl => ?_)
      refine rr_aload_n hx hb d_FileTree_keep_14 rfl (lv_at hl 0 rfl) ?_
      refine rr_ifnull (tgt := 22) hx hb d_FileTree_keep_15 (by decide) (fun g_5 => ?_) (fun g_5 => ?_)
      · replace h := h.1 g_5
        exact t_FileTree_keep_22 E hr ih m_2 v0 v1 _ _ _ h hp hS (lv_sub hl [1, 2] rfl)
      · replace h := h.2 g_5
        refine rr_aload_n hx hb d_FileTree_keep_18 rfl (lv_at hl 0 rfl) ?_
        obtain ⟨g_8, h⟩ := h
        refine mc_v hS (mc_runV (As := []) (rest := []) E (c_Handle_keepFilters l G m_2 r_3 _ h) wd_Handle_keepFilters ⟨lk_117, lk_118, lk_119⟩ rfl rfl ⟨Nat.le_of_ble_eq_true rfl, Nat.le_of_ble_eq_true rfl⟩ hp hS g_8 (by decide) rfl rfl rfl hl.1 rfl (lv_room (Nat.le_of_ble_eq_true rfl)) d_FileTree_keep_19 ⟨Nat.le_of_ble_eq_true rfl, Nat.le_of_ble_eq_true rfl⟩) (fun m_6 h H locs hp hS => ?_)
        try dsimp only at h
        exact t_FileTree_keep_22 E hr ih m_6 v0 v1 _ _ _ h hp hS (lv_sub hl [1, 2] rfl)
set_option maxHeartbeats 4000000 in
set_option maxRecDepth 100000 in
theorem t_FileTree_keep_0 {G : Gc} {P : Mm → Prop} (E : En G R_FileTree b_FileTree_keep 3 p s mt args meth c) (hr : meth.sig.returnType = none) (m : Mm) (v0 : Nat) (H : Heap) (locs : List Loc) (ls : Array Slot) (h : wp_FileTree_keep_0 P m v0) (hp : pic G m H) (hS : va_S (fr G) s.heap H locs) (hl : lv_has ls 3 [(0, rn v0)]) : W p l e rm_FileTree_keep s mt args below meth c H locs 0 0 (MQ below (PoV G P) args s 0 0 (fr G)) (F0 mt 0 ls []) := by
  have hx := E.1
  have hb := E.2.1
  unfold wp_FileTree_keep_0 at h
  refine lv_iconst (v := 1) hx hb d_FileTree_keep_0 (by decide) ?_
  refine lv_istore_n (lv' := [(1, .int 1), (0, rn v0)]) hx hb d_FileTree_keep_1 rfl hl (by decide) (by simp [rn_cat]) (fun ls hl => ?_)
  obtain ⟨n_1, h⟩ := h
  exact t_FileTree_keep_2 E hr n_1 m v0 1 _ _ _ h hp hS (lv_sub hl [1, 0] rfl)
set_option maxHeartbeats 4000000 in
set_option maxRecDepth 100000 in
theorem c_FileTree_keep (l : Launch) (G : Gc) (m : Mm) (v0 : Nat) (P : Mm → Prop) (h : wp_FileTree_keep m v0 P) : Met l y_FileTree_keep (Cond.code y_FileTree_keep b_FileTree_keep 3 none :: lw_good) rm_FileTree_keep (Pre9 G m [rn v0]) (PoV G P) 0 0 (fr G) := by
  refine Met.ofW (cc := b_FileTree_keep) (maxL := 3) (ret := none) (by decide) rfl ?_
  intro p e s mt args below meth c s₁ B hml hv
  obtain ⟨rfl, hp, hC⟩ := hv
  have hts := atoms_spec (ws := Cond.code y_FileTree_keep b_FileTree_keep 3 none :: lw_good) B.pre
  have E : En G R_FileTree b_FileTree_keep 3 p s mt _ meth c := ⟨B.exec, B.bytes, hml, findClass_of_methodNamed B.named, fun w hw => hts w (List.mem_cons_of_mem _ hw), hC, B.notSynchronized⟩
  have hr := B.returns
  have hl := lv_entry [rn v0] (n := 3) (by simp [lg_sl, rn_cat, cat_int, cat_long, cat_ref, cat_null])
  rw [lg_entry_eq]
  generalize (lg_sl [rn v0] ++ List.replicate (3 - (lg_sl [rn v0]).length) Slot.unset).toArray = ls at hl ⊢
  have hl : lv_has ls 3 [(0, rn v0)] := by simpa [lv_args, rn_cat, cat_int, cat_long, cat_ref, cat_null] using hl
  exact t_FileTree_keep_0 E hr m v0 _ _ _ h hp va_S.rf (lv_sub hl [0] rfl)
abbrev rm_Job_signAt : Room := { frames := 0, cells := 0, slots := 0, locals := 0 }
set_option maxHeartbeats 4000000 in
set_option maxRecDepth 100000 in
theorem t_Job_signAt_12 {G : Gc} {P : Int32 → Mm → Prop} (E : En G R_Job b_Job_signAt 2 p s mt args meth c) (hr : meth.sig.returnType = some .int) (m : Mm) (H : Heap) (locs : List Loc) (ls : Array Slot) (h : wp_Job_signAt_12 P m) (hp : pic G m H) (hS : va_S (fr G) s.heap H locs) (hl : lv_has ls 2 []) : W p l e rm_Job_signAt s mt args below meth c H locs 0 0 (MQ below (PoI G P) args s 0 0 (fr G)) (F0 mt 12 ls []) := by
  have hx := E.1
  have hb := E.2.1
  unfold wp_Job_signAt_12 at h
  refine lv_iconst (v := (-1)) hx hb d_Job_signAt_12 (by decide) ?_
  refine lv_goto (tgt := 22) hx hb d_Job_signAt_13 (by decide) ?_
  exact mp_iret E hr hp hS h d_Job_signAt_22
set_option maxHeartbeats 4000000 in
set_option maxRecDepth 100000 in
theorem t_Job_signAt_0 {G : Gc} {P : Int32 → Mm → Prop} (E : En G R_Job b_Job_signAt 2 p s mt args meth c) (hr : meth.sig.returnType = some .int) (m : Mm) (v0 : Nat) (v1 : Int32) (H : Heap) (locs : List Loc) (ls : Array Slot) (h : wp_Job_signAt_0 P m v0 v1) (hp : pic G m H) (hS : va_S (fr G) s.heap H locs) (hl : lv_has ls 2 [(0, rn v0), (1, .int v1)]) : W p l e rm_Job_signAt s mt args below meth c H locs 0 0 (MQ below (PoI G P) args s 0 0 (fr G)) (F0 mt 0 ls []) := by
  have hx := E.1
  have hb := E.2.1
  unfold wp_Job_signAt_0 at h
  refine lv_iload_n hx hb d_Job_signAt_0 rfl (lv_at hl 1 rfl) ?_
  refine lv_if_lt (tgt := 12) hx hb d_Job_signAt_1 (by decide) (fun g_1 => ?_) (fun g_1 => ?_)
  · replace h := h.1 g_1
    exact t_Job_signAt_12 E hr m _ _ _ h hp hS (lv_sub hl [] rfl)
  · replace h := h.2 g_1
    refine lv_iload_n hx hb d_Job_signAt_4 rfl (lv_at hl 1 rfl) ?_
    refine rr_aload_n hx hb d_Job_signAt_5 rfl (lv_at hl 0 rfl) ?_
    obtain ⟨g_3, h⟩ := h
    refine rg_Job_length E hp g_3 lk_93 d_Job_signAt_6 (fun x_2 ex_2 => ?_)
    replace h := h x_2 ex_2
    refine lv_icmp_lt (tgt := 16) hx hb d_Job_signAt_9 (by decide) (fun g_4 => ?_) (fun g_4 => ?_)
    · replace h := h.1 g_4
      refine rr_aload_n hx hb d_Job_signAt_16 rfl (lv_at hl 0 rfl) ?_
      obtain ⟨g_6, h⟩ := h
      refine rg_Job_signs E hp g_6 lk_91 d_Job_signAt_17 (fun x_5 ex_5 => ?_)
      replace h := h x_5 ex_5
      refine lv_iload_n hx hb d_Job_signAt_20 rfl (lv_at hl 1 rfl) ?_
      obtain ⟨g_8, g_9, h⟩ := h
      refine mp_bald (t0 := 4) E hp g_8 (by decide) rfl rfl g_9 d_Job_signAt_21 (fun x_7 ex_7 => ?_)
      replace h := h x_7 ex_7
      exact mp_iret E hr hp hS h d_Job_signAt_22
    · replace h := h.2 g_4
      exact t_Job_signAt_12 E hr m _ _ _ h hp hS (lv_sub hl [] rfl)
set_option maxHeartbeats 4000000 in
set_option maxRecDepth 100000 in
theorem c_Job_signAt (l : Launch) (G : Gc) (m : Mm) (v0 : Nat) (v1 : Int32) (P : Int32 → Mm → Prop) (h : wp_Job_signAt m v0 v1 P) : Met l y_Job_signAt (Cond.code y_Job_signAt b_Job_signAt 2 (some .int) :: lw_good) rm_Job_signAt (Pre9 G m [rn v0, .int v1]) (PoI G P) 0 0 (fr G) := by
  refine Met.ofW (cc := b_Job_signAt) (maxL := 2) (ret := (some .int)) (by decide) rfl ?_
  intro p e s mt args below meth c s₁ B hml hv
  obtain ⟨rfl, hp, hC⟩ := hv
  have hts := atoms_spec (ws := Cond.code y_Job_signAt b_Job_signAt 2 (some .int) :: lw_good) B.pre
  have E : En G R_Job b_Job_signAt 2 p s mt _ meth c := ⟨B.exec, B.bytes, hml, findClass_of_methodNamed B.named, fun w hw => hts w (List.mem_cons_of_mem _ hw), hC, B.notSynchronized⟩
  have hr := B.returns
  have hl := lv_entry [rn v0, .int v1] (n := 2) (by simp [lg_sl, rn_cat, cat_int, cat_long, cat_ref, cat_null])
  rw [lg_entry_eq]
  generalize (lg_sl [rn v0, .int v1] ++ List.replicate (2 - (lg_sl [rn v0, .int v1]).length) Slot.unset).toArray = ls at hl ⊢
  have hl : lv_has ls 2 [(0, rn v0), (1, .int v1)] := by simpa [lv_args, rn_cat, cat_int, cat_long, cat_ref, cat_null] using hl
  exact t_Job_signAt_0 E hr m v0 v1 _ _ _ h hp va_S.rf (lv_sub hl [0, 1] rfl)
end WK
