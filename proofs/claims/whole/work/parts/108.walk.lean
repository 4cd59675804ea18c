section WK
variable {p : Program} {l : Launch} {e : Env} {s : State} {mt : MethodId} {args : Array Value} {below : List Frame} {meth : Method} {c : Code}
abbrev rm_Machine_execute : Room := { frames := 5, cells := 0, slots := 0, locals := 121 }
set_option maxHeartbeats 4000000 in
set_option maxRecDepth 100000 in
theorem t_Machine_execute_114 {G : Gc} {P : Mm → Prop} (E : En G R_Machine b_Machine_execute 5 p s mt args meth c) (hr : meth.sig.returnType = none) (m : Mm) (v0 : Nat) (H : Heap) (locs : List Loc) (ls : Array Slot) (h : wp_Machine_execute_114 P m v0) (hp : pic G m H) (hS : va_S (fr G) s.heap H locs) (hl : lv_has ls 5 [(0, rn v0)]) : W p l e rm_Machine_execute s mt args below meth c H locs 0 0 (MQ below (PoV G P) args s 0 0 (fr G)) (F0 mt 114 ls []) := by
  have hx := E.1
  have hb := E.2.1
  unfold wp_Machine_execute_114 at h
  refine rr_aload_n hx hb d_Machine_execute_114 rfl (lv_at hl 0 rfl) ?_
  obtain ⟨g_3, h⟩ := h
  refine mc_v hS (mc_runV (As := []) (rest := []) E (c_Machine_finish l G m v0 _ h) wd_Machine_finish ⟨lk_284, lk_285, lk_286⟩ rfl rfl ⟨Nat.le_of_ble_eq_true rfl, Nat.le_of_ble_eq_true rfl⟩ hp hS g_3 (by decide) rfl rfl rfl hl.1 rfl (lv_room (Nat.le_of_ble_eq_true rfl)) d_Machine_execute_115 ⟨Nat.le_of_ble_eq_true rfl, Nat.le_of_ble_eq_true rfl⟩) (fun m_1 h H locs hp hS => ?_)
  try dsimp only at h
  exact mp_vret E hr hp hS h d_Machine_execute_118
set_option maxHeartbeats 4000000 in
set_option maxRecDepth 100000 in
theorem t_Machine_execute_108 {G : Gc} {P : Mm → Prop} (E : En G R_Machine b_Machine_execute 5 p s mt args meth c) (hr : meth.sig.returnType = none) {K7 : Mm → Nat → Nat → Int32 → Prop} (hK7 : ∀ (m : Mm) (v0 : Nat) (v1 : Nat) (v2 : Int32) (H : Heap) (locs : List Loc) (ls : Array Slot), K7 m v0 v1 v2 → pic G m H → va_S (fr G) s.heap H locs → lv_has ls 5 [(0, rn v0), (1, rn v1), (2, .int v2)] → W p l e rm_Machine_execute s mt args below meth c H locs 0 0 (MQ below (PoV G P) args s 0 0 (fr G)) (F0 mt 7 ls [])) (m : Mm) (v0 : Nat) (v1 : Nat) (v2 : Int32) (H : Heap) (locs : List Loc) (ls : Array Slot) (h : wp_Machine_execute_108 K7 P m v0 v1 v2) (hp : pic G m H) (hS : va_S (fr G) s.heap H locs) (hl : lv_has ls 5 [(0, rn v0), (1, rn v1), (2, .int v2)]) : W p l e rm_Machine_execute s mt args below meth c H locs 0 0 (MQ below (PoV G P) args s 0 0 (fr G)) (F0 mt 108 ls []) := by
  have hx := E.1
  have hb := E.2.1
  unfold wp_Machine_execute_108 at h
  obtain ⟨x_1, ex_1⟩ : ∃ y : Int32, y = v2 + 1 := ⟨_, rfl⟩
  replace h := h x_1 ex_1
  refine lv_iinc (v := x_1) (lv' := [(2, .int x_1), (0, rn v0), (1, rn v1)]) hx hb d_Machine_execute_108 hl (k := 2) rfl (by rw [ex_1]; rfl) (by decide) (by simp [rn_cat]) (fun ls hl => ?_)
  refine lv_goto (tgt := 7) hx hb d_Machine_execute_111 (by decide) ?_
  exact hK7 m v0 v1 x_1 _ _ _ h hp hS (lv_sub hl [1, 2, 0] rfl)
set_option maxHeartbeats 4000000 in
set_option maxRecDepth 100000 in
theorem t_Machine_execute_7 {G : Gc} {P : Mm → Prop} (E : En G R_Machine b_Machine_execute 5 p s mt args meth c) (hr : meth.sig.returnType = none) : ∀ (n : Nat) (m : Mm) (v0 : Nat) (v1 : Nat) (v2 : Int32) (H : Heap) (locs : List Loc) (ls : Array Slot) (_ : wp_Machine_execute_7 P n m v0 v1 v2) (_ : pic G m H) (_ : va_S (fr G) s.heap H locs) (_ : lv_has ls 5 [(0, rn v0), (1, rn v1), (2, .int v2)]), W p l e rm_Machine_execute s mt args below meth c H locs 0 0 (MQ below (PoV G P) args s 0 0 (fr G)) (F0 mt 7 ls []) := by
  intro n
  induction n with
  | zero => intro m v0 v1 v2 H locs ls h hp hS hl; exact h.elim
  | succ n ih =>
    intro m v0 v1 v2 H locs ls h hp hS hl
    have hx := E.1
    have hb := E.2.1
    unfold wp_Machine_execute_7 at h
    refine lv_iload_n hx hb d_Machine_execute_7 rfl (lv_at hl 2 rfl) ?_
    refine rr_aload_n hx hb d_Machine_execute_8 rfl (lv_at hl 0 rfl) ?_
    obtain ⟨g_2, h⟩ := h
    refine rg_Machine_stepLimit E hp g_2 lk_68 d_Machine_execute_9 (fun x_1 ex_1 => ?_)
    replace h := h x_1 ex_1
    refine lv_icmp_gt (tgt := 114) hx hb d_Machine_execute_12 (by decide) (fun g_3 => ?_) (fun g_3 => ?_)
    · replace h := h.1 g_3
      exact t_Machine_execute_114 E hr m v0 _ _ _ h hp hS (lv_sub hl [0] rfl)
    · replace h := h.2 g_3
      refine rr_aload_n hx hb d_Machine_execute_15 rfl (lv_at hl 1 rfl) ?_
      obtain ⟨g_5, h⟩ := h
      refine rg_Job_outcome E hp g_5 lk_251 d_Machine_execute_16 (fun x_4 ex_4 => ?_)
      replace h := h x_4 ex_4
      refine lv_if_ne (tgt := 114) hx hb d_Machine_execute_19 (by decide) (fun g_6 => ?_) (fun g_6 => ?_)
      · replace h := h.2 g_6
        exact t_Machine_execute_114 E hr m v0 _ _ _ h hp hS (lv_sub hl [0] rfl)
      · replace h := h.1 g_6
        refine rr_aload_n hx hb d_Machine_execute_22 rfl (lv_at hl 0 rfl) ?_
        obtain ⟨g_8, h⟩ := h
        refine rg_Machine_nextPlace E hp g_8 lk_80 d_Machine_execute_23 (fun x_7 ex_7 => ?_)
        replace h := h x_7 ex_7
        refine lv_istore_n (lv' := [(3, .int x_7), (0, rn v0), (1, rn v1), (2, .int v2)]) hx hb d_Machine_execute_26 rfl hl (by decide) rfl (fun ls hl => ?_)
        refine lv_iload_n hx hb d_Machine_execute_27 rfl (lv_at hl 0 rfl) ?_
        refine rr_aload_n hx hb d_Machine_execute_28 rfl (lv_at hl 2 rfl) ?_
        obtain ⟨g_10, h⟩ := h
        refine rg_Job_length E hp g_10 lk_287 d_Machine_execute_29 (fun x_9 ex_9 => ?_)
        replace h := h x_9 ex_9
        refine lv_icmp_lt (tgt := 43) hx hb d_Machine_execute_32 (by decide) (fun g_11 => ?_) (fun g_11 => ?_)
        · replace h := h.1 g_11
          refine lv_iload_n hx hb d_Machine_execute_43 rfl (lv_at hl 3 rfl) ?_
          refine rr_aload_n hx hb d_Machine_execute_44 rfl (lv_at hl 1 rfl) ?_
          obtain ⟨g_13, h⟩ := h
          refine rg_Machine_stepLimit E hp g_13 lk_68 d_Machine_execute_45 (fun x_12 ex_12 => ?_)
          replace h := h x_12 ex_12
          refine lv_icmp_ne (tgt := 59) hx hb d_Machine_execute_48 (by decide) (fun g_14 => ?_) (fun g_14 => ?_)
          · replace h := h.2 g_14
            refine rr_aload_n hx hb d_Machine_execute_59 rfl (lv_at hl 2 rfl) ?_
            refine lv_dup hx hb d_Machine_execute_60 (rn_cat _) ?_
            obtain ⟨g_16, h⟩ := h
            refine rg_Job_steps E hp g_16 lk_288 d_Machine_execute_61 (fun x_15 ex_15 => ?_)
            replace h := h x_15 ex_15
            refine lv_iconst (v := 1) hx hb d_Machine_execute_64 (by decide) ?_
            refine lv_iadd hx hb d_Machine_execute_65 ?_
            refine lv_topi (fun x_17 ex_17 => ?_)
            replace h := h x_17 ex_17
            obtain ⟨g_18, h⟩ := h
            refine rp_Job_steps E hp hS g_18 lk_288 d_Machine_execute_66 (fun m_19 em_19 H locs hp hS => ?_)
            replace h := h m_19 em_19
            refine rr_aload_n hx hb d_Machine_execute_69 rfl (lv_at hl 1 rfl) ?_
            refine rr_aload_n hx hb d_Machine_execute_70 rfl (lv_at hl 1 rfl) ?_
            obtain ⟨g_21, h⟩ := h
            refine rg_Machine_plan E hp g_21 lk_76 d_Machine_execute_71 (fun x_20 ex_20 => ?_)
            replace h := h x_20 ex_20
            refine lv_iload_n hx hb d_Machine_execute_74 rfl (lv_at hl 0 rfl) ?_
            refine lv_iconst (v := 1) hx hb d_Machine_execute_75 (by decide) ?_
            refine lv_iadd hx hb d_Machine_execute_76 ?_
            refine lv_topi (fun x_22 ex_22 => ?_)
            replace h := h x_22 ex_22
            obtain ⟨g_25, h⟩ := h
            refine mc_i hS (mc_runV (As := [.int x_22]) (rest := [rn v0]) E (c_Plan_firstDoneFrom l G m_19 x_20 x_22 _ h) wd_Plan_firstDoneFrom ⟨lk_148, lk_149, lk_150⟩ rfl rfl ⟨Nat.le_of_ble_eq_true rfl, Nat.le_of_ble_eq_true rfl⟩ hp hS g_25 (by decide) rfl rfl rfl hl.1 rfl (lv_room (by simp [rn_cat, cat_int, cat_long, cat_ref, cat_null])) d_Machine_execute_77 ⟨Nat.le_of_ble_eq_true rfl, Nat.le_of_ble_eq_true rfl⟩) (fun r_24 m_23 h H locs hp hS => ?_)
            try dsimp only at h
            obtain ⟨g_26, h⟩ := h
            refine rp_Machine_nextPlace E hp hS g_26 lk_80 d_Machine_execute_80 (fun m_27 em_27 H locs hp hS => ?_)
            replace h := h m_27 em_27
            refine rr_aload_n hx hb d_Machine_execute_83 rfl (lv_at hl 1 rfl) ?_
            refine rr_aload_n hx hb d_Machine_execute_84 rfl (lv_at hl 2 rfl) ?_
            refine rr_aload_n hx hb d_Machine_execute_85 rfl (lv_at hl 2 rfl) ?_
            refine lv_iload_n hx hb d_Machine_execute_86 rfl (lv_at hl 0 rfl) ?_
            obtain ⟨g_30, h⟩ := h
            refine mc_i hS (mc_runV (As := [.int x_7]) (rest := [rn v1, rn v0]) E (c_Job_signAt l G m_27 v1 x_7 _ h) wd_Job_signAt ⟨lk_289, lk_121, lk_122⟩ rfl rfl ⟨Nat.le_of_ble_eq_true rfl, Nat.le_of_ble_eq_true rfl⟩ hp hS g_30 (by decide) rfl rfl rfl hl.1 rfl (lv_room (by simp [rn_cat, cat_int, cat_long, cat_ref, cat_null])) d_Machine_execute_87 ⟨Nat.le_of_ble_eq_true rfl, Nat.le_of_ble_eq_true rfl⟩) (fun r_29 m_28 h H locs hp hS => ?_)
            try dsimp only at h
            refine lv_iload_n hx hb d_Machine_execute_90 rfl (lv_at hl 0 rfl) ?_
            obtain ⟨g_33, h⟩ := h
            refine mc_i hS (mc_runV (As := [rn v1, .int r_29, .int x_7]) (rest := []) E (c_Machine_doSign l G m_28 v0 v1 r_29 x_7 _ h) wd_Machine_doSign ⟨lk_290, lk_291, lk_292⟩ rfl rfl ⟨Nat.le_of_ble_eq_true rfl, Nat.le_of_ble_eq_true rfl⟩ hp hS g_33 (by decide) rfl rfl rfl hl.1 rfl (lv_room (Nat.le_of_ble_eq_true rfl)) d_Machine_execute_91 ⟨Nat.le_of_ble_eq_true rfl, Nat.le_of_ble_eq_true rfl⟩) (fun r_32 m_31 h H locs hp hS => ?_)
            try dsimp only at h
            refine lv_istore (lv' := [(4, .int r_32), (3, .int x_7), (0, rn v0), (1, rn v1), (2, .int v2)]) hx hb d_Machine_execute_94 hl (by decide) rfl (fun ls hl => ?_)
            refine lv_iload hx hb d_Machine_execute_96 (lv_at hl 0 rfl) ?_
            refine lv_if_eq (tgt := 108) hx hb d_Machine_execute_98 (by decide) (fun g_34 => ?_) (fun g_34 => ?_)
            · replace h := h.1 g_34
              exact t_Machine_execute_108 E hr ih m_31 v0 v1 v2 _ _ _ h hp hS (lv_sub hl [2, 3, 4] rfl)
            · replace h := h.2 g_34
              refine rr_aload_n hx hb d_Machine_execute_101 rfl (lv_at hl 3 rfl) ?_
              refine lv_iload hx hb d_Machine_execute_102 (lv_at hl 0 rfl) ?_
              refine lv_iload_n hx hb d_Machine_execute_104 rfl (lv_at hl 1 rfl) ?_
              obtain ⟨g_37, h⟩ := h
              refine mc_v hS (mc_runV (As := [.int r_32, .int x_7]) (rest := []) E (c_Job_fail l G m_31 v1 r_32 x_7 _ h) wd_Job_fail ⟨lk_293, lk_294, lk_295⟩ rfl rfl ⟨Nat.le_of_ble_eq_true rfl, Nat.le_of_ble_eq_true rfl⟩ hp hS g_37 (by decide) rfl rfl rfl hl.1 rfl (lv_room (Nat.le_of_ble_eq_true rfl)) d_Machine_execute_105 ⟨Nat.le_of_ble_eq_true rfl, Nat.le_of_ble_eq_true rfl⟩) (fun m_35 h H locs hp hS => ?_)
              try dsimp only at h
              exact t_Machine_execute_108 E hr ih m_35 v0 v1 v2 _ _ _ h hp hS (lv_sub hl [2, 3, 4] rfl)
          · replace h := h.1 g_14
            refine rr_aload_n hx hb d_Machine_execute_51 rfl (lv_at hl 2 rfl) ?_
            refine lv_iconst (v := 3) hx hb d_Machine_execute_52 (by decide) ?_
            obtain ⟨g_38, h⟩ := h
            refine rp_Job_outcome E hp hS g_38 lk_251 d_Machine_execute_53 (fun m_39 em_39 H locs hp hS => ?_)
            replace h := h m_39 em_39
            refine lv_goto (tgt := 108) hx hb d_Machine_execute_56 (by decide) ?_
            exact t_Machine_execute_108 E hr ih m_39 v0 v1 v2 _ _ _ h hp hS (lv_sub hl [1, 2, 3] rfl)
        · replace h := h.2 g_11
          refine rr_aload_n hx hb d_Machine_execute_35 rfl (lv_at hl 2 rfl) ?_
          refine lv_iconst (v := 1) hx hb d_Machine_execute_36 (by decide) ?_
          obtain ⟨g_40, h⟩ := h
          refine rp_Job_outcome E hp hS g_40 lk_251 d_Machine_execute_37 (fun m_41 em_41 H locs hp hS => ?_)
          replace h := h m_41 em_41
          refine lv_goto (tgt := 108) hx hb d_Machine_execute_40 (by decide) ?_
          exact t_Machine_execute_108 E hr ih m_41 v0 v1 v2 _ _ _ h hp hS (lv_sub hl [1, 2, 3] rfl)
set_option maxHeartbeats 4000000 in
set_option maxRecDepth 100000 in
theorem t_Machine_execute_0 {G : Gc} {P : Mm → Prop} (E : En G R_Machine b_Machine_execute 5 p s mt args meth c) (hr : meth.sig.returnType = none) (m : Mm) (v0 : Nat) (v1 : Nat) (H : Heap) (locs : List Loc) (ls : Array Slot) (h : wp_Machine_execute_0 P m v0 v1) (hp : pic G m H) (hS : va_S (fr G) s.heap H locs) (hl : lv_has ls 5 [(0, rn v0), (1, rn v1)]) : W p l e rm_Machine_execute s mt args below meth c H locs 0 0 (MQ below (PoV G P) args s 0 0 (fr G)) (F0 mt 0 ls []) := by
  have hx := E.1
  have hb := E.2.1
  unfold wp_Machine_execute_0 at h
  refine rr_aload_n hx hb d_Machine_execute_0 rfl (lv_at hl 0 rfl) ?_
  refine rr_aload_n hx hb d_Machine_execute_1 rfl (lv_at hl 1 rfl) ?_
  obtain ⟨g_3, h⟩ := h
  refine mc_v hS (mc_runV (As := [rn v1]) (rest := []) E (c_Machine_begin l G m v0 v1 _ h) wd_Machine_begin ⟨lk_296, lk_297, lk_298⟩ rfl rfl ⟨Nat.le_of_ble_eq_true rfl, Nat.le_of_ble_eq_true rfl⟩ hp hS g_3 (by decide) rfl rfl rfl hl.1 rfl (lv_room (Nat.le_of_ble_eq_true rfl)) d_Machine_execute_2 ⟨Nat.le_of_ble_eq_true rfl, Nat.le_of_ble_eq_true rfl⟩) (fun m_1 h H locs hp hS => ?_)
  try dsimp only at h
  refine lv_iconst (v := 0) hx hb d_Machine_execute_5 (by decide) ?_
  refine lv_istore_n (lv' := [(2, .int 0), (0, rn v0), (1, rn v1)]) hx hb d_Machine_execute_6 rfl hl (by decide) (by simp [rn_cat]) (fun ls hl => ?_)
  obtain ⟨n_4, h⟩ := h
  exact t_Machine_execute_7 E hr n_4 m_1 v0 v1 0 _ _ _ h hp hS (lv_sub hl [1, 2, 0] rfl)
set_option maxHeartbeats 4000000 in
set_option maxRecDepth 100000 in
theorem c_Machine_execute (l : Launch) (G : Gc) (m : Mm) (v0 : Nat) (v1 : Nat) (P : Mm → Prop) (h : wp_Machine_execute m v0 v1 P) : Met l y_Machine_execute (Cond.code y_Machine_execute b_Machine_execute 5 none :: lw_good) rm_Machine_execute (Pre9 G m [rn v0, rn v1]) (PoV G P) 0 0 (fr G) := by
  refine Met.ofW (cc := b_Machine_execute) (maxL := 5) (ret := none) (by decide) rfl ?_
  intro p e s mt args below meth c s₁ B hml hv
  obtain ⟨rfl, hp, hC⟩ := hv
  have hts := atoms_spec (ws := Cond.code y_Machine_execute b_Machine_execute 5 none :: lw_good) B.pre
  have E : En G R_Machine b_Machine_execute 5 p s mt _ meth c := ⟨B.exec, B.bytes, hml, findClass_of_methodNamed B.named, fun w hw => hts w (List.mem_cons_of_mem _ hw), hC, B.notSynchronized⟩
  have hr := B.returns
  have hl := lv_entry [rn v0, rn v1] (n := 5) (by simp [lg_sl, rn_cat, cat_int, cat_long, cat_ref, cat_null])
  rw [lg_entry_eq]
  generalize (lg_sl [rn v0, rn v1] ++ List.replicate (5 - (lg_sl [rn v0, rn v1]).length) Slot.unset).toArray = ls at hl ⊢
  have hl : lv_has ls 5 [(0, rn v0), (1, rn v1)] := by simpa [lv_args, rn_cat, cat_int, cat_long, cat_ref, cat_null] using hl
  exact t_Machine_execute_0 E hr m v0 v1 _ _ _ h hp va_S.rf (lv_sub hl [0, 1] rfl)
abbrev rm_ML_run : Room := { frames := 6, cells := 0, slots := 0, locals := 145 }
set_option maxHeartbeats 4000000 in
set_option maxRecDepth 100000 in
theorem t_ML_run_48 {G : Gc} {P : Int32 → Mm → Prop} (E : En G R_ML b_ML_run 4 p s mt args meth c) (hr : meth.sig.returnType = some .int) {K14 : Mm → Nat → Int32 → Int32 → Prop} (hK14 : ∀ (m : Mm) (v0 : Nat) (v1 : Int32) (v2 : Int32) (H : Heap) (locs : List Loc) (ls : Array Slot), K14 m v0 v1 v2 → pic G m H → va_S (fr G) s.heap H locs → lv_has ls 4 [(0, rn v0), (1, .int v1), (2, .int v2)] → W p l e rm_ML_run s mt args below meth c H locs 0 0 (MQ below (PoI G P) args s 0 0 (fr G)) (F0 mt 14 ls [])) (m : Mm) (v0 : Nat) (v1 : Int32) (v2 : Int32) (H : Heap) (locs : List Loc) (ls : Array Slot) (h : wp_ML_run_48 K14 P m v0 v1 v2) (hp : pic G m H) (hS : va_S (fr G) s.heap H locs) (hl : lv_has ls 4 [(0, rn v0), (1, .int v1), (2, .int v2)]) : W p l e rm_ML_run s mt args below meth c H locs 0 0 (MQ below (PoI G P) args s 0 0 (fr G)) (F0 mt 48 ls []) := by
  have hx := E.1
  have hb := E.2.1
  unfold wp_ML_run_48 at h
  obtain ⟨x_1, ex_1⟩ : ∃ y : Int32, y = v2 + 1 := ⟨_, rfl⟩
  replace h := h x_1 ex_1
  refine lv_iinc (v := x_1) (lv' := [(2, .int x_1), (0, rn v0), (1, .int v1)]) hx hb d_ML_run_48 hl (k := 2) rfl (by rw [ex_1]; rfl) (by decide) rfl (fun ls hl => ?_)
  refine lv_goto (tgt := 14) hx hb d_ML_run_51 (by decide) ?_
  exact hK14 m v0 v1 x_1 _ _ _ h hp hS (lv_sub hl [1, 2, 0] rfl)
set_option maxHeartbeats 4000000 in
set_option maxRecDepth 100000 in
theorem t_ML_run_14 {G : Gc} {P : Int32 → Mm → Prop} (E : En G R_ML b_ML_run 4 p s mt args meth c) (hr : meth.sig.returnType = some .int) : ∀ (n : Nat) (m : Mm) (v0 : Nat) (v1 : Int32) (v2 : Int32) (H : Heap) (locs : List Loc) (ls : Array Slot) (_ : wp_ML_run_14 P n m v0 v1 v2) (_ : pic G m H) (_ : va_S (fr G) s.heap H locs) (_ : lv_has ls 4 [(0, rn v0), (1, .int v1), (2, .int v2)]), W p l e rm_ML_run s mt args below meth c H locs 0 0 (MQ below (PoI G P) args s 0 0 (fr G)) (F0 mt 14 ls []) := by
  intro n
  induction n with
  | zero => intro m v0 v1 v2 H locs ls h hp hS hl; exact h.elim
  | succ n ih =>
    intro m v0 v1 v2 H locs ls h hp hS hl
    have hx := E.1
    have hb := E.2.1
    unfold wp_ML_run_14 at h
    refine lv_iload_n hx hb d_ML_run_14 rfl (lv_at hl 2 rfl) ?_
    refine lv_bipush (v := 20) hx hb d_ML_run_15 (by decide) ?_
    refine lv_icmp_ge (tgt := 54) hx hb d_ML_run_17 (by decide) (fun g_1 => ?_) (fun g_1 => ?_)
    · replace h := h.1 g_1
      refine lv_iload_n hx hb d_ML_run_54 rfl (lv_at hl 1 rfl) ?_
      exact mp_iret E hr hp hS h d_ML_run_55
    · replace h := h.2 g_1
      refine rr_aload_n hx hb d_ML_run_20 rfl (lv_at hl 0 rfl) ?_
      refine lv_iload_n hx hb d_ML_run_21 rfl (lv_at hl 2 rfl) ?_
      obtain ⟨g_4, h⟩ := h
      refine mc_r hS (mc_runV (As := [.int v2]) (rest := []) E (c_ML_jobOrNull l G m v0 v2 _ h) wd_ML_jobOrNull ⟨lk_102, lk_103, lk_104⟩ rfl rfl ⟨Nat.le_of_ble_eq_true rfl, Nat.le_of_ble_eq_true rfl⟩ hp hS g_4 (by decide) rfl rfl rfl hl.1 rfl (lv_room (Nat.le_of_ble_eq_true rfl)) d_ML_run_22 ⟨Nat.le_of_ble_eq_true rfl, Nat.le_of_ble_eq_true rfl⟩) (fun r_3 m_2 h H locs hp hS => ?_)
      try dsimp only at h
      refine rr_astore_n (lv' := [(3, rn r_3), (0, rn v0), (1, .int v1), (2, .int v2)]) hx hb d_ML_run_25 rfl hl (by decide) rfl (fun ls hl => ?_)
      refine rr_aload_n hx hb d_ML_run_26 rfl (lv_at hl 0 rfl) ?_
      refine rr_ifnull (tgt := 48) hx hb d_ML_run_27 (by decide) (fun g_5 => ?_) (fun g_5 => ?_)
      · replace h := h.1 g_5
        exact t_ML_run_48 E hr ih m_2 v0 v1 v2 _ _ _ h hp hS (lv_sub hl [1, 2, 3] rfl)
      · replace h := h.2 g_5
        refine rr_aload_n hx hb d_ML_run_30 rfl (lv_at hl 0 rfl) ?_
        obtain ⟨g_7, h⟩ := h
        refine rg_Job_outcome E hp g_7 lk_105 d_ML_run_31 (fun x_6 ex_6 => ?_)
        replace h := h x_6 ex_6
        refine lv_if_ne (tgt := 48) hx hb d_ML_run_34 (by decide) (fun g_8 => ?_) (fun g_8 => ?_)
        · replace h := h.2 g_8
          exact t_ML_run_48 E hr ih m_2 v0 v1 v2 _ _ _ h hp hS (lv_sub hl [1, 2, 3] rfl)
        · replace h := h.1 g_8
          refine rr_aload_n hx hb d_ML_run_37 rfl (lv_at hl 1 rfl) ?_
          obtain ⟨g_10, h⟩ := h
          refine rg_ML_machine E hp g_10 lk_87 d_ML_run_38 (fun x_9 ex_9 => ?_)
          replace h := h x_9 ex_9
          refine rr_aload_n hx hb d_ML_run_41 rfl (lv_at hl 0 rfl) ?_
          obtain ⟨g_13, h⟩ := h
          refine mc_v hS (mc_runV (As := [rn r_3]) (rest := []) E (c_Machine_execute l G m_2 x_9 r_3 _ h) wd_Machine_execute ⟨lk_299, lk_300, lk_301⟩ rfl rfl ⟨Nat.le_of_ble_eq_true rfl, Nat.le_of_ble_eq_true rfl⟩ hp hS g_13 (by decide) rfl rfl rfl hl.1 rfl (lv_room (Nat.le_of_ble_eq_true rfl)) d_ML_run_42 ⟨Nat.le_of_ble_eq_true rfl, Nat.le_of_ble_eq_true rfl⟩) (fun m_11 h H locs hp hS => ?_)
          try dsimp only at h
          obtain ⟨x_14, ex_14⟩ : ∃ y : Int32, y = v1 + 1 := ⟨_, rfl⟩
          replace h := h x_14 ex_14
          refine lv_iinc (v := x_14) (lv' := [(1, .int x_14), (3, rn r_3), (0, rn v0), (2, .int v2)]) hx hb d_ML_run_45 hl (k := 2) rfl (by rw [ex_14]; rfl) (by decide) (by simp [rn_cat]) (fun ls hl => ?_)
          exact t_ML_run_48 E hr ih m_11 v0 x_14 v2 _ _ _ h hp hS (lv_sub hl [2, 0, 3] rfl)
set_option maxHeartbeats 4000000 in
set_option maxRecDepth 100000 in
theorem t_ML_run_0 {G : Gc} {P : Int32 → Mm → Prop} (E : En G R_ML b_ML_run 4 p s mt args meth c) (hr : meth.sig.returnType = some .int) (m : Mm) (v0 : Nat) (H : Heap) (locs : List Loc) (ls : Array Slot) (h : wp_ML_run_0 P m v0) (hp : pic G m H) (hS : va_S (fr G) s.heap H locs) (hl : lv_has ls 4 [(0, rn v0)]) : W p l e rm_ML_run s mt args below meth c H locs 0 0 (MQ below (PoI G P) args s 0 0 (fr G)) (F0 mt 0 ls []) := by
  have hx := E.1
  have hb := E.2.1
  unfold wp_ML_run_0 at h
  refine rr_aload_n hx hb d_ML_run_0 rfl (lv_at hl 0 rfl) ?_
  obtain ⟨g_2, h⟩ := h
  refine rg_ML_startsFail E hp g_2 lk_89 d_ML_run_1 (fun x_1 ex_1 => ?_)
  replace h := h x_1 ex_1
  refine lv_if_eq (tgt := 10) hx hb d_ML_run_4 (by decide) (fun g_3 => ?_) (fun g_3 => ?_)
  · replace h := h.1 g_3
    refine lv_iconst (v := 0) hx hb d_ML_run_10 (by decide) ?_
    refine lv_istore_n (lv' := [(1, .int 0), (0, rn v0)]) hx hb d_ML_run_11 rfl hl (by decide) (by simp [rn_cat]) (fun ls hl => ?_)
    refine lv_iconst (v := 0) hx hb d_ML_run_12 (by decide) ?_
    refine lv_istore_n (lv' := [(2, .int 0), (1, .int 0), (0, rn v0)]) hx hb d_ML_run_13 rfl hl (by decide) rfl (fun ls hl => ?_)
    obtain ⟨n_4, h⟩ := h
    exact t_ML_run_14 E hr n_4 m v0 0 0 _ _ _ h hp hS (lv_sub hl [2, 1, 0] rfl)
  · replace h := h.2 g_3
    refine lv_bipush (v := (-3)) hx hb d_ML_run_7 (by decide) ?_
    exact mp_iret E hr hp hS h d_ML_run_9
set_option maxHeartbeats 4000000 in
set_option maxRecDepth 100000 in
theorem c_ML_run (l : Launch) (G : Gc) (m : Mm) (v0 : Nat) (P : Int32 → Mm → Prop) (h : wp_ML_run m v0 P) : Met l y_ML_run (Cond.code y_ML_run b_ML_run 4 (some .int) :: lw_good) rm_ML_run (Pre9 G m [rn v0]) (PoI G P) 0 0 (fr G) := by
  refine Met.ofW (cc := b_ML_run) (maxL := 4) (ret := (some .int)) (by decide) rfl ?_
  intro p e s mt args below meth c s₁ B hml hv
  obtain ⟨rfl, hp, hC⟩ := hv
  have hts := atoms_spec (ws := Cond.code y_ML_run b_ML_run 4 (some .int) :: lw_good) B.pre
  have E : En G R_ML b_ML_run 4 p s mt _ meth c := ⟨B.exec, B.bytes, hml, findClass_of_methodNamed B.named, fun w hw => hts w (List.mem_cons_of_mem _ hw), hC, B.notSynchronized⟩
  have hr := B.returns
  have hl := lv_entry [rn v0] (n := 4) (by simp [lg_sl, rn_cat, cat_int, cat_long, cat_ref, cat_null])
  rw [lg_entry_eq]
  generalize (lg_sl [rn v0] ++ List.replicate (4 - (lg_sl [rn v0]).length) Slot.unset).toArray = ls at hl ⊢
  have hl : lv_has ls 4 [(0, rn v0)] := by simpa [lv_args, rn_cat, cat_int, cat_long, cat_ref, cat_null] using hl
  exact t_ML_run_0 E hr m v0 _ _ _ h hp va_S.rf (lv_sub hl [0] rfl)
abbrev rm_ML_ended : Room := { frames := 1, cells := 0, slots := 0, locals := 21 }
set_option maxHeartbeats 4000000 in
set_option maxRecDepth 100000 in
theorem t_ML_ended_0 {G : Gc} {P : Int32 → Mm → Prop} (E : En G R_ML b_ML_ended 4 p s mt args meth c) (hr : meth.sig.returnType = some .int) (m : Mm) (v0 : Nat) (v1 : Int32) (v2 : Int32) (H : Heap) (locs : List Loc) (ls : Array Slot) (h : wp_ML_ended_0 P m v0 v1 v2) (hp : pic G m H) (hS : va_S (fr G) s.heap H locs) (hl : lv_has ls 4 [(0, rn v0), (1, .int v1), (2, .int v2)]) : W p l e rm_ML_ended s mt args below meth c H locs 0 0 (MQ below (PoI G P) args s 0 0 (fr G)) (F0 mt 0 ls []) := by
  have hx := E.1
  have hb := E.2.1
  unfold wp_ML_ended_0 at h
  refine rr_aload_n hx hb d_ML_ended_0 rfl (lv_at hl 0 rfl) ?_
  refine lv_iload_n hx hb d_ML_ended_1 rfl (lv_at hl 1 rfl) ?_
  obtain ⟨g_3, h⟩ := h
  refine mc_r hS (mc_runV (As := [.int v1]) (rest := []) E (c_ML_jobOrNull l G m v0 v1 _ h) wd_ML_jobOrNull ⟨lk_102, lk_103, lk_104⟩ rfl rfl ⟨Nat.le_of_ble_eq_true rfl, Nat.le_of_ble_eq_true rfl⟩ hp hS g_3 (by decide) rfl rfl rfl hl.1 rfl (lv_room (Nat.le_of_ble_eq_true rfl)) d_ML_ended_2 ⟨Nat.le_of_ble_eq_true rfl, Nat.le_of_ble_eq_true rfl⟩) (fun r_2 m_1 h H locs hp hS => ?_)
  try dsimp only at h
  refine rr_astore_n (lv' := [(3, rn r_2), (0, rn v0), (1, .int v1), (2, .int v2)]) hx hb d_ML_ended_5 rfl hl (by decide) rfl (fun ls hl => ?_)
  refine rr_aload_n hx hb d_ML_ended_6 rfl (lv_at hl 0 rfl) ?_
  refine rr_ifnonnull (tgt := 12) hx hb d_ML_ended_7 (by decide) (fun g_4 => ?_) (fun g_4 => ?_)
  · replace h := h.2 g_4
    refine lv_iload_n hx hb d_ML_ended_12 rfl (lv_at hl 3 rfl) ?_
    by_cases g_5 : v2 = 0
    · replace h := h.1 g_5
      refine lv_tableIn (x := v2) (off := 39) (tgt := 52) hx hb d_ML_ended_13 (by rw [g_5]; decide) (by rw [g_5]; decide) (by rw [g_5]; decide) (by decide) ?_
      refine rr_aload_n hx hb d_ML_ended_52 rfl (lv_at hl 0 rfl) ?_
      obtain ⟨g_7, h⟩ := h
      refine rg_Job_outcome E hp g_7 lk_105 d_ML_ended_53 (fun x_6 ex_6 => ?_)
      replace h := h x_6 ex_6
      exact mp_iret E hr hp hS h d_ML_ended_56
    · replace h := h.2 g_5
      by_cases g_8 : v2 = 1
      · replace h := h.1 g_8
        refine lv_tableIn (x := v2) (off := 44) (tgt := 57) hx hb d_ML_ended_13 (by rw [g_8]; decide) (by rw [g_8]; decide) (by rw [g_8]; decide) (by decide) ?_
        refine rr_aload_n hx hb d_ML_ended_57 rfl (lv_at hl 0 rfl) ?_
        obtain ⟨g_10, h⟩ := h
        refine rg_Job_error E hp g_10 lk_302 d_ML_ended_58 (fun x_9 ex_9 => ?_)
        replace h := h x_9 ex_9
        exact mp_iret E hr hp hS h d_ML_ended_61
      · replace h := h.2 g_8
        by_cases g_11 : v2 = 2
        · replace h := h.1 g_11
          refine lv_tableIn (x := v2) (off := 49) (tgt := 62) hx hb d_ML_ended_13 (by rw [g_11]; decide) (by rw [g_11]; decide) (by rw [g_11]; decide) (by decide) ?_
          refine rr_aload_n hx hb d_ML_ended_62 rfl (lv_at hl 0 rfl) ?_
          obtain ⟨g_13, h⟩ := h
          refine rg_Job_errorPlace E hp g_13 lk_303 d_ML_ended_63 (fun x_12 ex_12 => ?_)
          replace h := h x_12 ex_12
          exact mp_iret E hr hp hS h d_ML_ended_66
        · replace h := h.2 g_11
          by_cases g_14 : v2 = 3
          · replace h := h.1 g_14
            refine lv_tableIn (x := v2) (off := 54) (tgt := 67) hx hb d_ML_ended_13 (by rw [g_14]; decide) (by rw [g_14]; decide) (by rw [g_14]; decide) (by decide) ?_
            refine rr_aload_n hx hb d_ML_ended_67 rfl (lv_at hl 0 rfl) ?_
            obtain ⟨g_16, h⟩ := h
            refine rg_Job_pageCount E hp g_16 lk_304 d_ML_ended_68 (fun x_15 ex_15 => ?_)
            replace h := h x_15 ex_15
            exact mp_iret E hr hp hS h d_ML_ended_71
          · replace h := h.2 g_14
            by_cases g_17 : v2 = 4
            · replace h := h.1 g_17
              refine lv_tableIn (x := v2) (off := 59) (tgt := 72) hx hb d_ML_ended_13 (by rw [g_17]; decide) (by rw [g_17]; decide) (by rw [g_17]; decide) (by decide) ?_
              refine rr_aload_n hx hb d_ML_ended_72 rfl (lv_at hl 0 rfl) ?_
              obtain ⟨g_19, h⟩ := h
              refine rg_Job_steps E hp g_19 lk_305 d_ML_ended_73 (fun x_18 ex_18 => ?_)
              replace h := h x_18 ex_18
              exact mp_iret E hr hp hS h d_ML_ended_76
            · replace h := h.2 g_17
              by_cases g_20 : v2 = 5
              · replace h := h.1 g_20
                refine lv_tableIn (x := v2) (off := 64) (tgt := 77) hx hb d_ML_ended_13 (by rw [g_20]; decide) (by rw [g_20]; decide) (by rw [g_20]; decide) (by decide) ?_
                refine rr_aload_n hx hb d_ML_ended_77 rfl (lv_at hl 0 rfl) ?_
                obtain ⟨g_22, h⟩ := h
                refine rg_Job_flushed E hp g_22 lk_306 d_ML_ended_78 (fun x_21 ex_21 => ?_)
                replace h := h x_21 ex_21
                exact mp_iret E hr hp hS h d_ML_ended_81
              · replace h := h.2 g_20
                have ng_5 := lv_neT g_5 (show (0 : Int32).toInt = 0 from by decide)
                have ng_8 := lv_neT g_8 (show (1 : Int32).toInt = 1 from by decide)
                have ng_11 := lv_neT g_11 (show (2 : Int32).toInt = 2 from by decide)
                have ng_14 := lv_neT g_14 (show (3 : Int32).toInt = 3 from by decide)
                have ng_17 := lv_neT g_17 (show (4 : Int32).toInt = 4 from by decide)
                have ng_20 := lv_neT g_20 (show (5 : Int32).toInt = 5 from by decide)
                refine lv_tableD (x := v2) (tgt := 82) (real := [0, 1, 2, 3, 4, 5]) hx hb d_ML_ended_13 (by decide) (fun q1 q2 => ⟨by simp only [List.size_toArray, List.length_cons, List.length_nil]; omega, by simp only [List.mem_cons, List.not_mem_nil, or_false]; omega⟩) (by decide) ?_
                refine lv_bipush (v := (-2)) hx hb d_ML_ended_82 (by decide) ?_
                exact mp_iret E hr hp hS h d_ML_ended_84
  · replace h := h.1 g_4
    refine lv_iconst (v := (-1)) hx hb d_ML_ended_10 (by decide) ?_
    exact mp_iret E hr hp hS h d_ML_ended_11
set_option maxHeartbeats 4000000 in
set_option maxRecDepth 100000 in
theorem c_ML_ended (l : Launch) (G : Gc) (m : Mm) (v0 : Nat) (v1 : Int32) (v2 : Int32) (P : Int32 → Mm → Prop) (h : wp_ML_ended m v0 v1 v2 P) : Met l y_ML_ended (Cond.code y_ML_ended b_ML_ended 4 (some .int) :: lw_good) rm_ML_ended (Pre9 G m [rn v0, .int v1, .int v2]) (PoI G P) 0 0 (fr G) := by
  refine Met.ofW (cc := b_ML_ended) (maxL := 4) (ret := (some .int)) (by decide) rfl ?_
  intro p e s mt args below meth c s₁ B hml hv
  obtain ⟨rfl, hp, hC⟩ := hv
  have hts := atoms_spec (ws := Cond.code y_ML_ended b_ML_ended 4 (some .int) :: lw_good) B.pre
  have E : En G R_ML b_ML_ended 4 p s mt _ meth c := ⟨B.exec, B.bytes, hml, findClass_of_methodNamed B.named, fun w hw => hts w (List.mem_cons_of_mem _ hw), hC, B.notSynchronized⟩
  have hr := B.returns
  have hl := lv_entry [rn v0, .int v1, .int v2] (n := 4) (by simp [lg_sl, rn_cat, cat_int, cat_long, cat_ref, cat_null])
  rw [lg_entry_eq]
  generalize (lg_sl [rn v0, .int v1, .int v2] ++ List.replicate (4 - (lg_sl [rn v0, .int v1, .int v2]).length) Slot.unset).toArray = ls at hl ⊢
  have hl : lv_has ls 4 [(0, rn v0), (1, .int v1), (2, .int v2)] := by simpa [lv_args, rn_cat, cat_int, cat_long, cat_ref, cat_null] using hl
  exact t_ML_ended_0 E hr m v0 v1 v2 _ _ _ h hp va_S.rf (lv_sub hl [0, 1, 2] rfl)
abbrev rm_Job_marksOf : Room := { frames := 0, cells := 0, slots := 0, locals := 0 }
set_option maxHeartbeats 4000000 in
set_option maxRecDepth 100000 in
theorem t_Job_marksOf_12 {G : Gc} {P : Int32 → Mm → Prop} (E : En G R_Job b_Job_marksOf 2 p s mt args meth c) (hr : meth.sig.returnType = some .int) (m : Mm) (H : Heap) (locs : List Loc) (ls : Array Slot) (h : wp_Job_marksOf_12 P m) (hp : pic G m H) (hS : va_S (fr G) s.heap H locs) (hl : lv_has ls 2 []) : W p l e rm_Job_marksOf s mt args below meth c H locs 0 0 (MQ below (PoI G P) args s 0 0 (fr G)) (F0 mt 12 ls []) := by
  have hx := E.1
  have hb := E.2.1
  unfold wp_Job_marksOf_12 at h
  refine lv_iconst (v := 0) hx hb d_Job_marksOf_12 (by decide) ?_
  refine lv_goto (tgt := 22) hx hb d_Job_marksOf_13 (by decide) ?_
  exact mp_iret E hr hp hS h d_Job_marksOf_22
set_option maxHeartbeats 4000000 in
set_option maxRecDepth 100000 in
theorem t_Job_marksOf_0 {G : Gc} {P : Int32 → Mm → Prop} (E : En G R_Job b_Job_marksOf 2 p s mt args meth c) (hr : meth.sig.returnType = some .int) (m : Mm) (v0 : Nat) (v1 : Int32) (H : Heap) (locs : List Loc) (ls : Array Slot) (h : wp_Job_marksOf_0 P m v0 v1) (hp : pic G m H) (hS : va_S (fr G) s.heap H locs) (hl : lv_has ls 2 [(0, rn v0), (1, .int v1)]) : W p l e rm_Job_marksOf s mt args below meth c H locs 0 0 (MQ below (PoI G P) args s 0 0 (fr G)) (F0 mt 0 ls []) := by
  have hx := E.1
  have hb := E.2.1
  unfold wp_Job_marksOf_0 at h
  refine lv_iload_n hx hb d_Job_marksOf_0 rfl (lv_at hl 1 rfl) ?_
  refine lv_if_lt (tgt := 12) hx hb d_Job_marksOf_1 (by decide) (fun g_1 => ?_) (fun g_1 => ?_)
  · replace h := h.1 g_1
    exact t_Job_marksOf_12 E hr m _ _ _ h hp hS (lv_sub hl [] rfl)
  · replace h := h.2 g_1
    refine lv_iload_n hx hb d_Job_marksOf_4 rfl (lv_at hl 1 rfl) ?_
    refine rr_aload_n hx hb d_Job_marksOf_5 rfl (lv_at hl 0 rfl) ?_
    obtain ⟨g_3, h⟩ := h
    refine rg_Job_pageCount E hp g_3 lk_94 d_Job_marksOf_6 (fun x_2 ex_2 => ?_)
    replace h := h x_2 ex_2
    refine lv_icmp_lt (tgt := 16) hx hb d_Job_marksOf_9 (by decide) (fun g_4 => ?_) (fun g_4 => ?_)
    · replace h := h.1 g_4
      refine rr_aload_n hx hb d_Job_marksOf_16 rfl (lv_at hl 0 rfl) ?_
      obtain ⟨g_6, h⟩ := h
      refine rg_Job_pages E hp g_6 lk_92 d_Job_marksOf_17 (fun x_5 ex_5 => ?_)
      replace h := h x_5 ex_5
      refine lv_iload_n hx hb d_Job_marksOf_20 rfl (lv_at hl 1 rfl) ?_
      obtain ⟨g_8, g_9, h⟩ := h
      refine mp_iald (t0 := 1) E hp g_8 (by decide) rfl rfl g_9 d_Job_marksOf_21 (fun x_7 ex_7 => ?_)
      replace h := h x_7 ex_7
      exact mp_iret E hr hp hS h d_Job_marksOf_22
    · replace h := h.2 g_4
      exact t_Job_marksOf_12 E hr m _ _ _ h hp hS (lv_sub hl [] rfl)
set_option maxHeartbeats 4000000 in
set_option maxRecDepth 100000 in
theorem c_Job_marksOf (l : Launch) (G : Gc) (m : Mm) (v0 : Nat) (v1 : Int32) (P : Int32 → Mm → Prop) (h : wp_Job_marksOf m v0 v1 P) : Met l y_Job_marksOf (Cond.code y_Job_marksOf b_Job_marksOf 2 (some .int) :: lw_good) rm_Job_marksOf (Pre9 G m [rn v0, .int v1]) (PoI G P) 0 0 (fr G) := by
  refine Met.ofW (cc := b_Job_marksOf) (maxL := 2) (ret := (some .int)) (by decide) rfl ?_
  intro p e s mt args below meth c s₁ B hml hv
  obtain ⟨rfl, hp, hC⟩ := hv
  have hts := atoms_spec (ws := Cond.code y_Job_marksOf b_Job_marksOf 2 (some .int) :: lw_good) B.pre
  have E : En G R_Job b_Job_marksOf 2 p s mt _ meth c := ⟨B.exec, B.bytes, hml, findClass_of_methodNamed B.named, fun w hw => hts w (List.mem_cons_of_mem _ hw), hC, B.notSynchronized⟩
  have hr := B.returns
  have hl := lv_entry [rn v0, .int v1] (n := 2) (by simp [lg_sl, rn_cat, cat_int, cat_long, cat_ref, cat_null])
  rw [lg_entry_eq]
  generalize (lg_sl [rn v0, .int v1] ++ List.replicate (2 - (lg_sl [rn v0, .int v1]).length) Slot.unset).toArray = ls at hl ⊢
  have hl : lv_has ls 2 [(0, rn v0), (1, .int v1)] := by simpa [lv_args, rn_cat, cat_int, cat_long, cat_ref, cat_null] using hl
  exact t_Job_marksOf_0 E hr m v0 v1 _ _ _ h hp va_S.rf (lv_sub hl [0, 1] rfl)
abbrev rm_ML_page : Room := { frames := 1, cells := 0, slots := 0, locals := 21 }
set_option maxHeartbeats 4000000 in
set_option maxRecDepth 100000 in
theorem t_ML_page_0 {G : Gc} {P : Int32 → Mm → Prop} (E : En G R_ML b_ML_page 4 p s mt args meth c) (hr : meth.sig.returnType = some .int) (m : Mm) (v0 : Nat) (v1 : Int32) (v2 : Int32) (H : Heap) (locs : List Loc) (ls : Array Slot) (h : wp_ML_page_0 P m v0 v1 v2) (hp : pic G m H) (hS : va_S (fr G) s.heap H locs) (hl : lv_has ls 4 [(0, rn v0), (1, .int v1), (2, .int v2)]) : W p l e rm_ML_page s mt args below meth c H locs 0 0 (MQ below (PoI G P) args s 0 0 (fr G)) (F0 mt 0 ls []) := by
  have hx := E.1
  have hb := E.2.1
  unfold wp_ML_page_0 at h
  refine rr_aload_n hx hb d_ML_page_0 rfl (lv_at hl 0 rfl) ?_
  refine lv_iload_n hx hb d_ML_page_1 rfl (lv_at hl 1 rfl) ?_
  obtain ⟨g_3, h⟩ := h
  refine mc_r hS (mc_runV (As := [.int v1]) (rest := []) E (c_ML_jobOrNull l G m v0 v1 _ h) wd_ML_jobOrNull ⟨lk_102, lk_103, lk_104⟩ rfl rfl ⟨Nat.le_of_ble_eq_true rfl, Nat.le_of_ble_eq_true rfl⟩ hp hS g_3 (by decide) rfl rfl rfl hl.1 rfl (lv_room (Nat.le_of_ble_eq_true rfl)) d_ML_page_2 ⟨Nat.le_of_ble_eq_true rfl, Nat.le_of_ble_eq_true rfl⟩) (fun r_2 m_1 h H locs hp hS => ?_)
  try dsimp only at h
  refine rr_astore_n (lv' := [(3, rn r_2), (0, rn v0), (1, .int v1), (2, .int v2)]) hx hb d_ML_page_5 rfl hl (by decide) rfl (fun ls hl => ?_)
  refine rr_aload_n hx hb d_ML_page_6 rfl (lv_at hl 0 rfl) ?_
  refine rr_ifnonnull (tgt := 14) hx hb d_ML_page_7 (by decide) (fun g_4 => ?_) (fun g_4 => ?_)
  · replace h := h.2 g_4
    refine rr_aload_n hx hb d_ML_page_14 rfl (lv_at hl 0 rfl) ?_
    refine lv_iload_n hx hb d_ML_page_15 rfl (lv_at hl 3 rfl) ?_
    obtain ⟨g_7, h⟩ := h
    refine mc_i hS (mc_runV (As := [.int v2]) (rest := []) E (c_Job_marksOf l G m_1 r_2 v2 _ h) wd_Job_marksOf ⟨lk_307, lk_308, lk_309⟩ rfl rfl ⟨Nat.le_of_ble_eq_true rfl, Nat.le_of_ble_eq_true rfl⟩ hp hS g_7 (by decide) rfl rfl rfl hl.1 rfl (lv_room (Nat.le_of_ble_eq_true rfl)) d_ML_page_16 ⟨Nat.le_of_ble_eq_true rfl, Nat.le_of_ble_eq_true rfl⟩) (fun r_6 m_5 h H locs hp hS => ?_)
    try dsimp only at h
    exact mp_iret E hr hp hS h d_ML_page_19
  · replace h := h.1 g_4
    refine lv_iconst (v := 0) hx hb d_ML_page_10 (by decide) ?_
    refine lv_goto (tgt := 19) hx hb d_ML_page_11 (by decide) ?_
    exact mp_iret E hr hp hS h d_ML_page_19
set_option maxHeartbeats 4000000 in
set_option maxRecDepth 100000 in
theorem c_ML_page (l : Launch) (G : Gc) (m : Mm) (v0 : Nat) (v1 : Int32) (v2 : Int32) (P : Int32 → Mm → Prop) (h : wp_ML_page m v0 v1 v2 P) : Met l y_ML_page (Cond.code y_ML_page b_ML_page 4 (some .int) :: lw_good) rm_ML_page (Pre9 G m [rn v0, .int v1, .int v2]) (PoI G P) 0 0 (fr G) := by
  refine Met.ofW (cc := b_ML_page) (maxL := 4) (ret := (some .int)) (by decide) rfl ?_
  intro p e s mt args below meth c s₁ B hml hv
  obtain ⟨rfl, hp, hC⟩ := hv
  have hts := atoms_spec (ws := Cond.code y_ML_page b_ML_page 4 (some .int) :: lw_good) B.pre
  have E : En G R_ML b_ML_page 4 p s mt _ meth c := ⟨B.exec, B.bytes, hml, findClass_of_methodNamed B.named, fun w hw => hts w (List.mem_cons_of_mem _ hw), hC, B.notSynchronized⟩
  have hr := B.returns
  have hl := lv_entry [rn v0, .int v1, .int v2] (n := 4) (by simp [lg_sl, rn_cat, cat_int, cat_long, cat_ref, cat_null])
  rw [lg_entry_eq]
  generalize (lg_sl [rn v0, .int v1, .int v2] ++ List.replicate (4 - (lg_sl [rn v0, .int v1, .int v2]).length) Slot.unset).toArray = ls at hl ⊢
  have hl : lv_has ls 4 [(0, rn v0), (1, .int v1), (2, .int v2)] := by simpa [lv_args, rn_cat, cat_int, cat_long, cat_ref, cat_null] using hl
  exact t_ML_page_0 E hr m v0 v1 v2 _ _ _ h hp va_S.rf (lv_sub hl [0, 1, 2] rfl)
abbrev rm_ML_device : Room := { frames := 1, cells := 0, slots := 0, locals := 22 }
set_option maxHeartbeats 4000000 in
set_option maxRecDepth 100000 in
theorem t_ML_device_0 {G : Gc} {P : Int32 → Mm → Prop} (E : En G R_ML b_ML_device 3 p s mt args meth c) (hr : meth.sig.returnType = some .int) (m : Mm) (v0 : Nat) (v1 : Int32) (v2 : Int32) (H : Heap) (locs : List Loc) (ls : Array Slot) (h : wp_ML_device_0 P m v0 v1 v2) (hp : pic G m H) (hS : va_S (fr G) s.heap H locs) (hl : lv_has ls 3 [(0, rn v0), (1, .int v1), (2, .int v2)]) : W p l e rm_ML_device s mt args below meth c H locs 0 0 (MQ below (PoI G P) args s 0 0 (fr G)) (F0 mt 0 ls []) := by
  have hx := E.1
  have hb := E.2.1
  unfold wp_ML_device_0 at h
  refine rr_aload_n hx hb d_ML_device_0 rfl (lv_at hl 0 rfl) ?_
  obtain ⟨g_2, h⟩ := h
  refine rg_ML_machine E hp g_2 lk_87 d_ML_device_1 (fun x_1 ex_1 => ?_)
  replace h := h x_1 ex_1
  obtain ⟨g_4, h⟩ := h
  refine rg_Machine_device E hp g_4 lk_310 d_ML_device_4 (fun x_3 ex_3 => ?_)
  replace h := h x_3 ex_3
  refine lv_iload_n hx hb d_ML_device_7 rfl (lv_at hl 1 rfl) ?_
  refine lv_iload_n hx hb d_ML_device_8 rfl (lv_at hl 2 rfl) ?_
  obtain ⟨g_7, h⟩ := h
  refine mc_i hS (mc_runV (As := [.int v1, .int v2]) (rest := []) E (c_Device_change l G m x_3 v1 v2 _ h) wd_Device_change ⟨lk_311, lk_161, lk_162⟩ rfl rfl ⟨Nat.le_of_ble_eq_true rfl, Nat.le_of_ble_eq_true rfl⟩ hp hS g_7 (by decide) rfl rfl rfl hl.1 rfl (lv_room (Nat.le_of_ble_eq_true rfl)) d_ML_device_9 ⟨Nat.le_of_ble_eq_true rfl, Nat.le_of_ble_eq_true rfl⟩) (fun r_6 m_5 h H locs hp hS => ?_)
  try dsimp only at h
  refine lv_if_eq (tgt := 19) hx hb d_ML_device_12 (by decide) (fun g_8 => ?_) (fun g_8 => ?_)
  · replace h := h.1 g_8
    refine lv_iconst (v := 0) hx hb d_ML_device_19 (by decide) ?_
    exact mp_iret E hr hp hS h d_ML_device_20
  · replace h := h.2 g_8
    refine lv_iconst (v := 1) hx hb d_ML_device_15 (by decide) ?_
    refine lv_goto (tgt := 20) hx hb d_ML_device_16 (by decide) ?_
    exact mp_iret E hr hp hS h d_ML_device_20
set_option maxHeartbeats 4000000 in
set_option maxRecDepth 100000 in
theorem c_ML_device (l : Launch) (G : Gc) (m : Mm) (v0 : Nat) (v1 : Int32) (v2 : Int32) (P : Int32 → Mm → Prop) (h : wp_ML_device m v0 v1 v2 P) : Met l y_ML_device (Cond.code y_ML_device b_ML_device 3 (some .int) :: lw_good) rm_ML_device (Pre9 G m [rn v0, .int v1, .int v2]) (PoI G P) 0 0 (fr G) := by
  refine Met.ofW (cc := b_ML_device) (maxL := 3) (ret := (some .int)) (by decide) rfl ?_
  intro p e s mt args below meth c s₁ B hml hv
  obtain ⟨rfl, hp, hC⟩ := hv
  have hts := atoms_spec (ws := Cond.code y_ML_device b_ML_device 3 (some .int) :: lw_good) B.pre
  have E : En G R_ML b_ML_device 3 p s mt _ meth c := ⟨B.exec, B.bytes, hml, findClass_of_methodNamed B.named, fun w hw => hts w (List.mem_cons_of_mem _ hw), hC, B.notSynchronized⟩
  have hr := B.returns
  have hl := lv_entry [rn v0, .int v1, .int v2] (n := 3) (by simp [lg_sl, rn_cat, cat_int, cat_long, cat_ref, cat_null])
  rw [lg_entry_eq]
  generalize (lg_sl [rn v0, .int v1, .int v2] ++ List.replicate (3 - (lg_sl [rn v0, .int v1, .int v2]).length) Slot.unset).toArray = ls at hl ⊢
  have hl : lv_has ls 3 [(0, rn v0), (1, .int v1), (2, .int v2)] := by simpa [lv_args, rn_cat, cat_int, cat_long, cat_ref, cat_null] using hl
  exact t_ML_device_0 E hr m v0 v1 v2 _ _ _ h hp va_S.rf (lv_sub hl [0, 1, 2] rfl)
abbrev rm_ML_define : Room := { frames := 2, cells := 0, slots := 0, locals := 45 }
set_option maxHeartbeats 4000000 in
set_option maxRecDepth 100000 in
theorem t_ML_define_0 {G : Gc} {P : Int32 → Mm → Prop} (E : En G R_ML b_ML_define 4 p s mt args meth c) (hr : meth.sig.returnType = some .int) (m : Mm) (v0 : Nat) (v1 : Int32) (v2 : Int32) (v3 : Int32) (H : Heap) (locs : List Loc) (ls : Array Slot) (h : wp_ML_define_0 P m v0 v1 v2 v3) (hp : pic G m H) (hS : va_S (fr G) s.heap H locs) (hl : lv_has ls 4 [(0, rn v0), (1, .int v1), (2, .int v2), (3, .int v3)]) : W p l e rm_ML_define s mt args below meth c H locs 0 0 (MQ below (PoI G P) args s 0 0 (fr G)) (F0 mt 0 ls []) := by
  have hx := E.1
  have hb := E.2.1
  unfold wp_ML_define_0 at h
  refine rr_aload_n hx hb d_ML_define_0 rfl (lv_at hl 0 rfl) ?_
  obtain ⟨g_2, h⟩ := h
  refine rg_ML_machine E hp g_2 lk_87 d_ML_define_1 (fun x_1 ex_1 => ?_)
  replace h := h x_1 ex_1
  obtain ⟨g_4, h⟩ := h
  refine rg_Machine_resources E hp g_4 lk_312 d_ML_define_4 (fun x_3 ex_3 => ?_)
  replace h := h x_3 ex_3
  refine lv_iload_n hx hb d_ML_define_7 rfl (lv_at hl 1 rfl) ?_
  refine lv_iload_n hx hb d_ML_define_8 rfl (lv_at hl 2 rfl) ?_
  refine lv_iload_n hx hb d_ML_define_9 rfl (lv_at hl 3 rfl) ?_
  obtain ⟨g_7, h⟩ := h
  refine mc_i hS (mc_runV (As := [.int v1, .int v2, .int v3]) (rest := []) E (c_Resources_put l G m x_3 v1 v2 v3 _ h) wd_Resources_put ⟨lk_313, lk_240, lk_241⟩ rfl rfl ⟨Nat.le_of_ble_eq_true rfl, Nat.le_of_ble_eq_true rfl⟩ hp hS g_7 (by decide) rfl rfl rfl hl.1 rfl (lv_room (Nat.le_of_ble_eq_true rfl)) d_ML_define_10 ⟨Nat.le_of_ble_eq_true rfl, Nat.le_of_ble_eq_true rfl⟩) (fun r_6 m_5 h H locs hp hS => ?_)
  try dsimp only at h
  exact mp_iret E hr hp hS h d_ML_define_13
set_option maxHeartbeats 4000000 in
set_option maxRecDepth 100000 in
theorem c_ML_define (l : Launch) (G : Gc) (m : Mm) (v0 : Nat) (v1 : Int32) (v2 : Int32) (v3 : Int32) (P : Int32 → Mm → Prop) (h : wp_ML_define m v0 v1 v2 v3 P) : Met l y_ML_define (Cond.code y_ML_define b_ML_define 4 (some .int) :: lw_good) rm_ML_define (Pre9 G m [rn v0, .int v1, .int v2, .int v3]) (PoI G P) 0 0 (fr G) := by
  refine Met.ofW (cc := b_ML_define) (maxL := 4) (ret := (some .int)) (by decide) rfl ?_
  intro p e s mt args below meth c s₁ B hml hv
  obtain ⟨rfl, hp, hC⟩ := hv
  have hts := atoms_spec (ws := Cond.code y_ML_define b_ML_define 4 (some .int) :: lw_good) B.pre
  have E : En G R_ML b_ML_define 4 p s mt _ meth c := ⟨B.exec, B.bytes, hml, findClass_of_methodNamed B.named, fun w hw => hts w (List.mem_cons_of_mem _ hw), hC, B.notSynchronized⟩
  have hr := B.returns
  have hl := lv_entry [rn v0, .int v1, .int v2, .int v3] (n := 4) (by simp [lg_sl, rn_cat, cat_int, cat_long, cat_ref, cat_null])
  rw [lg_entry_eq]
  generalize (lg_sl [rn v0, .int v1, .int v2, .int v3] ++ List.replicate (4 - (lg_sl [rn v0, .int v1, .int v2, .int v3]).length) Slot.unset).toArray = ls at hl ⊢
  have hl : lv_has ls 4 [(0, rn v0), (1, .int v1), (2, .int v2), (3, .int v3)] := by simpa [lv_args, rn_cat, cat_int, cat_long, cat_ref, cat_null] using hl
  exact t_ML_define_0 E hr m v0 v1 v2 v3 _ _ _ h hp va_S.rf (lv_sub hl [0, 1, 2, 3] rfl)
abbrev rm_ML_resource : Room := { frames := 2, cells := 0, slots := 0, locals := 44 }
set_option maxHeartbeats 4000000 in
set_option maxRecDepth 100000 in
theorem t_ML_resource_0 {G : Gc} {P : Int32 → Mm → Prop} (E : En G R_ML b_ML_resource 3 p s mt args meth c) (hr : meth.sig.returnType = some .int) (m : Mm) (v0 : Nat) (v1 : Int32) (v2 : Int32) (H : Heap) (locs : List Loc) (ls : Array Slot) (h : wp_ML_resource_0 P m v0 v1 v2) (hp : pic G m H) (hS : va_S (fr G) s.heap H locs) (hl : lv_has ls 3 [(0, rn v0), (1, .int v1), (2, .int v2)]) : W p l e rm_ML_resource s mt args below meth c H locs 0 0 (MQ below (PoI G P) args s 0 0 (fr G)) (F0 mt 0 ls []) := by
  have hx := E.1
  have hb := E.2.1
  unfold wp_ML_resource_0 at h
  refine rr_aload_n hx hb d_ML_resource_0 rfl (lv_at hl 0 rfl) ?_
  obtain ⟨g_2, h⟩ := h
  refine rg_ML_machine E hp g_2 lk_87 d_ML_resource_1 (fun x_1 ex_1 => ?_)
  replace h := h x_1 ex_1
  obtain ⟨g_4, h⟩ := h
  refine rg_Machine_resources E hp g_4 lk_312 d_ML_resource_4 (fun x_3 ex_3 => ?_)
  replace h := h x_3 ex_3
  refine lv_iload_n hx hb d_ML_resource_7 rfl (lv_at hl 1 rfl) ?_
  refine lv_iload_n hx hb d_ML_resource_8 rfl (lv_at hl 2 rfl) ?_
  obtain ⟨g_7, h⟩ := h
  refine mc_i hS (mc_runV (As := [.int v1, .int v2]) (rest := []) E (c_Resources_valueAt l G m x_3 v1 v2 _ h) wd_Resources_valueAt ⟨lk_314, lk_243, lk_244⟩ rfl rfl ⟨Nat.le_of_ble_eq_true rfl, Nat.le_of_ble_eq_true rfl⟩ hp hS g_7 (by decide) rfl rfl rfl hl.1 rfl (lv_room (Nat.le_of_ble_eq_true rfl)) d_ML_resource_9 ⟨Nat.le_of_ble_eq_true rfl, Nat.le_of_ble_eq_true rfl⟩) (fun r_6 m_5 h H locs hp hS => ?_)
  try dsimp only at h
  exact mp_iret E hr hp hS h d_ML_resource_12
set_option maxHeartbeats 4000000 in
set_option maxRecDepth 100000 in
theorem c_ML_resource (l : Launch) (G : Gc) (m : Mm) (v0 : Nat) (v1 : Int32) (v2 : Int32) (P : Int32 → Mm → Prop) (h : wp_ML_resource m v0 v1 v2 P) : Met l y_ML_resource (Cond.code y_ML_resource b_ML_resource 3 (some .int) :: lw_good) rm_ML_resource (Pre9 G m [rn v0, .int v1, .int v2]) (PoI G P) 0 0 (fr G) := by
  refine Met.ofW (cc := b_ML_resource) (maxL := 3) (ret := (some .int)) (by decide) rfl ?_
  intro p e s mt args below meth c s₁ B hml hv
  obtain ⟨rfl, hp, hC⟩ := hv
  have hts := atoms_spec (ws := Cond.code y_ML_resource b_ML_resource 3 (some .int) :: lw_good) B.pre
  have E : En G R_ML b_ML_resource 3 p s mt _ meth c := ⟨B.exec, B.bytes, hml, findClass_of_methodNamed B.named, fun w hw => hts w (List.mem_cons_of_mem _ hw), hC, B.notSynchronized⟩
  have hr := B.returns
  have hl := lv_entry [rn v0, .int v1, .int v2] (n := 3) (by simp [lg_sl, rn_cat, cat_int, cat_long, cat_ref, cat_null])
  rw [lg_entry_eq]
  generalize (lg_sl [rn v0, .int v1, .int v2] ++ List.replicate (3 - (lg_sl [rn v0, .int v1, .int v2]).length) Slot.unset).toArray = ls at hl ⊢
  have hl : lv_has ls 3 [(0, rn v0), (1, .int v1), (2, .int v2)] := by simpa [lv_args, rn_cat, cat_int, cat_long, cat_ref, cat_null] using hl
  exact t_ML_resource_0 E hr m v0 v1 v2 _ _ _ h hp va_S.rf (lv_sub hl [0, 1, 2] rfl)
abbrev rm_ML_file : Room := { frames := 3, cells := 0, slots := 0, locals := 71 }
set_option maxHeartbeats 4000000 in
set_option maxRecDepth 100000 in
theorem t_ML_file_0 {G : Gc} {P : Int32 → Mm → Prop} (E : En G R_ML b_ML_file 3 p s mt args meth c) (hr : meth.sig.returnType = some .int) (m : Mm) (v0 : Nat) (v1 : Int32) (v2 : Int32) (H : Heap) (locs : List Loc) (ls : Array Slot) (h : wp_ML_file_0 P m v0 v1 v2) (hp : pic G m H) (hS : va_S (fr G) s.heap H locs) (hl : lv_has ls 3 [(0, rn v0), (1, .int v1), (2, .int v2)]) : W p l e rm_ML_file s mt args below meth c H locs 0 0 (MQ below (PoI G P) args s 0 0 (fr G)) (F0 mt 0 ls []) := by
  have hx := E.1
  have hb := E.2.1
  unfold wp_ML_file_0 at h
  refine rr_aload_n hx hb d_ML_file_0 rfl (lv_at hl 0 rfl) ?_
  obtain ⟨g_2, h⟩ := h
  refine rg_ML_machine E hp g_2 lk_87 d_ML_file_1 (fun x_1 ex_1 => ?_)
  replace h := h x_1 ex_1
  obtain ⟨g_4, h⟩ := h
  refine rg_Machine_files E hp g_4 lk_315 d_ML_file_4 (fun x_3 ex_3 => ?_)
  replace h := h x_3 ex_3
  refine lv_iload_n hx hb d_ML_file_7 rfl (lv_at hl 1 rfl) ?_
  refine lv_iload_n hx hb d_ML_file_8 rfl (lv_at hl 2 rfl) ?_
  refine lv_iconst (v := 0) hx hb d_ML_file_9 (by decide) ?_
  obtain ⟨g_7, h⟩ := h
  refine mc_i hS (mc_runV (As := [.int v1, .int v2, .int 0]) (rest := []) E (c_FileTree_open l G m x_3 v1 v2 0 _ h) wd_FileTree_open ⟨lk_316, lk_224, lk_225⟩ rfl rfl ⟨Nat.le_of_ble_eq_true rfl, Nat.le_of_ble_eq_true rfl⟩ hp hS g_7 (by decide) rfl rfl rfl hl.1 rfl (lv_room (Nat.le_of_ble_eq_true rfl)) d_ML_file_10 ⟨Nat.le_of_ble_eq_true rfl, Nat.le_of_ble_eq_true rfl⟩) (fun r_6 m_5 h H locs hp hS => ?_)
  try dsimp only at h
  exact mp_iret E hr hp hS h d_ML_file_13
set_option maxHeartbeats 4000000 in
set_option maxRecDepth 100000 in
theorem c_ML_file (l : Launch) (G : Gc) (m : Mm) (v0 : Nat) (v1 : Int32) (v2 : Int32) (P : Int32 → Mm → Prop) (h : wp_ML_file m v0 v1 v2 P) : Met l y_ML_file (Cond.code y_ML_file b_ML_file 3 (some .int) :: lw_good) rm_ML_file (Pre9 G m [rn v0, .int v1, .int v2]) (PoI G P) 0 0 (fr G) := by
  refine Met.ofW (cc := b_ML_file) (maxL := 3) (ret := (some .int)) (by decide) rfl ?_
  intro p e s mt args below meth c s₁ B hml hv
  obtain ⟨rfl, hp, hC⟩ := hv
  have hts := atoms_spec (ws := Cond.code y_ML_file b_ML_file 3 (some .int) :: lw_good) B.pre
  have E : En G R_ML b_ML_file 3 p s mt _ meth c := ⟨B.exec, B.bytes, hml, findClass_of_methodNamed B.named, fun w hw => hts w (List.mem_cons_of_mem _ hw), hC, B.notSynchronized⟩
  have hr := B.returns
  have hl := lv_entry [rn v0, .int v1, .int v2] (n := 3) (by simp [lg_sl, rn_cat, cat_int, cat_long, cat_ref, cat_null])
  rw [lg_entry_eq]
  generalize (lg_sl [rn v0, .int v1, .int v2] ++ List.replicate (3 - (lg_sl [rn v0, .int v1, .int v2]).length) Slot.unset).toArray = ls at hl ⊢
  have hl : lv_has ls 3 [(0, rn v0), (1, .int v1), (2, .int v2)] := by simpa [lv_args, rn_cat, cat_int, cat_long, cat_ref, cat_null] using hl
  exact t_ML_file_0 E hr m v0 v1 v2 _ _ _ h hp va_S.rf (lv_sub hl [0, 1, 2] rfl)
abbrev rm_ML_write : Room := { frames := 3, cells := 0, slots := 0, locals := 68 }
set_option maxHeartbeats 4000000 in
set_option maxRecDepth 100000 in
theorem t_ML_write_0 {G : Gc} {P : Int32 → Mm → Prop} (E : En G R_ML b_ML_write 3 p s mt args meth c) (hr : meth.sig.returnType = some .int) (m : Mm) (v0 : Nat) (v1 : Int32) (v2 : Int32) (H : Heap) (locs : List Loc) (ls : Array Slot) (h : wp_ML_write_0 P m v0 v1 v2) (hp : pic G m H) (hS : va_S (fr G) s.heap H locs) (hl : lv_has ls 3 [(0, rn v0), (1, .int v1), (2, .int v2)]) : W p l e rm_ML_write s mt args below meth c H locs 0 0 (MQ below (PoI G P) args s 0 0 (fr G)) (F0 mt 0 ls []) := by
  have hx := E.1
  have hb := E.2.1
  unfold wp_ML_write_0 at h
  refine rr_aload_n hx hb d_ML_write_0 rfl (lv_at hl 0 rfl) ?_
  obtain ⟨g_2, h⟩ := h
  refine rg_ML_machine E hp g_2 lk_87 d_ML_write_1 (fun x_1 ex_1 => ?_)
  replace h := h x_1 ex_1
  obtain ⟨g_4, h⟩ := h
  refine rg_Machine_files E hp g_4 lk_315 d_ML_write_4 (fun x_3 ex_3 => ?_)
  replace h := h x_3 ex_3
  refine lv_iload_n hx hb d_ML_write_7 rfl (lv_at hl 1 rfl) ?_
  refine lv_iload_n hx hb d_ML_write_8 rfl (lv_at hl 2 rfl) ?_
  obtain ⟨g_7, h⟩ := h
  refine mc_i hS (mc_runV (As := [.int v1, .int v2]) (rest := []) E (c_FileTree_put l G m x_3 v1 v2 _ h) wd_FileTree_put ⟨lk_317, lk_227, lk_228⟩ rfl rfl ⟨Nat.le_of_ble_eq_true rfl, Nat.le_of_ble_eq_true rfl⟩ hp hS g_7 (by decide) rfl rfl rfl hl.1 rfl (lv_room (Nat.le_of_ble_eq_true rfl)) d_ML_write_9 ⟨Nat.le_of_ble_eq_true rfl, Nat.le_of_ble_eq_true rfl⟩) (fun r_6 m_5 h H locs hp hS => ?_)
  try dsimp only at h
  exact mp_iret E hr hp hS h d_ML_write_12
set_option maxHeartbeats 4000000 in
set_option maxRecDepth 100000 in
theorem c_ML_write (l : Launch) (G : Gc) (m : Mm) (v0 : Nat) (v1 : Int32) (v2 : Int32) (P : Int32 → Mm → Prop) (h : wp_ML_write m v0 v1 v2 P) : Met l y_ML_write (Cond.code y_ML_write b_ML_write 3 (some .int) :: lw_good) rm_ML_write (Pre9 G m [rn v0, .int v1, .int v2]) (PoI G P) 0 0 (fr G) := by
  refine Met.ofW (cc := b_ML_write) (maxL := 3) (ret := (some .int)) (by decide) rfl ?_
  intro p e s mt args below meth c s₁ B hml hv
  obtain ⟨rfl, hp, hC⟩ := hv
  have hts := atoms_spec (ws := Cond.code y_ML_write b_ML_write 3 (some .int) :: lw_good) B.pre
  have E : En G R_ML b_ML_write 3 p s mt _ meth c := ⟨B.exec, B.bytes, hml, findClass_of_methodNamed B.named, fun w hw => hts w (List.mem_cons_of_mem _ hw), hC, B.notSynchronized⟩
  have hr := B.returns
  have hl := lv_entry [rn v0, .int v1, .int v2] (n := 3) (by simp [lg_sl, rn_cat, cat_int, cat_long, cat_ref, cat_null])
  rw [lg_entry_eq]
  generalize (lg_sl [rn v0, .int v1, .int v2] ++ List.replicate (3 - (lg_sl [rn v0, .int v1, .int v2]).length) Slot.unset).toArray = ls at hl ⊢
  have hl : lv_has ls 3 [(0, rn v0), (1, .int v1), (2, .int v2)] := by simpa [lv_args, rn_cat, cat_int, cat_long, cat_ref, cat_null] using hl
  exact t_ML_write_0 E hr m v0 v1 v2 _ _ _ h hp va_S.rf (lv_sub hl [0, 1, 2] rfl)
abbrev rm_ML_read : Room := { frames := 3, cells := 0, slots := 0, locals := 67 }
set_option maxHeartbeats 4000000 in
set_option maxRecDepth 100000 in
theorem t_ML_read_0 {G : Gc} {P : Int32 → Mm → Prop} (E : En G R_ML b_ML_read 2 p s mt args meth c) (hr : meth.sig.returnType = some .int) (m : Mm) (v0 : Nat) (v1 : Int32) (H : Heap) (locs : List Loc) (ls : Array Slot) (h : wp_ML_read_0 P m v0 v1) (hp : pic G m H) (hS : va_S (fr G) s.heap H locs) (hl : lv_has ls 2 [(0, rn v0), (1, .int v1)]) : W p l e rm_ML_read s mt args below meth c H locs 0 0 (MQ below (PoI G P) args s 0 0 (fr G)) (F0 mt 0 ls []) := by
  have hx := E.1
  have hb := E.2.1
  unfold wp_ML_read_0 at h
  refine rr_aload_n hx hb d_ML_read_0 rfl (lv_at hl 0 rfl) ?_
  obtain ⟨g_2, h⟩ := h
  refine rg_ML_machine E hp g_2 lk_87 d_ML_read_1 (fun x_1 ex_1 => ?_)
  replace h := h x_1 ex_1
  obtain ⟨g_4, h⟩ := h
  refine rg_Machine_files E hp g_4 lk_315 d_ML_read_4 (fun x_3 ex_3 => ?_)
  replace h := h x_3 ex_3
  refine lv_iload_n hx hb d_ML_read_7 rfl (lv_at hl 1 rfl) ?_
  obtain ⟨g_7, h⟩ := h
  refine mc_i hS (mc_runV (As := [.int v1]) (rest := []) E (c_FileTree_take l G m x_3 v1 _ h) wd_FileTree_take ⟨lk_318, lk_230, lk_231⟩ rfl rfl ⟨Nat.le_of_ble_eq_true rfl, Nat.le_of_ble_eq_true rfl⟩ hp hS g_7 (by decide) rfl rfl rfl hl.1 rfl (lv_room (Nat.le_of_ble_eq_true rfl)) d_ML_read_8 ⟨Nat.le_of_ble_eq_true rfl, Nat.le_of_ble_eq_true rfl⟩) (fun r_6 m_5 h H locs hp hS => ?_)
  try dsimp only at h
  exact mp_iret E hr hp hS h d_ML_read_11
set_option maxHeartbeats 4000000 in
set_option maxRecDepth 100000 in
theorem c_ML_read (l : Launch) (G : Gc) (m : Mm) (v0 : Nat) (v1 : Int32) (P : Int32 → Mm → Prop) (h : wp_ML_read m v0 v1 P) : Met l y_ML_read (Cond.code y_ML_read b_ML_read 2 (some .int) :: lw_good) rm_ML_read (Pre9 G m [rn v0, .int v1]) (PoI G P) 0 0 (fr G) := by
  refine Met.ofW (cc := b_ML_read) (maxL := 2) (ret := (some .int)) (by decide) rfl ?_
  intro p e s mt args below meth c s₁ B hml hv
  obtain ⟨rfl, hp, hC⟩ := hv
  have hts := atoms_spec (ws := Cond.code y_ML_read b_ML_read 2 (some .int) :: lw_good) B.pre
  have E : En G R_ML b_ML_read 2 p s mt _ meth c := ⟨B.exec, B.bytes, hml, findClass_of_methodNamed B.named, fun w hw => hts w (List.mem_cons_of_mem _ hw), hC, B.notSynchronized⟩
  have hr := B.returns
  have hl := lv_entry [rn v0, .int v1] (n := 2) (by simp [lg_sl, rn_cat, cat_int, cat_long, cat_ref, cat_null])
  rw [lg_entry_eq]
  generalize (lg_sl [rn v0, .int v1] ++ List.replicate (2 - (lg_sl [rn v0, .int v1]).length) Slot.unset).toArray = ls at hl ⊢
  have hl : lv_has ls 2 [(0, rn v0), (1, .int v1)] := by simpa [lv_args, rn_cat, cat_int, cat_long, cat_ref, cat_null] using hl
  exact t_ML_read_0 E hr m v0 v1 _ _ _ h hp va_S.rf (lv_sub hl [0, 1] rfl)
abbrev rm_ML_filter : Room := { frames := 3, cells := 0, slots := 0, locals := 66 }
set_option maxHeartbeats 4000000 in
set_option maxRecDepth 100000 in
theorem t_ML_filter_0 {G : Gc} {P : Int32 → Mm → Prop} (E : En G R_ML b_ML_filter 3 p s mt args meth c) (hr : meth.sig.returnType = some .int) (m : Mm) (v0 : Nat) (v1 : Int32) (v2 : Int32) (H : Heap) (locs : List Loc) (ls : Array Slot) (h : wp_ML_filter_0 P m v0 v1 v2) (hp : pic G m H) (hS : va_S (fr G) s.heap H locs) (hl : lv_has ls 3 [(0, rn v0), (1, .int v1), (2, .int v2)]) : W p l e rm_ML_filter s mt args below meth c H locs 0 0 (MQ below (PoI G P) args s 0 0 (fr G)) (F0 mt 0 ls []) := by
  have hx := E.1
  have hb := E.2.1
  unfold wp_ML_filter_0 at h
  refine rr_aload_n hx hb d_ML_filter_0 rfl (lv_at hl 0 rfl) ?_
  obtain ⟨g_2, h⟩ := h
  refine rg_ML_machine E hp g_2 lk_87 d_ML_filter_1 (fun x_1 ex_1 => ?_)
  replace h := h x_1 ex_1
  obtain ⟨g_4, h⟩ := h
  refine rg_Machine_files E hp g_4 lk_315 d_ML_filter_4 (fun x_3 ex_3 => ?_)
  replace h := h x_3 ex_3
  refine lv_iload_n hx hb d_ML_filter_7 rfl (lv_at hl 1 rfl) ?_
  refine lv_iload_n hx hb d_ML_filter_8 rfl (lv_at hl 2 rfl) ?_
  obtain ⟨g_7, h⟩ := h
  refine mc_i hS (mc_runV (As := [.int v1, .int v2]) (rest := []) E (c_FileTree_putFilter l G m x_3 v1 v2 _ h) wd_FileTree_putFilter ⟨lk_319, lk_221, lk_222⟩ rfl rfl ⟨Nat.le_of_ble_eq_true rfl, Nat.le_of_ble_eq_true rfl⟩ hp hS g_7 (by decide) rfl rfl rfl hl.1 rfl (lv_room (Nat.le_of_ble_eq_true rfl)) d_ML_filter_9 ⟨Nat.le_of_ble_eq_true rfl, Nat.le_of_ble_eq_true rfl⟩) (fun r_6 m_5 h H locs hp hS => ?_)
  try dsimp only at h
  exact mp_iret E hr hp hS h d_ML_filter_12
set_option maxHeartbeats 4000000 in
set_option maxRecDepth 100000 in
theorem c_ML_filter (l : Launch) (G : Gc) (m : Mm) (v0 : Nat) (v1 : Int32) (v2 : Int32) (P : Int32 → Mm → Prop) (h : wp_ML_filter m v0 v1 v2 P) : Met l y_ML_filter (Cond.code y_ML_filter b_ML_filter 3 (some .int) :: lw_good) rm_ML_filter (Pre9 G m [rn v0, .int v1, .int v2]) (PoI G P) 0 0 (fr G) := by
  refine Met.ofW (cc := b_ML_filter) (maxL := 3) (ret := (some .int)) (by decide) rfl ?_
  intro p e s mt args below meth c s₁ B hml hv
  obtain ⟨rfl, hp, hC⟩ := hv
  have hts := atoms_spec (ws := Cond.code y_ML_filter b_ML_filter 3 (some .int) :: lw_good) B.pre
  have E : En G R_ML b_ML_filter 3 p s mt _ meth c := ⟨B.exec, B.bytes, hml, findClass_of_methodNamed B.named, fun w hw => hts w (List.mem_cons_of_mem _ hw), hC, B.notSynchronized⟩
  have hr := B.returns
  have hl := lv_entry [rn v0, .int v1, .int v2] (n := 3) (by simp [lg_sl, rn_cat, cat_int, cat_long, cat_ref, cat_null])
  rw [lg_entry_eq]
  generalize (lg_sl [rn v0, .int v1, .int v2] ++ List.replicate (3 - (lg_sl [rn v0, .int v1, .int v2]).length) Slot.unset).toArray = ls at hl ⊢
  have hl : lv_has ls 3 [(0, rn v0), (1, .int v1), (2, .int v2)] := by simpa [lv_args, rn_cat, cat_int, cat_long, cat_ref, cat_null] using hl
  exact t_ML_filter_0 E hr m v0 v1 v2 _ _ _ h hp va_S.rf (lv_sub hl [0, 1, 2] rfl)
end WK
