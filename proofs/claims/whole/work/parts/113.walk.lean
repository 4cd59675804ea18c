section WK
variable {p : Program} {l : Launch} {e : Env} {s : State} {mt : MethodId} {args : Array Value} {below : List Frame} {meth : Method} {c : Code}
abbrev rm_Mo_endOf : Room := { frames := 2, cells := 0, slots := 0, locals := 43 }
set_option maxHeartbeats 4000000 in
set_option maxRecDepth 100000 in
theorem t_Mo_endOf_74 {G : Gc} {P : Int32 → Mm → Prop} (E : En G R_Mo b_Mo_endOf 5 p s mt args meth c) (hr : meth.sig.returnType = some .int) {K4 : Mm → Nat → Int32 → Int32 → Prop} (hK4 : ∀ (m : Mm) (v0 : Nat) (v2 : Int32) (v3 : Int32) (H : Heap) (locs : List Loc) (ls : Array Slot), K4 m v0 v2 v3 → pic G m H → va_S (fr G) s.heap H locs → lv_has ls 5 [(0, rn v0), (2, .int v2), (3, .int v3)] → W p l e rm_Mo_endOf s mt args below meth c H locs 0 0 (MQ below (PoI G P) args s 0 0 (fr G)) (F0 mt 4 ls [])) (m : Mm) (v0 : Nat) (v2 : Int32) (s0 : Int32) (H : Heap) (locs : List Loc) (ls : Array Slot) (h : wp_Mo_endOf_74 K4 P m v0 v2 s0) (hp : pic G m H) (hS : va_S (fr G) s.heap H locs) (hl : lv_has ls 5 [(0, rn v0), (2, .int v2)]) : W p l e rm_Mo_endOf s mt args below meth c H locs 0 0 (MQ below (PoI G P) args s 0 0 (fr G)) (F0 mt 74 ls [.int s0]) := by
  have hx := E.1
  have hb := E.2.1
  unfold wp_Mo_endOf_74 at h
  refine lv_istore_n (lv' := [(3, .int s0), (0, rn v0), (2, .int v2)]) hx hb d_Mo_endOf_74 rfl hl (by decide) rfl (fun ls hl => ?_)
  refine lv_goto (tgt := 4) hx hb d_Mo_endOf_75 (by decide) ?_
  exact hK4 m v0 v2 s0 _ _ _ h hp hS (lv_sub hl [1, 2, 0] rfl)
set_option maxHeartbeats 4000000 in
set_option maxRecDepth 100000 in
theorem t_Mo_endOf_48 {G : Gc} {P : Int32 → Mm → Prop} (E : En G R_Mo b_Mo_endOf 5 p s mt args meth c) (hr : meth.sig.returnType = some .int) {K4 : Mm → Nat → Int32 → Int32 → Prop} (hK4 : ∀ (m : Mm) (v0 : Nat) (v2 : Int32) (v3 : Int32) (H : Heap) (locs : List Loc) (ls : Array Slot), K4 m v0 v2 v3 → pic G m H → va_S (fr G) s.heap H locs → lv_has ls 5 [(0, rn v0), (2, .int v2), (3, .int v3)] → W p l e rm_Mo_endOf s mt args below meth c H locs 0 0 (MQ below (PoI G P) args s 0 0 (fr G)) (F0 mt 4 ls [])) (m : Mm) (v0 : Nat) (v3 : Int32) (v4 : Int32) (s0 : Int32) (s1 : Int32) (H : Heap) (locs : List Loc) (ls : Array Slot) (h : wp_Mo_endOf_48 K4 P m v0 v3 v4 s0 s1) (hp : pic G m H) (hS : va_S (fr G) s.heap H locs) (hl : lv_has ls 5 [(0, rn v0), (3, .int v3), (4, .int v4)]) : W p l e rm_Mo_endOf s mt args below meth c H locs 0 0 (MQ below (PoI G P) args s 0 0 (fr G)) (F0 mt 48 ls [.int s0, .int s1]) := by
  have hx := E.1
  have hb := E.2.1
  unfold wp_Mo_endOf_48 at h
  refine lv_iadd hx hb d_Mo_endOf_48 ?_
  refine lv_topi (fun x_1 ex_1 => ?_)
  replace h := h x_1 ex_1
  refine lv_istore_n (lv' := [(2, .int x_1), (0, rn v0), (3, .int v3), (4, .int v4)]) hx hb d_Mo_endOf_49 rfl hl (by decide) rfl (fun ls hl => ?_)
  refine lv_iload_n hx hb d_Mo_endOf_50 rfl (lv_at hl 0 rfl) ?_
  refine lv_if_ne (tgt := 56) hx hb d_Mo_endOf_51 (by decide) (fun g_2 => ?_) (fun g_2 => ?_)
  · replace h := h.2 g_2
    refine lv_iload hx hb d_Mo_endOf_56 (lv_at hl 3 rfl) ?_
    refine lv_bipush (v := 37) hx hb d_Mo_endOf_58 (by decide) ?_
    refine lv_icmp_ne (tgt := 71) hx hb d_Mo_endOf_60 (by decide) (fun g_3 => ?_) (fun g_3 => ?_)
    · replace h := h.2 g_3
      refine lv_iload_n hx hb d_Mo_endOf_71 rfl (lv_at hl 2 rfl) ?_
      refine lv_iconst (v := 1) hx hb d_Mo_endOf_72 (by decide) ?_
      refine lv_iadd hx hb d_Mo_endOf_73 ?_
      refine lv_topi (fun x_4 ex_4 => ?_)
      replace h := h x_4 ex_4
      exact t_Mo_endOf_74 E hr hK4 m v0 x_1 x_4 _ _ _ h hp hS (lv_sub hl [1, 0] rfl)
    · replace h := h.1 g_3
      refine rr_aload_n hx hb d_Mo_endOf_63 rfl (lv_at hl 1 rfl) ?_
      refine lv_iload_n hx hb d_Mo_endOf_64 rfl (lv_at hl 2 rfl) ?_
      obtain ⟨g_7, h⟩ := h
      refine mc_i hS (mc_runV (As := [.int v3]) (rest := []) E (c_Mo_behindRemark l G m v0 v3 _ h) wd_Mo_behindRemark ⟨lk_388, lk_389, lk_390⟩ rfl rfl ⟨Nat.le_of_ble_eq_true rfl, Nat.le_of_ble_eq_true rfl⟩ hp hS g_7 (by decide) rfl rfl rfl hl.1 rfl (lv_room (Nat.le_of_ble_eq_true rfl)) d_Mo_endOf_65 ⟨Nat.le_of_ble_eq_true rfl, Nat.le_of_ble_eq_true rfl⟩) (fun r_6 m_5 h H locs hp hS => ?_)
      try dsimp only at h
      refine lv_goto (tgt := 74) hx hb d_Mo_endOf_68 (by decide) ?_
      exact t_Mo_endOf_74 E hr hK4 m_5 v0 x_1 r_6 _ _ _ h hp hS (lv_sub hl [1, 0] rfl)
  · replace h := h.1 g_2
    refine lv_iload_n hx hb d_Mo_endOf_54 rfl (lv_at hl 2 rfl) ?_
    exact mp_iret E hr hp hS h d_Mo_endOf_55
set_option maxHeartbeats 4000000 in
set_option maxRecDepth 100000 in
theorem t_Mo_endOf_4 {G : Gc} {P : Int32 → Mm → Prop} (E : En G R_Mo b_Mo_endOf 5 p s mt args meth c) (hr : meth.sig.returnType = some .int) : ∀ (n : Nat) (m : Mm) (v0 : Nat) (v2 : Int32) (v3 : Int32) (H : Heap) (locs : List Loc) (ls : Array Slot) (_ : wp_Mo_endOf_4 P n m v0 v2 v3) (_ : pic G m H) (_ : va_S (fr G) s.heap H locs) (_ : lv_has ls 5 [(0, rn v0), (2, .int v2), (3, .int v3)]), W p l e rm_Mo_endOf s mt args below meth c H locs 0 0 (MQ below (PoI G P) args s 0 0 (fr G)) (F0 mt 4 ls []) := by
  intro n
  induction n with
  | zero => intro m v0 v2 v3 H locs ls h hp hS hl; exact h.elim
  | succ n ih =>
    intro m v0 v2 v3 H locs ls h hp hS hl
    have hx := E.1
    have hb := E.2.1
    unfold wp_Mo_endOf_4 at h
    refine lv_iload_n hx hb d_Mo_endOf_4 rfl (lv_at hl 2 rfl) ?_
    refine rr_aload_n hx hb d_Mo_endOf_5 rfl (lv_at hl 0 rfl) ?_
    obtain ⟨g_2, h⟩ := h
    refine rg_Mo_size E hp g_2 lk_336 d_Mo_endOf_6 (fun x_1 ex_1 => ?_)
    replace h := h x_1 ex_1
    refine rr_aload_n hx hb d_Mo_endOf_9 rfl (lv_at hl 0 rfl) ?_
    obtain ⟨g_4, h⟩ := h
    refine rg_Mo_job E hp g_4 lk_384 d_Mo_endOf_10 (fun x_3 ex_3 => ?_)
    replace h := h x_3 ex_3
    obtain ⟨g_6, g_7, h⟩ := h
    refine mp_iald (t0 := 1) E hp g_6 (by decide) rfl rfl g_7 d_Mo_endOf_13 (fun x_5 ex_5 => ?_)
    replace h := h x_5 ex_5
    refine lv_icmp_ge (tgt := 78) hx hb d_Mo_endOf_14 (by decide) (fun g_8 => ?_) (fun g_8 => ?_)
    · replace h := h.1 g_8
      refine lv_iconst (v := (-1)) hx hb d_Mo_endOf_78 (by decide) ?_
      exact mp_iret E hr hp hS h d_Mo_endOf_79
    · replace h := h.2 g_8
      refine rr_aload_n hx hb d_Mo_endOf_17 rfl (lv_at hl 0 rfl) ?_
      refine lv_iload_n hx hb d_Mo_endOf_18 rfl (lv_at hl 2 rfl) ?_
      obtain ⟨g_11, h⟩ := h
      refine mc_i hS (mc_runV (As := [.int v3]) (rest := []) E (c_Mo_sign l G m v0 v3 _ h) wd_Mo_sign ⟨lk_385, lk_386, lk_387⟩ rfl rfl ⟨Nat.le_of_ble_eq_true rfl, Nat.le_of_ble_eq_true rfl⟩ hp hS g_11 (by decide) rfl rfl rfl hl.1 rfl (lv_room (Nat.le_of_ble_eq_true rfl)) d_Mo_endOf_19 ⟨Nat.le_of_ble_eq_true rfl, Nat.le_of_ble_eq_true rfl⟩) (fun r_10 m_9 h H locs hp hS => ?_)
      try dsimp only at h
      refine lv_istore (lv' := [(4, .int r_10), (0, rn v0), (2, .int v2), (3, .int v3)]) hx hb d_Mo_endOf_22 hl (by decide) rfl (fun ls hl => ?_)
      refine lv_iload_n hx hb d_Mo_endOf_24 rfl (lv_at hl 2 rfl) ?_
      refine lv_iload hx hb d_Mo_endOf_25 (lv_at hl 0 rfl) ?_
      refine lv_bipush (v := 123) hx hb d_Mo_endOf_27 (by decide) ?_
      refine lv_icmp_ne (tgt := 36) hx hb d_Mo_endOf_29 (by decide) (fun g_12 => ?_) (fun g_12 => ?_)
      · replace h := h.2 g_12
        refine lv_iload hx hb d_Mo_endOf_36 (lv_at hl 0 rfl) ?_
        refine lv_bipush (v := 125) hx hb d_Mo_endOf_38 (by decide) ?_
        refine lv_icmp_ne (tgt := 47) hx hb d_Mo_endOf_40 (by decide) (fun g_13 => ?_) (fun g_13 => ?_)
        · replace h := h.2 g_13
          refine lv_iconst (v := 0) hx hb d_Mo_endOf_47 (by decide) ?_
          exact t_Mo_endOf_48 E hr ih m_9 v0 v3 r_10 0 v2 _ _ _ h hp hS (lv_sub hl [1, 3, 0] rfl)
        · replace h := h.1 g_13
          refine lv_iconst (v := (-1)) hx hb d_Mo_endOf_43 (by decide) ?_
          refine lv_goto (tgt := 48) hx hb d_Mo_endOf_44 (by decide) ?_
          exact t_Mo_endOf_48 E hr ih m_9 v0 v3 r_10 (-1) v2 _ _ _ h hp hS (lv_sub hl [1, 3, 0] rfl)
      · replace h := h.1 g_12
        refine lv_iconst (v := 1) hx hb d_Mo_endOf_32 (by decide) ?_
        refine lv_goto (tgt := 48) hx hb d_Mo_endOf_33 (by decide) ?_
        exact t_Mo_endOf_48 E hr ih m_9 v0 v3 r_10 1 v2 _ _ _ h hp hS (lv_sub hl [1, 3, 0] rfl)
set_option maxHeartbeats 4000000 in
set_option maxRecDepth 100000 in
theorem t_Mo_endOf_0 {G : Gc} {P : Int32 → Mm → Prop} (E : En G R_Mo b_Mo_endOf 5 p s mt args meth c) (hr : meth.sig.returnType = some .int) (m : Mm) (v0 : Nat) (v1 : Int32) (H : Heap) (locs : List Loc) (ls : Array Slot) (h : wp_Mo_endOf_0 P m v0 v1) (hp : pic G m H) (hS : va_S (fr G) s.heap H locs) (hl : lv_has ls 5 [(0, rn v0), (1, .int v1)]) : W p l e rm_Mo_endOf s mt args below meth c H locs 0 0 (MQ below (PoI G P) args s 0 0 (fr G)) (F0 mt 0 ls []) := by
  have hx := E.1
  have hb := E.2.1
  unfold wp_Mo_endOf_0 at h
  refine lv_iconst (v := 0) hx hb d_Mo_endOf_0 (by decide) ?_
  refine lv_istore_n (lv' := [(2, .int 0), (0, rn v0), (1, .int v1)]) hx hb d_Mo_endOf_1 rfl hl (by decide) rfl (fun ls hl => ?_)
  refine lv_iload_n hx hb d_Mo_endOf_2 rfl (lv_at hl 2 rfl) ?_
  refine lv_istore_n (lv' := [(3, .int v1), (2, .int 0), (0, rn v0), (1, .int v1)]) hx hb d_Mo_endOf_3 rfl hl (by decide) rfl (fun ls hl => ?_)
  obtain ⟨n_1, h⟩ := h
  exact t_Mo_endOf_4 E hr n_1 m v0 0 v1 _ _ _ h hp hS (lv_sub hl [2, 1, 0] rfl)
set_option maxHeartbeats 4000000 in
set_option maxRecDepth 100000 in
theorem c_Mo_endOf (l : Launch) (G : Gc) (m : Mm) (v0 : Nat) (v1 : Int32) (P : Int32 → Mm → Prop) (h : wp_Mo_endOf m v0 v1 P) : Met l y_Mo_endOf (Cond.code y_Mo_endOf b_Mo_endOf 5 (some .int) :: lw_good) rm_Mo_endOf (Pre9 G m [rn v0, .int v1]) (PoI G P) 0 0 (fr G) := by
  refine Met.ofW (cc := b_Mo_endOf) (maxL := 5) (ret := (some .int)) (by decide) rfl ?_
  intro p e s mt args below meth c s₁ B hml hv
  obtain ⟨rfl, hp, hC⟩ := hv
  have hts := atoms_spec (ws := Cond.code y_Mo_endOf b_Mo_endOf 5 (some .int) :: lw_good) B.pre
  have E : En G R_Mo b_Mo_endOf 5 p s mt _ meth c := ⟨B.exec, B.bytes, hml, findClass_of_methodNamed B.named, fun w hw => hts w (List.mem_cons_of_mem _ hw), hC, B.notSynchronized⟩
  have hr := B.returns
  have hl := lv_entry [rn v0, .int v1] (n := 5) (by simp [lg_sl, rn_cat, cat_int, cat_long, cat_ref, cat_null])
  rw [lg_entry_eq]
  generalize (lg_sl [rn v0, .int v1] ++ List.replicate (5 - (lg_sl [rn v0, .int v1]).length) Slot.unset).toArray = ls at hl ⊢
  have hl : lv_has ls 5 [(0, rn v0), (1, .int v1)] := by simpa [lv_args, rn_cat, cat_int, cat_long, cat_ref, cat_null] using hl
  exact t_Mo_endOf_0 E hr m v0 v1 _ _ _ h hp va_S.rf (lv_sub hl [0, 1] rfl)
abbrev rm_Mo_lay : Room := { frames := 0, cells := 0, slots := 0, locals := 0 }
set_option maxHeartbeats 4000000 in
set_option maxRecDepth 100000 in
theorem t_Mo_lay_0 {G : Gc} {P : Mm → Prop} (E : En G R_Mo b_Mo_lay 2 p s mt args meth c) (hr : meth.sig.returnType = none) (m : Mm) (v0 : Nat) (v1 : Int32) (H : Heap) (locs : List Loc) (ls : Array Slot) (h : wp_Mo_lay_0 P m v0 v1) (hp : pic G m H) (hS : va_S (fr G) s.heap H locs) (hl : lv_has ls 2 [(0, rn v0), (1, .int v1)]) : W p l e rm_Mo_lay s mt args below meth c H locs 0 0 (MQ below (PoV G P) args s 0 0 (fr G)) (F0 mt 0 ls []) := by
  have hx := E.1
  have hb := E.2.1
  unfold wp_Mo_lay_0 at h
  refine rr_aload_n hx hb d_Mo_lay_0 rfl (lv_at hl 0 rfl) ?_
  obtain ⟨g_2, h⟩ := h
  refine rg_Mo_high E hp g_2 lk_391 d_Mo_lay_1 (fun x_1 ex_1 => ?_)
  replace h := h x_1 ex_1
  refine lv_bipush (v := 20) hx hb d_Mo_lay_4 (by decide) ?_
  refine lv_icmp_ne (tgt := 16) hx hb d_Mo_lay_6 (by decide) (fun g_3 => ?_) (fun g_3 => ?_)
  · replace h := h.2 g_3
    refine rr_aload_n hx hb d_Mo_lay_16 rfl (lv_at hl 0 rfl) ?_
    obtain ⟨g_5, h⟩ := h
    refine rg_Mo_stack E hp g_5 lk_352 d_Mo_lay_17 (fun x_4 ex_4 => ?_)
    replace h := h x_4 ex_4
    refine rr_aload_n hx hb d_Mo_lay_20 rfl (lv_at hl 0 rfl) ?_
    obtain ⟨g_7, h⟩ := h
    refine rg_Mo_high E hp g_7 lk_391 d_Mo_lay_21 (fun x_6 ex_6 => ?_)
    replace h := h x_6 ex_6
    refine lv_iload_n hx hb d_Mo_lay_24 rfl (lv_at hl 1 rfl) ?_
    obtain ⟨g_8, g_9, h⟩ := h
    refine mp_iast (t0 := 1) E hp hS g_8 (by decide) rfl cw_48 rfl g_9 d_Mo_lay_25 (fun m_10 em_10 H locs hp hS => ?_)
    replace h := h m_10 em_10
    refine rr_aload_n hx hb d_Mo_lay_26 rfl (lv_at hl 0 rfl) ?_
    refine lv_dup hx hb d_Mo_lay_27 (rn_cat _) ?_
    obtain ⟨g_12, h⟩ := h
    refine rg_Mo_high E hp g_12 lk_391 d_Mo_lay_28 (fun x_11 ex_11 => ?_)
    replace h := h x_11 ex_11
    refine lv_iconst (v := 1) hx hb d_Mo_lay_31 (by decide) ?_
    refine lv_iadd hx hb d_Mo_lay_32 ?_
    refine lv_topi (fun x_13 ex_13 => ?_)
    replace h := h x_13 ex_13
    obtain ⟨g_14, h⟩ := h
    refine rp_Mo_high E hp hS g_14 lk_391 d_Mo_lay_33 (fun m_15 em_15 H locs hp hS => ?_)
    replace h := h m_15 em_15
    exact mp_vret E hr hp hS h d_Mo_lay_36
  · replace h := h.1 g_3
    refine rr_aload_n hx hb d_Mo_lay_9 rfl (lv_at hl 0 rfl) ?_
    refine lv_bipush (v := 6) hx hb d_Mo_lay_10 (by decide) ?_
    obtain ⟨g_16, h⟩ := h
    refine rp_Mo_error E hp hS g_16 lk_392 d_Mo_lay_12 (fun m_17 em_17 H locs hp hS => ?_)
    replace h := h m_17 em_17
    exact mp_vret E hr hp hS h d_Mo_lay_15
set_option maxHeartbeats 4000000 in
set_option maxRecDepth 100000 in
theorem c_Mo_lay (l : Launch) (G : Gc) (m : Mm) (v0 : Nat) (v1 : Int32) (P : Mm → Prop) (h : wp_Mo_lay m v0 v1 P) : Met l y_Mo_lay (Cond.code y_Mo_lay b_Mo_lay 2 none :: lw_good) rm_Mo_lay (Pre9 G m [rn v0, .int v1]) (PoV G P) 0 0 (fr G) := by
  refine Met.ofW (cc := b_Mo_lay) (maxL := 2) (ret := none) (by decide) rfl ?_
  intro p e s mt args below meth c s₁ B hml hv
  obtain ⟨rfl, hp, hC⟩ := hv
  have hts := atoms_spec (ws := Cond.code y_Mo_lay b_Mo_lay 2 none :: lw_good) B.pre
  have E : En G R_Mo b_Mo_lay 2 p s mt _ meth c := ⟨B.exec, B.bytes, hml, findClass_of_methodNamed B.named, fun w hw => hts w (List.mem_cons_of_mem _ hw), hC, B.notSynchronized⟩
  have hr := B.returns
  have hl := lv_entry [rn v0, .int v1] (n := 2) (by simp [lg_sl, rn_cat, cat_int, cat_long, cat_ref, cat_null])
  rw [lg_entry_eq]
  generalize (lg_sl [rn v0, .int v1] ++ List.replicate (2 - (lg_sl [rn v0, .int v1]).length) Slot.unset).toArray = ls at hl ⊢
  have hl : lv_has ls 2 [(0, rn v0), (1, .int v1)] := by simpa [lv_args, rn_cat, cat_int, cat_long, cat_ref, cat_null] using hl
  exact t_Mo_lay_0 E hr m v0 v1 _ _ _ h hp va_S.rf (lv_sub hl [0, 1] rfl)
abbrev rm_Mo_wants : Room := { frames := 0, cells := 0, slots := 0, locals := 0 }
set_option maxHeartbeats 4000000 in
set_option maxRecDepth 100000 in
theorem t_Mo_wants_0 {G : Gc} {P : Int32 → Mm → Prop} (E : En G R_Mo b_Mo_wants 1 p s mt args meth c) (hr : meth.sig.returnType = some .int) (m : Mm) (v0 : Int32) (H : Heap) (locs : List Loc) (ls : Array Slot) (h : wp_Mo_wants_0 P m v0) (hp : pic G m H) (hS : va_S (fr G) s.heap H locs) (hl : lv_has ls 1 [(0, .int v0)]) : W p l e rm_Mo_wants s mt args below meth c H locs 0 0 (MQ below (PoI G P) args s 0 0 (fr G)) (F0 mt 0 ls []) := by
  have hx := E.1
  have hb := E.2.1
  unfold wp_Mo_wants_0 at h
  refine lv_iload_n hx hb d_Mo_wants_0 rfl (lv_at hl 0 rfl) ?_
  by_cases g_1 : v0 = 42
  · replace h := h.1 g_1
    refine lv_lookup (x := v0) (off := 149) (tgt := 150) hx hb d_Mo_wants_1 (by decide) (by rw [g_1]; decide) (by decide) ?_
    refine lv_iconst (v := 2) hx hb d_Mo_wants_150 (by decide) ?_
    exact mp_iret E hr hp hS h d_Mo_wants_151
  · replace h := h.2 g_1
    by_cases g_2 : v0 = 43
    · replace h := h.1 g_2
      refine lv_lookup (x := v0) (off := 149) (tgt := 150) hx hb d_Mo_wants_1 (by decide) (by rw [g_2]; decide) (by decide) ?_
      refine lv_iconst (v := 2) hx hb d_Mo_wants_150 (by decide) ?_
      exact mp_iret E hr hp hS h d_Mo_wants_151
    · replace h := h.2 g_2
      by_cases g_3 : v0 = 45
      · replace h := h.1 g_3
        refine lv_lookup (x := v0) (off := 149) (tgt := 150) hx hb d_Mo_wants_1 (by decide) (by rw [g_3]; decide) (by decide) ?_
        refine lv_iconst (v := 2) hx hb d_Mo_wants_150 (by decide) ?_
        exact mp_iret E hr hp hS h d_Mo_wants_151
      · replace h := h.2 g_3
        by_cases g_4 : v0 = 68
        · replace h := h.1 g_4
          refine lv_lookup (x := v0) (off := 151) (tgt := 152) hx hb d_Mo_wants_1 (by decide) (by rw [g_4]; decide) (by decide) ?_
          refine lv_iconst (v := 3) hx hb d_Mo_wants_152 (by decide) ?_
          exact mp_iret E hr hp hS h d_Mo_wants_153
        · replace h := h.2 g_4
          by_cases g_5 : v0 = 82
          · replace h := h.1 g_5
            refine lv_lookup (x := v0) (off := 149) (tgt := 150) hx hb d_Mo_wants_1 (by decide) (by rw [g_5]; decide) (by decide) ?_
            refine lv_iconst (v := 2) hx hb d_Mo_wants_150 (by decide) ?_
            exact mp_iret E hr hp hS h d_Mo_wants_151
          · replace h := h.2 g_5
            by_cases g_6 : v0 = 99
            · replace h := h.1 g_6
              refine lv_lookup (x := v0) (off := 147) (tgt := 148) hx hb d_Mo_wants_1 (by decide) (by rw [g_6]; decide) (by decide) ?_
              refine lv_iconst (v := 1) hx hb d_Mo_wants_148 (by decide) ?_
              exact mp_iret E hr hp hS h d_Mo_wants_149
            · replace h := h.2 g_6
              by_cases g_7 : v0 = 100
              · replace h := h.1 g_7
                refine lv_lookup (x := v0) (off := 147) (tgt := 148) hx hb d_Mo_wants_1 (by decide) (by rw [g_7]; decide) (by decide) ?_
                refine lv_iconst (v := 1) hx hb d_Mo_wants_148 (by decide) ?_
                exact mp_iret E hr hp hS h d_Mo_wants_149
              · replace h := h.2 g_7
                by_cases g_8 : v0 = 102
                · replace h := h.1 g_8
                  refine lv_lookup (x := v0) (off := 149) (tgt := 150) hx hb d_Mo_wants_1 (by decide) (by rw [g_8]; decide) (by decide) ?_
                  refine lv_iconst (v := 2) hx hb d_Mo_wants_150 (by decide) ?_
                  exact mp_iret E hr hp hS h d_Mo_wants_151
                · replace h := h.2 g_8
                  by_cases g_9 : v0 = 103
                  · replace h := h.1 g_9
                    refine lv_lookup (x := v0) (off := 149) (tgt := 150) hx hb d_Mo_wants_1 (by decide) (by rw [g_9]; decide) (by decide) ?_
                    refine lv_iconst (v := 2) hx hb d_Mo_wants_150 (by decide) ?_
                    exact mp_iret E hr hp hS h d_Mo_wants_151
                  · replace h := h.2 g_9
                    by_cases g_10 : v0 = 109
                    · replace h := h.1 g_10
                      refine lv_lookup (x := v0) (off := 147) (tgt := 148) hx hb d_Mo_wants_1 (by decide) (by rw [g_10]; decide) (by decide) ?_
                      refine lv_iconst (v := 1) hx hb d_Mo_wants_148 (by decide) ?_
                      exact mp_iret E hr hp hS h d_Mo_wants_149
                    · replace h := h.2 g_10
                      by_cases g_11 : v0 = 111
                      · replace h := h.1 g_11
                        refine lv_lookup (x := v0) (off := 149) (tgt := 150) hx hb d_Mo_wants_1 (by decide) (by rw [g_11]; decide) (by decide) ?_
                        refine lv_iconst (v := 2) hx hb d_Mo_wants_150 (by decide) ?_
                        exact mp_iret E hr hp hS h d_Mo_wants_151
                      · replace h := h.2 g_11
                        by_cases g_12 : v0 = 112
                        · replace h := h.1 g_12
                          refine lv_lookup (x := v0) (off := 147) (tgt := 148) hx hb d_Mo_wants_1 (by decide) (by rw [g_12]; decide) (by decide) ?_
                          refine lv_iconst (v := 1) hx hb d_Mo_wants_148 (by decide) ?_
                          exact mp_iret E hr hp hS h d_Mo_wants_149
                        · replace h := h.2 g_12
                          by_cases g_13 : v0 = 114
                          · replace h := h.1 g_13
                            refine lv_lookup (x := v0) (off := 147) (tgt := 148) hx hb d_Mo_wants_1 (by decide) (by rw [g_13]; decide) (by decide) ?_
                            refine lv_iconst (v := 1) hx hb d_Mo_wants_148 (by decide) ?_
                            exact mp_iret E hr hp hS h d_Mo_wants_149
                          · replace h := h.2 g_13
                            by_cases g_14 : v0 = 116
                            · replace h := h.1 g_14
                              refine lv_lookup (x := v0) (off := 147) (tgt := 148) hx hb d_Mo_wants_1 (by decide) (by rw [g_14]; decide) (by decide) ?_
                              refine lv_iconst (v := 1) hx hb d_Mo_wants_148 (by decide) ?_
                              exact mp_iret E hr hp hS h d_Mo_wants_149
                            · replace h := h.2 g_14
                              by_cases g_15 : v0 = 119
                              · replace h := h.1 g_15
                                refine lv_lookup (x := v0) (off := 149) (tgt := 150) hx hb d_Mo_wants_1 (by decide) (by rw [g_15]; decide) (by decide) ?_
                                refine lv_iconst (v := 2) hx hb d_Mo_wants_150 (by decide) ?_
                                exact mp_iret E hr hp hS h d_Mo_wants_151
                              · replace h := h.2 g_15
                                by_cases g_16 : v0 = 120
                                · replace h := h.1 g_16
                                  refine lv_lookup (x := v0) (off := 149) (tgt := 150) hx hb d_Mo_wants_1 (by decide) (by rw [g_16]; decide) (by decide) ?_
                                  refine lv_iconst (v := 2) hx hb d_Mo_wants_150 (by decide) ?_
                                  exact mp_iret E hr hp hS h d_Mo_wants_151
                                · replace h := h.2 g_16
                                  by_cases g_17 : v0 = 123
                                  · replace h := h.1 g_17
                                    refine lv_lookup (x := v0) (off := 147) (tgt := 148) hx hb d_Mo_wants_1 (by decide) (by rw [g_17]; decide) (by decide) ?_
                                    refine lv_iconst (v := 1) hx hb d_Mo_wants_148 (by decide) ?_
                                    exact mp_iret E hr hp hS h d_Mo_wants_149
                                  · replace h := h.2 g_17
                                    refine lv_lookup (x := v0) (off := 153) (tgt := 154) hx hb d_Mo_wants_1 (by decide) (by show Op.lookupswitch.offset [(42, 149), (43, 149), (45, 149), (68, 151), (82, 149), (99, 147), (100, 147), (102, 149), (103, 149), (109, 147), (111, 149), (112, 147), (114, 147), (116, 147), (119, 149), (120, 149), (123, 147)] _ _ = _; rw [lv_osw g_1 (by decide), lv_osw g_2 (by decide), lv_osw g_3 (by decide), lv_osw g_4 (by decide), lv_osw g_5 (by decide), lv_osw g_6 (by decide), lv_osw g_7 (by decide), lv_osw g_8 (by decide), lv_osw g_9 (by decide), lv_osw g_10 (by decide), lv_osw g_11 (by decide), lv_osw g_12 (by decide), lv_osw g_13 (by decide), lv_osw g_14 (by decide), lv_osw g_15 (by decide), lv_osw g_16 (by decide), lv_osw g_17 (by decide)]; rfl) (by decide) ?_
                                    refine lv_iconst (v := 0) hx hb d_Mo_wants_154 (by decide) ?_
                                    exact mp_iret E hr hp hS h d_Mo_wants_155
set_option maxHeartbeats 4000000 in
set_option maxRecDepth 100000 in
theorem c_Mo_wants (l : Launch) (G : Gc) (m : Mm) (v0 : Int32) (P : Int32 → Mm → Prop) (h : wp_Mo_wants m v0 P) : Met l y_Mo_wants (Cond.code y_Mo_wants b_Mo_wants 1 (some .int) :: lw_good) rm_Mo_wants (Pre9 G m [.int v0]) (PoI G P) 0 0 (fr G) := by
  refine Met.ofW (cc := b_Mo_wants) (maxL := 1) (ret := (some .int)) (by decide) rfl ?_
  intro p e s mt args below meth c s₁ B hml hv
  obtain ⟨rfl, hp, hC⟩ := hv
  have hts := atoms_spec (ws := Cond.code y_Mo_wants b_Mo_wants 1 (some .int) :: lw_good) B.pre
  have E : En G R_Mo b_Mo_wants 1 p s mt _ meth c := ⟨B.exec, B.bytes, hml, findClass_of_methodNamed B.named, fun w hw => hts w (List.mem_cons_of_mem _ hw), hC, B.notSynchronized⟩
  have hr := B.returns
  have hl := lv_entry [.int v0] (n := 1) (by simp [lg_sl, rn_cat, cat_int, cat_long, cat_ref, cat_null])
  rw [lg_entry_eq]
  generalize (lg_sl [.int v0] ++ List.replicate (1 - (lg_sl [.int v0]).length) Slot.unset).toArray = ls at hl ⊢
  have hl : lv_has ls 1 [(0, .int v0)] := by simpa [lv_args, rn_cat, cat_int, cat_long, cat_ref, cat_null] using hl
  exact t_Mo_wants_0 E hr m v0 _ _ _ h hp va_S.rf (lv_sub hl [0] rfl)
abbrev rm_Mo_show : Room := { frames := 0, cells := 0, slots := 0, locals := 0 }
set_option maxHeartbeats 4000000 in
set_option maxRecDepth 100000 in
theorem t_Mo_show_25 {G : Gc} {P : Mm → Prop} (E : En G R_Mo b_Mo_show 2 p s mt args meth c) (hr : meth.sig.returnType = none) : ∀ (n : Nat) (m : Mm) (v0 : Nat) (v1 : Int32) (H : Heap) (locs : List Loc) (ls : Array Slot) (_ : wp_Mo_show_25 P n m v0 v1) (_ : pic G m H) (_ : va_S (fr G) s.heap H locs) (_ : lv_has ls 2 [(0, rn v0), (1, .int v1)]), W p l e rm_Mo_show s mt args below meth c H locs 0 0 (MQ below (PoV G P) args s 0 0 (fr G)) (F0 mt 25 ls []) := by
  intro n
  induction n with
  | zero => intro m v0 v1 H locs ls h hp hS hl; exact h.elim
  | succ n ih =>
    intro m v0 v1 H locs ls h hp hS hl
    have hx := E.1
    have hb := E.2.1
    unfold wp_Mo_show_25 at h
    refine lv_iload_n hx hb d_Mo_show_25 rfl (lv_at hl 1 rfl) ?_
    refine rr_aload_n hx hb d_Mo_show_26 rfl (lv_at hl 0 rfl) ?_
    obtain ⟨g_2, h⟩ := h
    refine rg_Mo_setting E hp g_2 lk_339 d_Mo_show_27 (fun x_1 ex_1 => ?_)
    replace h := h x_1 ex_1
    refine lv_iconst (v := 1) hx hb d_Mo_show_30 (by decide) ?_
    obtain ⟨g_4, g_5, h⟩ := h
    refine mp_iald (t0 := 1) E hp g_4 (by decide) rfl rfl g_5 d_Mo_show_31 (fun x_3 ex_3 => ?_)
    replace h := h x_3 ex_3
    refine lv_icmp_ge (tgt := 72) hx hb d_Mo_show_32 (by decide) (fun g_6 => ?_) (fun g_6 => ?_)
    · replace h := h.1 g_6
      refine rr_aload_n hx hb d_Mo_show_72 rfl (lv_at hl 0 rfl) ?_
      refine lv_iconst (v := 0) hx hb d_Mo_show_73 (by decide) ?_
      obtain ⟨g_7, h⟩ := h
      refine rp_Mo_marks E hp hS g_7 lk_393 d_Mo_show_74 (fun m_8 em_8 H locs hp hS => ?_)
      replace h := h m_8 em_8
      exact mp_vret E hr hp hS h d_Mo_show_77
    · replace h := h.2 g_6
      refine rr_aload_n hx hb d_Mo_show_35 rfl (lv_at hl 0 rfl) ?_
      obtain ⟨g_10, h⟩ := h
      refine rg_Mo_pages E hp g_10 lk_338 d_Mo_show_36 (fun x_9 ex_9 => ?_)
      replace h := h x_9 ex_9
      refine lv_bipush (v := 40) hx hb d_Mo_show_39 (by decide) ?_
      refine rr_aload_n hx hb d_Mo_show_41 rfl (lv_at hl 0 rfl) ?_
      obtain ⟨g_12, h⟩ := h
      refine rg_Mo_job E hp g_12 lk_384 d_Mo_show_42 (fun x_11 ex_11 => ?_)
      replace h := h x_11 ex_11
      refine lv_imul hx hb d_Mo_show_45 ?_
      refine lv_topi (fun x_13 ex_13 => ?_)
      replace h := h x_13 ex_13
      refine rr_aload_n hx hb d_Mo_show_46 rfl (lv_at hl 0 rfl) ?_
      obtain ⟨g_15, h⟩ := h
      refine rg_Mo_shown E hp g_15 lk_394 d_Mo_show_47 (fun x_14 ex_14 => ?_)
      replace h := h x_14 ex_14
      refine lv_iadd hx hb d_Mo_show_50 ?_
      refine lv_topi (fun x_16 ex_16 => ?_)
      replace h := h x_16 ex_16
      refine rr_aload_n hx hb d_Mo_show_51 rfl (lv_at hl 0 rfl) ?_
      obtain ⟨g_18, h⟩ := h
      refine rg_Mo_marks E hp g_18 lk_393 d_Mo_show_52 (fun x_17 ex_17 => ?_)
      replace h := h x_17 ex_17
      obtain ⟨g_19, g_20, h⟩ := h
      refine mp_iast (t0 := 1) E hp hS g_19 (by decide) rfl cw_31 rfl g_20 d_Mo_show_55 (fun m_21 em_21 H locs hp hS => ?_)
      replace h := h m_21 em_21
      refine rr_aload_n hx hb d_Mo_show_56 rfl (lv_at hl 0 rfl) ?_
      refine lv_dup hx hb d_Mo_show_57 (rn_cat _) ?_
      obtain ⟨g_23, h⟩ := h
      refine rg_Mo_shown E hp g_23 lk_394 d_Mo_show_58 (fun x_22 ex_22 => ?_)
      replace h := h x_22 ex_22
      refine lv_iconst (v := 1) hx hb d_Mo_show_61 (by decide) ?_
      refine lv_iadd hx hb d_Mo_show_62 ?_
      refine lv_topi (fun x_24 ex_24 => ?_)
      replace h := h x_24 ex_24
      obtain ⟨g_25, h⟩ := h
      refine rp_Mo_shown E hp hS g_25 lk_394 d_Mo_show_63 (fun m_26 em_26 H locs hp hS => ?_)
      replace h := h m_26 em_26
      obtain ⟨x_27, ex_27⟩ : ∃ y : Int32, y = v1 + 1 := ⟨_, rfl⟩
      replace h := h x_27 ex_27
      refine lv_iinc (v := x_27) (lv' := [(1, .int x_27), (0, rn v0)]) hx hb d_Mo_show_66 hl (k := 1) rfl (by rw [ex_27]; rfl) (by decide) (by simp [rn_cat]) (fun ls hl => ?_)
      refine lv_goto (tgt := 25) hx hb d_Mo_show_69 (by decide) ?_
      exact ih m_26 v0 x_27 _ _ _ h hp hS (lv_sub hl [1, 0] rfl)
set_option maxHeartbeats 4000000 in
set_option maxRecDepth 100000 in
theorem t_Mo_show_0 {G : Gc} {P : Mm → Prop} (E : En G R_Mo b_Mo_show 2 p s mt args meth c) (hr : meth.sig.returnType = none) (m : Mm) (v0 : Nat) (H : Heap) (locs : List Loc) (ls : Array Slot) (h : wp_Mo_show_0 P m v0) (hp : pic G m H) (hS : va_S (fr G) s.heap H locs) (hl : lv_has ls 2 [(0, rn v0)]) : W p l e rm_Mo_show s mt args below meth c H locs 0 0 (MQ below (PoV G P) args s 0 0 (fr G)) (F0 mt 0 ls []) := by
  have hx := E.1
  have hb := E.2.1
  unfold wp_Mo_show_0 at h
  refine rr_aload_n hx hb d_Mo_show_0 rfl (lv_at hl 0 rfl) ?_
  obtain ⟨g_2, h⟩ := h
  refine rg_Mo_shown E hp g_2 lk_394 d_Mo_show_1 (fun x_1 ex_1 => ?_)
  replace h := h x_1 ex_1
  refine rr_aload_n hx hb d_Mo_show_4 rfl (lv_at hl 0 rfl) ?_
  obtain ⟨g_4, h⟩ := h
  refine rg_Mo_setting E hp g_4 lk_339 d_Mo_show_5 (fun x_3 ex_3 => ?_)
  replace h := h x_3 ex_3
  refine lv_iconst (v := 1) hx hb d_Mo_show_8 (by decide) ?_
  obtain ⟨g_6, g_7, h⟩ := h
  refine mp_iald (t0 := 1) E hp g_6 (by decide) rfl rfl g_7 d_Mo_show_9 (fun x_5 ex_5 => ?_)
  replace h := h x_5 ex_5
  refine lv_iadd hx hb d_Mo_show_10 ?_
  refine lv_topi (fun x_8 ex_8 => ?_)
  replace h := h x_8 ex_8
  refine lv_bipush (v := 40) hx hb d_Mo_show_11 (by decide) ?_
  refine lv_icmp_le (tgt := 23) hx hb d_Mo_show_13 (by decide) (fun g_9 => ?_) (fun g_9 => ?_)
  · replace h := h.1 g_9
    refine lv_iconst (v := 0) hx hb d_Mo_show_23 (by decide) ?_
    refine lv_istore_n (lv' := [(1, .int 0), (0, rn v0)]) hx hb d_Mo_show_24 rfl hl (by decide) (by simp [rn_cat]) (fun ls hl => ?_)
    obtain ⟨n_10, h⟩ := h
    exact t_Mo_show_25 E hr n_10 m v0 0 _ _ _ h hp hS (lv_sub hl [1, 0] rfl)
  · replace h := h.2 g_9
    refine rr_aload_n hx hb d_Mo_show_16 rfl (lv_at hl 0 rfl) ?_
    refine lv_bipush (v := 6) hx hb d_Mo_show_17 (by decide) ?_
    obtain ⟨g_11, h⟩ := h
    refine rp_Mo_error E hp hS g_11 lk_392 d_Mo_show_19 (fun m_12 em_12 H locs hp hS => ?_)
    replace h := h m_12 em_12
    exact mp_vret E hr hp hS h d_Mo_show_22
set_option maxHeartbeats 4000000 in
set_option maxRecDepth 100000 in
theorem c_Mo_show (l : Launch) (G : Gc) (m : Mm) (v0 : Nat) (P : Mm → Prop) (h : wp_Mo_show m v0 P) : Met l y_Mo_show (Cond.code y_Mo_show b_Mo_show 2 none :: lw_good) rm_Mo_show (Pre9 G m [rn v0]) (PoV G P) 0 0 (fr G) := by
  refine Met.ofW (cc := b_Mo_show) (maxL := 2) (ret := none) (by decide) rfl ?_
  intro p e s mt args below meth c s₁ B hml hv
  obtain ⟨rfl, hp, hC⟩ := hv
  have hts := atoms_spec (ws := Cond.code y_Mo_show b_Mo_show 2 none :: lw_good) B.pre
  have E : En G R_Mo b_Mo_show 2 p s mt _ meth c := ⟨B.exec, B.bytes, hml, findClass_of_methodNamed B.named, fun w hw => hts w (List.mem_cons_of_mem _ hw), hC, B.notSynchronized⟩
  have hr := B.returns
  have hl := lv_entry [rn v0] (n := 2) (by simp [lg_sl, rn_cat, cat_int, cat_long, cat_ref, cat_null])
  rw [lg_entry_eq]
  generalize (lg_sl [rn v0] ++ List.replicate (2 - (lg_sl [rn v0]).length) Slot.unset).toArray = ls at hl ⊢
  have hl : lv_has ls 2 [(0, rn v0)] := by simpa [lv_args, rn_cat, cat_int, cat_long, cat_ref, cat_null] using hl
  exact t_Mo_show_0 E hr m v0 _ _ _ h hp va_S.rf (lv_sub hl [0] rfl)
abbrev rm_Mo_beginLoop : Room := { frames := 3, cells := 0, slots := 0, locals := 67 }
set_option maxHeartbeats 4000000 in
set_option maxRecDepth 100000 in
theorem t_Mo_beginLoop_0 {G : Gc} {P : Mm → Prop} (E : En G R_Mo b_Mo_beginLoop 3 p s mt args meth c) (hr : meth.sig.returnType = none) (m : Mm) (v0 : Nat) (v1 : Int32) (H : Heap) (locs : List Loc) (ls : Array Slot) (h : wp_Mo_beginLoop_0 P m v0 v1) (hp : pic G m H) (hS : va_S (fr G) s.heap H locs) (hl : lv_has ls 3 [(0, rn v0), (1, .int v1)]) : W p l e rm_Mo_beginLoop s mt args below meth c H locs 0 0 (MQ below (PoV G P) args s 0 0 (fr G)) (F0 mt 0 ls []) := by
  have hx := E.1
  have hb := E.2.1
  unfold wp_Mo_beginLoop_0 at h
  refine rr_aload_n hx hb d_Mo_beginLoop_0 rfl (lv_at hl 0 rfl) ?_
  refine rr_aload_n hx hb d_Mo_beginLoop_1 rfl (lv_at hl 0 rfl) ?_
  obtain ⟨g_2, h⟩ := h
  refine rg_Mo_at E hp g_2 lk_395 d_Mo_beginLoop_2 (fun x_1 ex_1 => ?_)
  replace h := h x_1 ex_1
  obtain ⟨g_5, h⟩ := h
  refine mc_i hS (mc_runV (As := [.int x_1]) (rest := []) E (c_Mo_endOf l G m v0 x_1 _ h) wd_Mo_endOf ⟨lk_396, lk_397, lk_398⟩ rfl rfl ⟨Nat.le_of_ble_eq_true rfl, Nat.le_of_ble_eq_true rfl⟩ hp hS g_5 (by decide) rfl rfl rfl hl.1 rfl (lv_room (Nat.le_of_ble_eq_true rfl)) d_Mo_beginLoop_5 ⟨Nat.le_of_ble_eq_true rfl, Nat.le_of_ble_eq_true rfl⟩) (fun r_4 m_3 h H locs hp hS => ?_)
  try dsimp only at h
  refine lv_istore_n (lv' := [(2, .int r_4), (0, rn v0), (1, .int v1)]) hx hb d_Mo_beginLoop_8 rfl hl (by decide) rfl (fun ls hl => ?_)
  refine rr_aload_n hx hb d_Mo_beginLoop_9 rfl (lv_at hl 1 rfl) ?_
  obtain ⟨g_7, h⟩ := h
  refine rg_Mo_loops E hp g_7 lk_399 d_Mo_beginLoop_10 (fun x_6 ex_6 => ?_)
  replace h := h x_6 ex_6
  refine lv_iconst (v := 4) hx hb d_Mo_beginLoop_13 (by decide) ?_
  refine lv_icmp_ne (tgt := 26) hx hb d_Mo_beginLoop_14 (by decide) (fun g_8 => ?_) (fun g_8 => ?_)
  · replace h := h.2 g_8
    refine lv_iload_n hx hb d_Mo_beginLoop_26 rfl (lv_at hl 0 rfl) ?_
    refine lv_if_ge (tgt := 39) hx hb d_Mo_beginLoop_27 (by decide) (fun g_9 => ?_) (fun g_9 => ?_)
    · replace h := h.1 g_9
      refine lv_iload_n hx hb d_Mo_beginLoop_39 rfl (lv_at hl 2 rfl) ?_
      refine lv_iconst (v := 1) hx hb d_Mo_beginLoop_40 (by decide) ?_
      refine lv_icmp_ge (tgt := 52) hx hb d_Mo_beginLoop_41 (by decide) (fun g_10 => ?_) (fun g_10 => ?_)
      · replace h := h.1 g_10
        refine rr_aload_n hx hb d_Mo_beginLoop_52 rfl (lv_at hl 1 rfl) ?_
        obtain ⟨g_12, h⟩ := h
        refine rg_Mo_begin E hp g_12 lk_353 d_Mo_beginLoop_53 (fun x_11 ex_11 => ?_)
        replace h := h x_11 ex_11
        refine rr_aload_n hx hb d_Mo_beginLoop_56 rfl (lv_at hl 1 rfl) ?_
        obtain ⟨g_14, h⟩ := h
        refine rg_Mo_loops E hp g_14 lk_399 d_Mo_beginLoop_57 (fun x_13 ex_13 => ?_)
        replace h := h x_13 ex_13
        refine rr_aload_n hx hb d_Mo_beginLoop_60 rfl (lv_at hl 1 rfl) ?_
        obtain ⟨g_16, h⟩ := h
        refine rg_Mo_at E hp g_16 lk_395 d_Mo_beginLoop_61 (fun x_15 ex_15 => ?_)
        replace h := h x_15 ex_15
        obtain ⟨g_17, g_18, h⟩ := h
        refine mp_iast (t0 := 1) E hp hS g_17 (by decide) rfl cw_49 rfl g_18 d_Mo_beginLoop_64 (fun m_19 em_19 H locs hp hS => ?_)
        replace h := h m_19 em_19
        refine rr_aload_n hx hb d_Mo_beginLoop_65 rfl (lv_at hl 1 rfl) ?_
        obtain ⟨g_21, h⟩ := h
        refine rg_Mo_left E hp g_21 lk_354 d_Mo_beginLoop_66 (fun x_20 ex_20 => ?_)
        replace h := h x_20 ex_20
        refine rr_aload_n hx hb d_Mo_beginLoop_69 rfl (lv_at hl 1 rfl) ?_
        obtain ⟨g_23, h⟩ := h
        refine rg_Mo_loops E hp g_23 lk_399 d_Mo_beginLoop_70 (fun x_22 ex_22 => ?_)
        replace h := h x_22 ex_22
        refine lv_iload_n hx hb d_Mo_beginLoop_73 rfl (lv_at hl 2 rfl) ?_
        obtain ⟨g_24, g_25, h⟩ := h
        refine mp_iast (t0 := 1) E hp hS g_24 (by decide) rfl cw_50 rfl g_25 d_Mo_beginLoop_74 (fun m_26 em_26 H locs hp hS => ?_)
        replace h := h m_26 em_26
        refine rr_aload_n hx hb d_Mo_beginLoop_75 rfl (lv_at hl 1 rfl) ?_
        refine lv_dup hx hb d_Mo_beginLoop_76 (rn_cat _) ?_
        obtain ⟨g_28, h⟩ := h
        refine rg_Mo_loops E hp g_28 lk_399 d_Mo_beginLoop_77 (fun x_27 ex_27 => ?_)
        replace h := h x_27 ex_27
        refine lv_iconst (v := 1) hx hb d_Mo_beginLoop_80 (by decide) ?_
        refine lv_iadd hx hb d_Mo_beginLoop_81 ?_
        refine lv_topi (fun x_29 ex_29 => ?_)
        replace h := h x_29 ex_29
        obtain ⟨g_30, h⟩ := h
        refine rp_Mo_loops E hp hS g_30 lk_399 d_Mo_beginLoop_82 (fun m_31 em_31 H locs hp hS => ?_)
        replace h := h m_31 em_31
        exact mp_vret E hr hp hS h d_Mo_beginLoop_85
      · replace h := h.2 g_10
        refine rr_aload_n hx hb d_Mo_beginLoop_44 rfl (lv_at hl 1 rfl) ?_
        refine lv_iload_n hx hb d_Mo_beginLoop_45 rfl (lv_at hl 0 rfl) ?_
        obtain ⟨g_32, h⟩ := h
        refine rp_Mo_at E hp hS g_32 lk_395 d_Mo_beginLoop_46 (fun m_33 em_33 H locs hp hS => ?_)
        replace h := h m_33 em_33
        refine lv_goto (tgt := 85) hx hb d_Mo_beginLoop_49 (by decide) ?_
        exact mp_vret E hr hp hS h d_Mo_beginLoop_85
    · replace h := h.2 g_9
      refine rr_aload_n hx hb d_Mo_beginLoop_30 rfl (lv_at hl 1 rfl) ?_
      refine lv_bipush (v := 7) hx hb d_Mo_beginLoop_31 (by decide) ?_
      obtain ⟨g_34, h⟩ := h
      refine rp_Mo_error E hp hS g_34 lk_392 d_Mo_beginLoop_33 (fun m_35 em_35 H locs hp hS => ?_)
      replace h := h m_35 em_35
      refine lv_goto (tgt := 85) hx hb d_Mo_beginLoop_36 (by decide) ?_
      exact mp_vret E hr hp hS h d_Mo_beginLoop_85
  · replace h := h.1 g_8
    refine rr_aload_n hx hb d_Mo_beginLoop_17 rfl (lv_at hl 1 rfl) ?_
    refine lv_bipush (v := 6) hx hb d_Mo_beginLoop_18 (by decide) ?_
    obtain ⟨g_36, h⟩ := h
    refine rp_Mo_error E hp hS g_36 lk_392 d_Mo_beginLoop_20 (fun m_37 em_37 H locs hp hS => ?_)
    replace h := h m_37 em_37
    refine lv_goto (tgt := 85) hx hb d_Mo_beginLoop_23 (by decide) ?_
    exact mp_vret E hr hp hS h d_Mo_beginLoop_85
set_option maxHeartbeats 4000000 in
set_option maxRecDepth 100000 in
theorem c_Mo_beginLoop (l : Launch) (G : Gc) (m : Mm) (v0 : Nat) (v1 : Int32) (P : Mm → Prop) (h : wp_Mo_beginLoop m v0 v1 P) : Met l y_Mo_beginLoop (Cond.code y_Mo_beginLoop b_Mo_beginLoop 3 none :: lw_good) rm_Mo_beginLoop (Pre9 G m [rn v0, .int v1]) (PoV G P) 0 0 (fr G) := by
  refine Met.ofW (cc := b_Mo_beginLoop) (maxL := 3) (ret := none) (by decide) rfl ?_
  intro p e s mt args below meth c s₁ B hml hv
  obtain ⟨rfl, hp, hC⟩ := hv
  have hts := atoms_spec (ws := Cond.code y_Mo_beginLoop b_Mo_beginLoop 3 none :: lw_good) B.pre
  have E : En G R_Mo b_Mo_beginLoop 3 p s mt _ meth c := ⟨B.exec, B.bytes, hml, findClass_of_methodNamed B.named, fun w hw => hts w (List.mem_cons_of_mem _ hw), hC, B.notSynchronized⟩
  have hr := B.returns
  have hl := lv_entry [rn v0, .int v1] (n := 3) (by simp [lg_sl, rn_cat, cat_int, cat_long, cat_ref, cat_null])
  rw [lg_entry_eq]
  generalize (lg_sl [rn v0, .int v1] ++ List.replicate (3 - (lg_sl [rn v0, .int v1]).length) Slot.unset).toArray = ls at hl ⊢
  have hl : lv_has ls 3 [(0, rn v0), (1, .int v1)] := by simpa [lv_args, rn_cat, cat_int, cat_long, cat_ref, cat_null] using hl
  exact t_Mo_beginLoop_0 E hr m v0 v1 _ _ _ h hp va_S.rf (lv_sub hl [0, 1] rfl)
abbrev rm_Mo_endLoop : Room := { frames := 0, cells := 0, slots := 0, locals := 0 }
set_option maxHeartbeats 4000000 in
set_option maxRecDepth 100000 in
theorem t_Mo_endLoop_0 {G : Gc} {P : Mm → Prop} (E : En G R_Mo b_Mo_endLoop 1 p s mt args meth c) (hr : meth.sig.returnType = none) (m : Mm) (v0 : Nat) (H : Heap) (locs : List Loc) (ls : Array Slot) (h : wp_Mo_endLoop_0 P m v0) (hp : pic G m H) (hS : va_S (fr G) s.heap H locs) (hl : lv_has ls 1 [(0, rn v0)]) : W p l e rm_Mo_endLoop s mt args below meth c H locs 0 0 (MQ below (PoV G P) args s 0 0 (fr G)) (F0 mt 0 ls []) := by
  have hx := E.1
  have hb := E.2.1
  unfold wp_Mo_endLoop_0 at h
  refine rr_aload_n hx hb d_Mo_endLoop_0 rfl (lv_at hl 0 rfl) ?_
  obtain ⟨g_2, h⟩ := h
  refine rg_Mo_loops E hp g_2 lk_399 d_Mo_endLoop_1 (fun x_1 ex_1 => ?_)
  replace h := h x_1 ex_1
  refine lv_if_ne (tgt := 13) hx hb d_Mo_endLoop_4 (by decide) (fun g_3 => ?_) (fun g_3 => ?_)
  · replace h := h.2 g_3
    refine rr_aload_n hx hb d_Mo_endLoop_13 rfl (lv_at hl 0 rfl) ?_
    obtain ⟨g_5, h⟩ := h
    refine rg_Mo_left E hp g_5 lk_354 d_Mo_endLoop_14 (fun x_4 ex_4 => ?_)
    replace h := h x_4 ex_4
    refine rr_aload_n hx hb d_Mo_endLoop_17 rfl (lv_at hl 0 rfl) ?_
    obtain ⟨g_7, h⟩ := h
    refine rg_Mo_loops E hp g_7 lk_399 d_Mo_endLoop_18 (fun x_6 ex_6 => ?_)
    replace h := h x_6 ex_6
    refine lv_iconst (v := 1) hx hb d_Mo_endLoop_21 (by decide) ?_
    refine lv_isub hx hb d_Mo_endLoop_22 ?_
    refine lv_topi (fun x_8 ex_8 => ?_)
    replace h := h x_8 ex_8
    refine lv_dup2_11 hx hb d_Mo_endLoop_23 rfl (rn_cat _) ?_
    obtain ⟨g_10, g_11, h⟩ := h
    refine mp_iald (t0 := 1) E hp g_10 (by decide) rfl rfl g_11 d_Mo_endLoop_24 (fun x_9 ex_9 => ?_)
    replace h := h x_9 ex_9
    refine lv_iconst (v := 1) hx hb d_Mo_endLoop_25 (by decide) ?_
    refine lv_isub hx hb d_Mo_endLoop_26 ?_
    refine lv_topi (fun x_12 ex_12 => ?_)
    replace h := h x_12 ex_12
    obtain ⟨g_13, g_14, h⟩ := h
    refine mp_iast (t0 := 1) E hp hS g_13 (by decide) rfl cw_50 rfl g_14 d_Mo_endLoop_27 (fun m_15 em_15 H locs hp hS => ?_)
    replace h := h m_15 em_15
    refine rr_aload_n hx hb d_Mo_endLoop_28 rfl (lv_at hl 0 rfl) ?_
    obtain ⟨g_17, h⟩ := h
    refine rg_Mo_left E hp g_17 lk_354 d_Mo_endLoop_29 (fun x_16 ex_16 => ?_)
    replace h := h x_16 ex_16
    refine rr_aload_n hx hb d_Mo_endLoop_32 rfl (lv_at hl 0 rfl) ?_
    obtain ⟨g_19, h⟩ := h
    refine rg_Mo_loops E hp g_19 lk_399 d_Mo_endLoop_33 (fun x_18 ex_18 => ?_)
    replace h := h x_18 ex_18
    refine lv_iconst (v := 1) hx hb d_Mo_endLoop_36 (by decide) ?_
    refine lv_isub hx hb d_Mo_endLoop_37 ?_
    refine lv_topi (fun x_20 ex_20 => ?_)
    replace h := h x_20 ex_20
    obtain ⟨g_22, g_23, h⟩ := h
    refine mp_iald (t0 := 1) E hp g_22 (by decide) rfl rfl g_23 d_Mo_endLoop_38 (fun x_21 ex_21 => ?_)
    replace h := h x_21 ex_21
    refine lv_if_le (tgt := 60) hx hb d_Mo_endLoop_39 (by decide) (fun g_24 => ?_) (fun g_24 => ?_)
    · replace h := h.1 g_24
      refine rr_aload_n hx hb d_Mo_endLoop_60 rfl (lv_at hl 0 rfl) ?_
      refine lv_dup hx hb d_Mo_endLoop_61 (rn_cat _) ?_
      obtain ⟨g_26, h⟩ := h
      refine rg_Mo_loops E hp g_26 lk_399 d_Mo_endLoop_62 (fun x_25 ex_25 => ?_)
      replace h := h x_25 ex_25
      refine lv_iconst (v := 1) hx hb d_Mo_endLoop_65 (by decide) ?_
      refine lv_isub hx hb d_Mo_endLoop_66 ?_
      refine lv_topi (fun x_27 ex_27 => ?_)
      replace h := h x_27 ex_27
      obtain ⟨g_28, h⟩ := h
      refine rp_Mo_loops E hp hS g_28 lk_399 d_Mo_endLoop_67 (fun m_29 em_29 H locs hp hS => ?_)
      replace h := h m_29 em_29
      exact mp_vret E hr hp hS h d_Mo_endLoop_70
    · replace h := h.2 g_24
      refine rr_aload_n hx hb d_Mo_endLoop_42 rfl (lv_at hl 0 rfl) ?_
      refine rr_aload_n hx hb d_Mo_endLoop_43 rfl (lv_at hl 0 rfl) ?_
      obtain ⟨g_31, h⟩ := h
      refine rg_Mo_begin E hp g_31 lk_353 d_Mo_endLoop_44 (fun x_30 ex_30 => ?_)
      replace h := h x_30 ex_30
      refine rr_aload_n hx hb d_Mo_endLoop_47 rfl (lv_at hl 0 rfl) ?_
      obtain ⟨g_33, h⟩ := h
      refine rg_Mo_loops E hp g_33 lk_399 d_Mo_endLoop_48 (fun x_32 ex_32 => ?_)
      replace h := h x_32 ex_32
      refine lv_iconst (v := 1) hx hb d_Mo_endLoop_51 (by decide) ?_
      refine lv_isub hx hb d_Mo_endLoop_52 ?_
      refine lv_topi (fun x_34 ex_34 => ?_)
      replace h := h x_34 ex_34
      obtain ⟨g_36, g_37, h⟩ := h
      refine mp_iald (t0 := 1) E hp g_36 (by decide) rfl rfl g_37 d_Mo_endLoop_53 (fun x_35 ex_35 => ?_)
      replace h := h x_35 ex_35
      obtain ⟨g_38, h⟩ := h
      refine rp_Mo_at E hp hS g_38 lk_395 d_Mo_endLoop_54 (fun m_39 em_39 H locs hp hS => ?_)
      replace h := h m_39 em_39
      refine lv_goto (tgt := 70) hx hb d_Mo_endLoop_57 (by decide) ?_
      exact mp_vret E hr hp hS h d_Mo_endLoop_70
  · replace h := h.1 g_3
    refine rr_aload_n hx hb d_Mo_endLoop_7 rfl (lv_at hl 0 rfl) ?_
    refine lv_iconst (v := 1) hx hb d_Mo_endLoop_8 (by decide) ?_
    obtain ⟨g_40, h⟩ := h
    refine rp_Mo_error E hp hS g_40 lk_392 d_Mo_endLoop_9 (fun m_41 em_41 H locs hp hS => ?_)
    replace h := h m_41 em_41
    exact mp_vret E hr hp hS h d_Mo_endLoop_12
set_option maxHeartbeats 4000000 in
set_option maxRecDepth 100000 in
theorem c_Mo_endLoop (l : Launch) (G : Gc) (m : Mm) (v0 : Nat) (P : Mm → Prop) (h : wp_Mo_endLoop m v0 P) : Met l y_Mo_endLoop (Cond.code y_Mo_endLoop b_Mo_endLoop 1 none :: lw_good) rm_Mo_endLoop (Pre9 G m [rn v0]) (PoV G P) 0 0 (fr G) := by
  refine Met.ofW (cc := b_Mo_endLoop) (maxL := 1) (ret := none) (by decide) rfl ?_
  intro p e s mt args below meth c s₁ B hml hv
  obtain ⟨rfl, hp, hC⟩ := hv
  have hts := atoms_spec (ws := Cond.code y_Mo_endLoop b_Mo_endLoop 1 none :: lw_good) B.pre
  have E : En G R_Mo b_Mo_endLoop 1 p s mt _ meth c := ⟨B.exec, B.bytes, hml, findClass_of_methodNamed B.named, fun w hw => hts w (List.mem_cons_of_mem _ hw), hC, B.notSynchronized⟩
  have hr := B.returns
  have hl := lv_entry [rn v0] (n := 1) (by simp [lg_sl, rn_cat, cat_int, cat_long, cat_ref, cat_null])
  rw [lg_entry_eq]
  generalize (lg_sl [rn v0] ++ List.replicate (1 - (lg_sl [rn v0]).length) Slot.unset).toArray = ls at hl ⊢
  have hl : lv_has ls 1 [(0, rn v0)] := by simpa [lv_args, rn_cat, cat_int, cat_long, cat_ref, cat_null] using hl
  exact t_Mo_endLoop_0 E hr m v0 _ _ _ h hp va_S.rf (lv_sub hl [0] rfl)
abbrev rm_Mo_readResource : Room := { frames := 2, cells := 0, slots := 0, locals := 44 }
set_option maxHeartbeats 4000000 in
set_option maxRecDepth 100000 in
theorem t_Mo_readResource_0 {G : Gc} {P : Mm → Prop} (E : En G R_Mo b_Mo_readResource 4 p s mt args meth c) (hr : meth.sig.returnType = none) (m : Mm) (v0 : Nat) (v1 : Int32) (v2 : Int32) (H : Heap) (locs : List Loc) (ls : Array Slot) (h : wp_Mo_readResource_0 P m v0 v1 v2) (hp : pic G m H) (hS : va_S (fr G) s.heap H locs) (hl : lv_has ls 4 [(0, rn v0), (1, .int v1), (2, .int v2)]) : W p l e rm_Mo_readResource s mt args below meth c H locs 0 0 (MQ below (PoV G P) args s 0 0 (fr G)) (F0 mt 0 ls []) := by
  have hx := E.1
  have hb := E.2.1
  unfold wp_Mo_readResource_0 at h
  refine rr_aload_n hx hb d_Mo_readResource_0 rfl (lv_at hl 0 rfl) ?_
  refine lv_iload_n hx hb d_Mo_readResource_1 rfl (lv_at hl 1 rfl) ?_
  refine lv_iload_n hx hb d_Mo_readResource_2 rfl (lv_at hl 2 rfl) ?_
  obtain ⟨g_3, h⟩ := h
  refine mc_i hS (mc_runV (As := [.int v1, .int v2]) (rest := []) E (c_Mo_resource l G m v0 v1 v2 _ h) wd_Mo_resource ⟨lk_400, lk_401, lk_402⟩ rfl rfl ⟨Nat.le_of_ble_eq_true rfl, Nat.le_of_ble_eq_true rfl⟩ hp hS g_3 (by decide) rfl rfl rfl hl.1 rfl (lv_room (Nat.le_of_ble_eq_true rfl)) d_Mo_readResource_3 ⟨Nat.le_of_ble_eq_true rfl, Nat.le_of_ble_eq_true rfl⟩) (fun r_2 m_1 h H locs hp hS => ?_)
  try dsimp only at h
  refine lv_istore_n (lv' := [(3, .int r_2), (0, rn v0), (1, .int v1), (2, .int v2)]) hx hb d_Mo_readResource_6 rfl hl (by decide) rfl (fun ls hl => ?_)
  refine lv_iload_n hx hb d_Mo_readResource_7 rfl (lv_at hl 0 rfl) ?_
  refine lv_if_ge (tgt := 19) hx hb d_Mo_readResource_8 (by decide) (fun g_4 => ?_) (fun g_4 => ?_)
  · replace h := h.1 g_4
    refine rr_aload_n hx hb d_Mo_readResource_19 rfl (lv_at hl 1 rfl) ?_
    refine lv_iload_n hx hb d_Mo_readResource_20 rfl (lv_at hl 0 rfl) ?_
    obtain ⟨g_7, h⟩ := h
    refine mc_v hS (mc_runV (As := [.int r_2]) (rest := []) E (c_Mo_lay l G m_1 v0 r_2 _ h) wd_Mo_lay ⟨lk_403, lk_404, lk_405⟩ rfl rfl ⟨Nat.le_of_ble_eq_true rfl, Nat.le_of_ble_eq_true rfl⟩ hp hS g_7 (by decide) rfl rfl rfl hl.1 rfl (lv_room (Nat.le_of_ble_eq_true rfl)) d_Mo_readResource_21 ⟨Nat.le_of_ble_eq_true rfl, Nat.le_of_ble_eq_true rfl⟩) (fun m_5 h H locs hp hS => ?_)
    try dsimp only at h
    exact mp_vret E hr hp hS h d_Mo_readResource_24
  · replace h := h.2 g_4
    refine rr_aload_n hx hb d_Mo_readResource_11 rfl (lv_at hl 1 rfl) ?_
    refine lv_iconst (v := 2) hx hb d_Mo_readResource_12 (by decide) ?_
    obtain ⟨g_8, h⟩ := h
    refine rp_Mo_error E hp hS g_8 lk_392 d_Mo_readResource_13 (fun m_9 em_9 H locs hp hS => ?_)
    replace h := h m_9 em_9
    refine lv_goto (tgt := 24) hx hb d_Mo_readResource_16 (by decide) ?_
    exact mp_vret E hr hp hS h d_Mo_readResource_24
set_option maxHeartbeats 4000000 in
set_option maxRecDepth 100000 in
theorem c_Mo_readResource (l : Launch) (G : Gc) (m : Mm) (v0 : Nat) (v1 : Int32) (v2 : Int32) (P : Mm → Prop) (h : wp_Mo_readResource m v0 v1 v2 P) : Met l y_Mo_readResource (Cond.code y_Mo_readResource b_Mo_readResource 4 none :: lw_good) rm_Mo_readResource (Pre9 G m [rn v0, .int v1, .int v2]) (PoV G P) 0 0 (fr G) := by
  refine Met.ofW (cc := b_Mo_readResource) (maxL := 4) (ret := none) (by decide) rfl ?_
  intro p e s mt args below meth c s₁ B hml hv
  obtain ⟨rfl, hp, hC⟩ := hv
  have hts := atoms_spec (ws := Cond.code y_Mo_readResource b_Mo_readResource 4 none :: lw_good) B.pre
  have E : En G R_Mo b_Mo_readResource 4 p s mt _ meth c := ⟨B.exec, B.bytes, hml, findClass_of_methodNamed B.named, fun w hw => hts w (List.mem_cons_of_mem _ hw), hC, B.notSynchronized⟩
  have hr := B.returns
  have hl := lv_entry [rn v0, .int v1, .int v2] (n := 4) (by simp [lg_sl, rn_cat, cat_int, cat_long, cat_ref, cat_null])
  rw [lg_entry_eq]
  generalize (lg_sl [rn v0, .int v1, .int v2] ++ List.replicate (4 - (lg_sl [rn v0, .int v1, .int v2]).length) Slot.unset).toArray = ls at hl ⊢
  have hl : lv_has ls 4 [(0, rn v0), (1, .int v1), (2, .int v2)] := by simpa [lv_args, rn_cat, cat_int, cat_long, cat_ref, cat_null] using hl
  exact t_Mo_readResource_0 E hr m v0 v1 v2 _ _ _ h hp va_S.rf (lv_sub hl [0, 1, 2] rfl)
abbrev rm_Mo_set : Room := { frames := 3, cells := 0, slots := 0, locals := 65 }
set_option maxHeartbeats 4000000 in
set_option maxRecDepth 100000 in
theorem t_Mo_set_29 {G : Gc} {P : Mm → Prop} (E : En G R_Mo b_Mo_set 4 p s mt args meth c) (hr : meth.sig.returnType = none) (m : Mm) (s0 : Int32) (s1 : Nat) (H : Heap) (locs : List Loc) (ls : Array Slot) (h : wp_Mo_set_29 P m s0 s1) (hp : pic G m H) (hS : va_S (fr G) s.heap H locs) (hl : lv_has ls 4 []) : W p l e rm_Mo_set s mt args below meth c H locs 0 0 (MQ below (PoV G P) args s 0 0 (fr G)) (F0 mt 29 ls [.int s0, rn s1]) := by
  have hx := E.1
  have hb := E.2.1
  unfold wp_Mo_set_29 at h
  obtain ⟨g_1, h⟩ := h
  refine rp_Mo_error E hp hS g_1 lk_392 d_Mo_set_29 (fun m_2 em_2 H locs hp hS => ?_)
  replace h := h m_2 em_2
  exact mp_vret E hr hp hS h d_Mo_set_32
set_option maxHeartbeats 4000000 in
set_option maxRecDepth 100000 in
theorem t_Mo_set_25 {G : Gc} {P : Mm → Prop} (E : En G R_Mo b_Mo_set 4 p s mt args meth c) (hr : meth.sig.returnType = none) (m : Mm) (v0 : Nat) (s0 : Nat) (H : Heap) (locs : List Loc) (ls : Array Slot) (h : wp_Mo_set_25 P m v0 s0) (hp : pic G m H) (hS : va_S (fr G) s.heap H locs) (hl : lv_has ls 4 [(0, rn v0)]) : W p l e rm_Mo_set s mt args below meth c H locs 0 0 (MQ below (PoV G P) args s 0 0 (fr G)) (F0 mt 25 ls [rn s0]) := by
  have hx := E.1
  have hb := E.2.1
  unfold wp_Mo_set_25 at h
  refine rr_aload_n hx hb d_Mo_set_25 rfl (lv_at hl 0 rfl) ?_
  obtain ⟨g_2, h⟩ := h
  refine rg_Mo_error E hp g_2 lk_392 d_Mo_set_26 (fun x_1 ex_1 => ?_)
  replace h := h x_1 ex_1
  exact t_Mo_set_29 E hr m x_1 s0 _ _ _ h hp hS (lv_sub hl [] rfl)
set_option maxHeartbeats 4000000 in
set_option maxRecDepth 100000 in
theorem t_Mo_set_0 {G : Gc} {P : Mm → Prop} (E : En G R_Mo b_Mo_set 4 p s mt args meth c) (hr : meth.sig.returnType = none) (m : Mm) (v0 : Nat) (v1 : Int32) (v2 : Int32) (H : Heap) (locs : List Loc) (ls : Array Slot) (h : wp_Mo_set_0 P m v0 v1 v2) (hp : pic G m H) (hS : va_S (fr G) s.heap H locs) (hl : lv_has ls 4 [(0, rn v0), (1, .int v1), (2, .int v2)]) : W p l e rm_Mo_set s mt args below meth c H locs 0 0 (MQ below (PoV G P) args s 0 0 (fr G)) (F0 mt 0 ls []) := by
  have hx := E.1
  have hb := E.2.1
  unfold wp_Mo_set_0 at h
  refine rr_aload_n hx hb d_Mo_set_0 rfl (lv_at hl 0 rfl) ?_
  refine lv_iload_n hx hb d_Mo_set_1 rfl (lv_at hl 1 rfl) ?_
  refine lv_iload_n hx hb d_Mo_set_2 rfl (lv_at hl 2 rfl) ?_
  obtain ⟨g_3, h⟩ := h
  refine mc_i hS (mc_runV (As := [.int v1, .int v2]) (rest := []) E (c_Mo_device l G m v0 v1 v2 _ h) wd_Mo_device ⟨lk_406, lk_407, lk_408⟩ rfl rfl ⟨Nat.le_of_ble_eq_true rfl, Nat.le_of_ble_eq_true rfl⟩ hp hS g_3 (by decide) rfl rfl rfl hl.1 rfl (lv_room (Nat.le_of_ble_eq_true rfl)) d_Mo_set_3 ⟨Nat.le_of_ble_eq_true rfl, Nat.le_of_ble_eq_true rfl⟩) (fun r_2 m_1 h H locs hp hS => ?_)
  try dsimp only at h
  refine lv_istore_n (lv' := [(3, .int r_2), (0, rn v0), (1, .int v1), (2, .int v2)]) hx hb d_Mo_set_6 rfl hl (by decide) rfl (fun ls hl => ?_)
  refine rr_aload_n hx hb d_Mo_set_7 rfl (lv_at hl 1 rfl) ?_
  refine lv_iload_n hx hb d_Mo_set_8 rfl (lv_at hl 0 rfl) ?_
  refine lv_if_ne (tgt := 25) hx hb d_Mo_set_9 (by decide) (fun g_4 => ?_) (fun g_4 => ?_)
  · replace h := h.2 g_4
    exact t_Mo_set_25 E hr m_1 v0 v0 _ _ _ h hp hS (lv_sub hl [1] rfl)
  · replace h := h.1 g_4
    refine rr_aload_n hx hb d_Mo_set_12 rfl (lv_at hl 1 rfl) ?_
    obtain ⟨g_6, h⟩ := h
    refine rg_Mo_setting E hp g_6 lk_339 d_Mo_set_13 (fun x_5 ex_5 => ?_)
    replace h := h x_5 ex_5
    refine lv_iconst (v := 3) hx hb d_Mo_set_16 (by decide) ?_
    obtain ⟨g_8, g_9, h⟩ := h
    refine mp_iald (t0 := 1) E hp g_8 (by decide) rfl rfl g_9 d_Mo_set_17 (fun x_7 ex_7 => ?_)
    replace h := h x_7 ex_7
    refine lv_if_ne (tgt := 25) hx hb d_Mo_set_18 (by decide) (fun g_10 => ?_) (fun g_10 => ?_)
    · replace h := h.2 g_10
      exact t_Mo_set_25 E hr m_1 v0 v0 _ _ _ h hp hS (lv_sub hl [1] rfl)
    · replace h := h.1 g_10
      refine lv_iconst (v := 3) hx hb d_Mo_set_21 (by decide) ?_
      refine lv_goto (tgt := 29) hx hb d_Mo_set_22 (by decide) ?_
      exact t_Mo_set_29 E hr m_1 3 v0 _ _ _ h hp hS (lv_sub hl [] rfl)
set_option maxHeartbeats 4000000 in
set_option maxRecDepth 100000 in
theorem c_Mo_set (l : Launch) (G : Gc) (m : Mm) (v0 : Nat) (v1 : Int32) (v2 : Int32) (P : Mm → Prop) (h : wp_Mo_set m v0 v1 v2 P) : Met l y_Mo_set (Cond.code y_Mo_set b_Mo_set 4 none :: lw_good) rm_Mo_set (Pre9 G m [rn v0, .int v1, .int v2]) (PoV G P) 0 0 (fr G) := by
  refine Met.ofW (cc := b_Mo_set) (maxL := 4) (ret := none) (by decide) rfl ?_
  intro p e s mt args below meth c s₁ B hml hv
  obtain ⟨rfl, hp, hC⟩ := hv
  have hts := atoms_spec (ws := Cond.code y_Mo_set b_Mo_set 4 none :: lw_good) B.pre
  have E : En G R_Mo b_Mo_set 4 p s mt _ meth c := ⟨B.exec, B.bytes, hml, findClass_of_methodNamed B.named, fun w hw => hts w (List.mem_cons_of_mem _ hw), hC, B.notSynchronized⟩
  have hr := B.returns
  have hl := lv_entry [rn v0, .int v1, .int v2] (n := 4) (by simp [lg_sl, rn_cat, cat_int, cat_long, cat_ref, cat_null])
  rw [lg_entry_eq]
  generalize (lg_sl [rn v0, .int v1, .int v2] ++ List.replicate (4 - (lg_sl [rn v0, .int v1, .int v2]).length) Slot.unset).toArray = ls at hl ⊢
  have hl : lv_has ls 4 [(0, rn v0), (1, .int v1), (2, .int v2)] := by simpa [lv_args, rn_cat, cat_int, cat_long, cat_ref, cat_null] using hl
  exact t_Mo_set_0 E hr m v0 v1 v2 _ _ _ h hp va_S.rf (lv_sub hl [0, 1, 2] rfl)
abbrev rm_Mo_openFile : Room := { frames := 2, cells := 0, slots := 0, locals := 47 }
set_option maxHeartbeats 4000000 in
set_option maxRecDepth 100000 in
theorem t_Mo_openFile_0 {G : Gc} {P : Mm → Prop} (E : En G R_Mo b_Mo_openFile 4 p s mt args meth c) (hr : meth.sig.returnType = none) (m : Mm) (v0 : Nat) (v1 : Int32) (v2 : Int32) (H : Heap) (locs : List Loc) (ls : Array Slot) (h : wp_Mo_openFile_0 P m v0 v1 v2) (hp : pic G m H) (hS : va_S (fr G) s.heap H locs) (hl : lv_has ls 4 [(0, rn v0), (1, .int v1), (2, .int v2)]) : W p l e rm_Mo_openFile s mt args below meth c H locs 0 0 (MQ below (PoV G P) args s 0 0 (fr G)) (F0 mt 0 ls []) := by
  have hx := E.1
  have hb := E.2.1
  unfold wp_Mo_openFile_0 at h
  refine rr_aload_n hx hb d_Mo_openFile_0 rfl (lv_at hl 0 rfl) ?_
  refine lv_iload_n hx hb d_Mo_openFile_1 rfl (lv_at hl 1 rfl) ?_
  refine lv_iload_n hx hb d_Mo_openFile_2 rfl (lv_at hl 2 rfl) ?_
  obtain ⟨g_3, h⟩ := h
  refine mc_i hS (mc_runV (As := [.int v1, .int v2]) (rest := []) E (c_Mo_opened l G m v0 v1 v2 _ h) wd_Mo_opened ⟨lk_371, lk_372, lk_373⟩ rfl rfl ⟨Nat.le_of_ble_eq_true rfl, Nat.le_of_ble_eq_true rfl⟩ hp hS g_3 (by decide) rfl rfl rfl hl.1 rfl (lv_room (Nat.le_of_ble_eq_true rfl)) d_Mo_openFile_3 ⟨Nat.le_of_ble_eq_true rfl, Nat.le_of_ble_eq_true rfl⟩) (fun r_2 m_1 h H locs hp hS => ?_)
  try dsimp only at h
  refine lv_istore_n (lv' := [(3, .int r_2), (0, rn v0), (1, .int v1), (2, .int v2)]) hx hb d_Mo_openFile_6 rfl hl (by decide) rfl (fun ls hl => ?_)
  refine lv_iload_n hx hb d_Mo_openFile_7 rfl (lv_at hl 0 rfl) ?_
  refine lv_if_ge (tgt := 19) hx hb d_Mo_openFile_8 (by decide) (fun g_4 => ?_) (fun g_4 => ?_)
  · replace h := h.1 g_4
    refine rr_aload_n hx hb d_Mo_openFile_19 rfl (lv_at hl 1 rfl) ?_
    obtain ⟨g_6, h⟩ := h
    refine rg_Mo_own E hp g_6 lk_351 d_Mo_openFile_20 (fun x_5 ex_5 => ?_)
    replace h := h x_5 ex_5
    refine lv_iload_n hx hb d_Mo_openFile_23 rfl (lv_at hl 0 rfl) ?_
    refine lv_iconst (v := 1) hx hb d_Mo_openFile_24 (by decide) ?_
    obtain ⟨g_7, g_8, h⟩ := h
    refine mp_zast (t0 := 5) E hp hS g_7 (by decide) rfl cw_47 rfl g_8 d_Mo_openFile_25 (fun m_9 em_9 H locs hp hS => ?_)
    replace h := h m_9 em_9
    refine rr_aload_n hx hb d_Mo_openFile_26 rfl (lv_at hl 1 rfl) ?_
    refine lv_iload_n hx hb d_Mo_openFile_27 rfl (lv_at hl 0 rfl) ?_
    obtain ⟨g_12, h⟩ := h
    refine mc_v hS (mc_runV (As := [.int r_2]) (rest := []) E (c_Mo_lay l G m_9 v0 r_2 _ h) wd_Mo_lay ⟨lk_403, lk_404, lk_405⟩ rfl rfl ⟨Nat.le_of_ble_eq_true rfl, Nat.le_of_ble_eq_true rfl⟩ hp hS g_12 (by decide) rfl rfl rfl hl.1 rfl (lv_room (Nat.le_of_ble_eq_true rfl)) d_Mo_openFile_28 ⟨Nat.le_of_ble_eq_true rfl, Nat.le_of_ble_eq_true rfl⟩) (fun m_10 h H locs hp hS => ?_)
    try dsimp only at h
    exact mp_vret E hr hp hS h d_Mo_openFile_31
  · replace h := h.2 g_4
    refine rr_aload_n hx hb d_Mo_openFile_11 rfl (lv_at hl 1 rfl) ?_
    refine lv_iconst (v := 4) hx hb d_Mo_openFile_12 (by decide) ?_
    obtain ⟨g_13, h⟩ := h
    refine rp_Mo_error E hp hS g_13 lk_392 d_Mo_openFile_13 (fun m_14 em_14 H locs hp hS => ?_)
    replace h := h m_14 em_14
    refine lv_goto (tgt := 31) hx hb d_Mo_openFile_16 (by decide) ?_
    exact mp_vret E hr hp hS h d_Mo_openFile_31
set_option maxHeartbeats 4000000 in
set_option maxRecDepth 100000 in
theorem c_Mo_openFile (l : Launch) (G : Gc) (m : Mm) (v0 : Nat) (v1 : Int32) (v2 : Int32) (P : Mm → Prop) (h : wp_Mo_openFile m v0 v1 v2 P) : Met l y_Mo_openFile (Cond.code y_Mo_openFile b_Mo_openFile 4 none :: lw_good) rm_Mo_openFile (Pre9 G m [rn v0, .int v1, .int v2]) (PoV G P) 0 0 (fr G) := by
  refine Met.ofW (cc := b_Mo_openFile) (maxL := 4) (ret := none) (by decide) rfl ?_
  intro p e s mt args below meth c s₁ B hml hv
  obtain ⟨rfl, hp, hC⟩ := hv
  have hts := atoms_spec (ws := Cond.code y_Mo_openFile b_Mo_openFile 4 none :: lw_good) B.pre
  have E : En G R_Mo b_Mo_openFile 4 p s mt _ meth c := ⟨B.exec, B.bytes, hml, findClass_of_methodNamed B.named, fun w hw => hts w (List.mem_cons_of_mem _ hw), hC, B.notSynchronized⟩
  have hr := B.returns
  have hl := lv_entry [rn v0, .int v1, .int v2] (n := 4) (by simp [lg_sl, rn_cat, cat_int, cat_long, cat_ref, cat_null])
  rw [lg_entry_eq]
  generalize (lg_sl [rn v0, .int v1, .int v2] ++ List.replicate (4 - (lg_sl [rn v0, .int v1, .int v2]).length) Slot.unset).toArray = ls at hl ⊢
  have hl : lv_has ls 4 [(0, rn v0), (1, .int v1), (2, .int v2)] := by simpa [lv_args, rn_cat, cat_int, cat_long, cat_ref, cat_null] using hl
  exact t_Mo_openFile_0 E hr m v0 v1 v2 _ _ _ h hp va_S.rf (lv_sub hl [0, 1, 2] rfl)
end WK
