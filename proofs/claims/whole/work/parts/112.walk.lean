section WK
variable {p : Program} {l : Launch} {e : Env} {s : State} {mt : MethodId} {args : Array Value} {below : List Frame} {meth : Method} {c : Code}
abbrev rm_Mo_taken : Room := { frames := 2, cells := 0, slots := 0, locals := 43 }
set_option maxHeartbeats 4000000 in
set_option maxRecDepth 100000 in
theorem t_Mo_taken_142 {G : Gc} {P : Int32 → Mm → Prop} (E : En G R_Mo b_Mo_taken 5 p s mt args meth c) (hr : meth.sig.returnType = some .int) {K84 : Mm → Nat → Int32 → Int32 → Int32 → Prop} (hK84 : ∀ (m : Mm) (v0 : Nat) (v1 : Int32) (v2 : Int32) (v3 : Int32) (H : Heap) (locs : List Loc) (ls : Array Slot), K84 m v0 v1 v2 v3 → pic G m H → va_S (fr G) s.heap H locs → lv_has ls 5 [(0, rn v0), (1, .int v1), (2, .int v2), (3, .int v3)] → W p l e rm_Mo_taken s mt args below meth c H locs 0 0 (MQ below (PoI G P) args s 0 0 (fr G)) (F0 mt 84 ls [])) (m : Mm) (v0 : Nat) (v1 : Int32) (v3 : Int32) (s0 : Int32) (H : Heap) (locs : List Loc) (ls : Array Slot) (h : wp_Mo_taken_142 K84 P m v0 v1 v3 s0) (hp : pic G m H) (hS : va_S (fr G) s.heap H locs) (hl : lv_has ls 5 [(0, rn v0), (1, .int v1), (3, .int v3)]) : W p l e rm_Mo_taken s mt args below meth c H locs 0 0 (MQ below (PoI G P) args s 0 0 (fr G)) (F0 mt 142 ls [.int s0]) := by
  have hx := E.1
  have hb := E.2.1
  unfold wp_Mo_taken_142 at h
  refine lv_istore_n (lv' := [(2, .int s0), (0, rn v0), (1, .int v1), (3, .int v3)]) hx hb d_Mo_taken_142 rfl hl (by decide) rfl (fun ls hl => ?_)
  obtain ⟨x_1, ex_1⟩ : ∃ y : Int32, y = v3 + 1 := ⟨_, rfl⟩
  replace h := h x_1 ex_1
  refine lv_iinc (v := x_1) (lv' := [(3, .int x_1), (2, .int s0), (0, rn v0), (1, .int v1)]) hx hb d_Mo_taken_143 hl (k := 3) rfl (by rw [ex_1]; rfl) (by decide) rfl (fun ls hl => ?_)
  refine lv_goto (tgt := 84) hx hb d_Mo_taken_146 (by decide) ?_
  exact hK84 m v0 v1 s0 x_1 _ _ _ h hp hS (lv_sub hl [2, 3, 1, 0] rfl)
set_option maxHeartbeats 4000000 in
set_option maxRecDepth 100000 in
theorem t_Mo_taken_84 {G : Gc} {P : Int32 → Mm → Prop} (E : En G R_Mo b_Mo_taken 5 p s mt args meth c) (hr : meth.sig.returnType = some .int) : ∀ (n : Nat) (m : Mm) (v0 : Nat) (v1 : Int32) (v2 : Int32) (v3 : Int32) (H : Heap) (locs : List Loc) (ls : Array Slot) (_ : wp_Mo_taken_84 P n m v0 v1 v2 v3) (_ : pic G m H) (_ : va_S (fr G) s.heap H locs) (_ : lv_has ls 5 [(0, rn v0), (1, .int v1), (2, .int v2), (3, .int v3)]), W p l e rm_Mo_taken s mt args below meth c H locs 0 0 (MQ below (PoI G P) args s 0 0 (fr G)) (F0 mt 84 ls []) := by
  intro n
  induction n with
  | zero => intro m v0 v1 v2 v3 H locs ls h hp hS hl; exact h.elim
  | succ n ih =>
    intro m v0 v1 v2 v3 H locs ls h hp hS hl
    have hx := E.1
    have hb := E.2.1
    unfold wp_Mo_taken_84 at h
    refine lv_iload_n hx hb d_Mo_taken_84 rfl (lv_at hl 3 rfl) ?_
    refine rr_aload_n hx hb d_Mo_taken_85 rfl (lv_at hl 0 rfl) ?_
    obtain ⟨g_2, h⟩ := h
    refine rg_Mo_filters E hp g_2 lk_348 d_Mo_taken_86 (fun x_1 ex_1 => ?_)
    replace h := h x_1 ex_1
    refine lv_iload_n hx hb d_Mo_taken_89 rfl (lv_at hl 1 rfl) ?_
    obtain ⟨g_4, g_5, h⟩ := h
    refine mp_iald (t0 := 1) E hp g_4 (by decide) rfl rfl g_5 d_Mo_taken_90 (fun x_3 ex_3 => ?_)
    replace h := h x_3 ex_3
    refine lv_icmp_ge (tgt := 149) hx hb d_Mo_taken_91 (by decide) (fun g_6 => ?_) (fun g_6 => ?_)
    · replace h := h.1 g_6
      refine lv_iload_n hx hb d_Mo_taken_149 rfl (lv_at hl 2 rfl) ?_
      exact mp_iret E hr hp hS h d_Mo_taken_150
    · replace h := h.2 g_6
      refine rr_aload_n hx hb d_Mo_taken_94 rfl (lv_at hl 0 rfl) ?_
      obtain ⟨g_8, h⟩ := h
      refine rg_Mo_filter E hp g_8 lk_349 d_Mo_taken_95 (fun x_7 ex_7 => ?_)
      replace h := h x_7 ex_7
      refine lv_iconst (v := 3) hx hb d_Mo_taken_98 (by decide) ?_
      refine lv_iload_n hx hb d_Mo_taken_99 rfl (lv_at hl 1 rfl) ?_
      refine lv_imul hx hb d_Mo_taken_100 ?_
      refine lv_topi (fun x_9 ex_9 => ?_)
      replace h := h x_9 ex_9
      refine lv_iload_n hx hb d_Mo_taken_101 rfl (lv_at hl 3 rfl) ?_
      refine lv_iadd hx hb d_Mo_taken_102 ?_
      refine lv_topi (fun x_10 ex_10 => ?_)
      replace h := h x_10 ex_10
      obtain ⟨g_12, g_13, h⟩ := h
      refine mp_iald (t0 := 1) E hp g_12 (by decide) rfl rfl g_13 d_Mo_taken_103 (fun x_11 ex_11 => ?_)
      replace h := h x_11 ex_11
      refine lv_istore (lv' := [(4, .int x_11), (0, rn v0), (1, .int v1), (2, .int v2), (3, .int v3)]) hx hb d_Mo_taken_104 hl (by decide) rfl (fun ls hl => ?_)
      refine lv_iload hx hb d_Mo_taken_106 (lv_at hl 0 rfl) ?_
      refine lv_iconst (v := 1) hx hb d_Mo_taken_108 (by decide) ?_
      refine lv_icmp_ne (tgt := 120) hx hb d_Mo_taken_109 (by decide) (fun g_14 => ?_) (fun g_14 => ?_)
      · replace h := h.2 g_14
        refine lv_iload hx hb d_Mo_taken_120 (lv_at hl 0 rfl) ?_
        refine lv_iconst (v := 2) hx hb d_Mo_taken_122 (by decide) ?_
        refine lv_icmp_ne (tgt := 133) hx hb d_Mo_taken_123 (by decide) (fun g_15 => ?_) (fun g_15 => ?_)
        · replace h := h.2 g_15
          refine lv_iload_n hx hb d_Mo_taken_133 rfl (lv_at hl 3 rfl) ?_
          refine lv_sipush (v := 255) hx hb d_Mo_taken_134 (by decide) ?_
          refine lv_iadd hx hb d_Mo_taken_137 ?_
          refine lv_topi (fun x_16 ex_16 => ?_)
          replace h := h x_16 ex_16
          refine lv_sipush (v := 256) hx hb d_Mo_taken_138 (by decide) ?_
          refine lv_irem hx hb d_Mo_taken_141 (by decide) ?_
          refine lv_topi (fun x_17 ex_17 => ?_)
          replace h := h x_17 ex_17
          exact t_Mo_taken_142 E hr ih m v0 v1 v3 x_17 _ _ _ h hp hS (lv_sub hl [1, 2, 4] rfl)
        · replace h := h.1 g_15
          refine lv_iload_n hx hb d_Mo_taken_126 rfl (lv_at hl 3 rfl) ?_
          refine mc_i hS (mc_runS (As := [.int v2]) (rest := []) E (c_Mo_half l G m v2 _ h) wd_Mo_half ⟨lk_366, lk_367⟩ rfl rfl ⟨Nat.le_of_ble_eq_true rfl, Nat.le_of_ble_eq_true rfl⟩ hp hS rfl hl.1 rfl (lv_room (Nat.le_of_ble_eq_true rfl)) d_Mo_taken_127 ⟨Nat.le_of_ble_eq_true rfl, Nat.le_of_ble_eq_true rfl⟩) (fun r_20 m_19 h H locs hp hS => ?_)
          try dsimp only at h
          refine lv_goto (tgt := 142) hx hb d_Mo_taken_130 (by decide) ?_
          exact t_Mo_taken_142 E hr ih m_19 v0 v1 v3 r_20 _ _ _ h hp hS (lv_sub hl [1, 2, 4] rfl)
      · replace h := h.1 g_14
        refine lv_sipush (v := 255) hx hb d_Mo_taken_112 (by decide) ?_
        refine lv_iload_n hx hb d_Mo_taken_115 rfl (lv_at hl 3 rfl) ?_
        refine lv_isub hx hb d_Mo_taken_116 ?_
        refine lv_topi (fun x_21 ex_21 => ?_)
        replace h := h x_21 ex_21
        refine lv_goto (tgt := 142) hx hb d_Mo_taken_117 (by decide) ?_
        exact t_Mo_taken_142 E hr ih m v0 v1 v3 x_21 _ _ _ h hp hS (lv_sub hl [1, 2, 4] rfl)
set_option maxHeartbeats 4000000 in
set_option maxRecDepth 100000 in
theorem t_Mo_taken_0 {G : Gc} {P : Int32 → Mm → Prop} (E : En G R_Mo b_Mo_taken 5 p s mt args meth c) (hr : meth.sig.returnType = some .int) (m : Mm) (v0 : Nat) (v1 : Int32) (H : Heap) (locs : List Loc) (ls : Array Slot) (h : wp_Mo_taken_0 P m v0 v1) (hp : pic G m H) (hS : va_S (fr G) s.heap H locs) (hl : lv_has ls 5 [(0, rn v0), (1, .int v1)]) : W p l e rm_Mo_taken s mt args below meth c H locs 0 0 (MQ below (PoI G P) args s 0 0 (fr G)) (F0 mt 0 ls []) := by
  have hx := E.1
  have hb := E.2.1
  unfold wp_Mo_taken_0 at h
  refine rr_aload_n hx hb d_Mo_taken_0 rfl (lv_at hl 0 rfl) ?_
  refine lv_iload_n hx hb d_Mo_taken_1 rfl (lv_at hl 1 rfl) ?_
  obtain ⟨g_3, h⟩ := h
  refine mc_i hS (mc_runV (As := [.int v1]) (rest := []) E (c_Mo_isOpen l G m v0 v1 _ h) wd_Mo_isOpen ⟨lk_368, lk_369, lk_370⟩ rfl rfl ⟨Nat.le_of_ble_eq_true rfl, Nat.le_of_ble_eq_true rfl⟩ hp hS g_3 (by decide) rfl rfl rfl hl.1 rfl (lv_room (Nat.le_of_ble_eq_true rfl)) d_Mo_taken_2 ⟨Nat.le_of_ble_eq_true rfl, Nat.le_of_ble_eq_true rfl⟩) (fun r_2 m_1 h H locs hp hS => ?_)
  try dsimp only at h
  refine lv_if_ne (tgt := 10) hx hb d_Mo_taken_5 (by decide) (fun g_4 => ?_) (fun g_4 => ?_)
  · replace h := h.2 g_4
    refine rr_aload_n hx hb d_Mo_taken_10 rfl (lv_at hl 0 rfl) ?_
    obtain ⟨g_6, h⟩ := h
    refine rg_Mo_mode E hp g_6 lk_331 d_Mo_taken_11 (fun x_5 ex_5 => ?_)
    replace h := h x_5 ex_5
    refine lv_iload_n hx hb d_Mo_taken_14 rfl (lv_at hl 1 rfl) ?_
    obtain ⟨g_8, g_9, h⟩ := h
    refine mp_iald (t0 := 1) E hp g_8 (by decide) rfl rfl g_9 d_Mo_taken_15 (fun x_7 ex_7 => ?_)
    replace h := h x_7 ex_7
    refine lv_if_eq (tgt := 22) hx hb d_Mo_taken_16 (by decide) (fun g_10 => ?_) (fun g_10 => ?_)
    · replace h := h.1 g_10
      refine rr_aload_n hx hb d_Mo_taken_22 rfl (lv_at hl 0 rfl) ?_
      obtain ⟨g_12, h⟩ := h
      refine rg_Mo_place E hp g_12 lk_347 d_Mo_taken_23 (fun x_11 ex_11 => ?_)
      replace h := h x_11 ex_11
      refine lv_iload_n hx hb d_Mo_taken_26 rfl (lv_at hl 1 rfl) ?_
      obtain ⟨g_14, g_15, h⟩ := h
      refine mp_iald (t0 := 1) E hp g_14 (by decide) rfl rfl g_15 d_Mo_taken_27 (fun x_13 ex_13 => ?_)
      replace h := h x_13 ex_13
      refine rr_aload_n hx hb d_Mo_taken_28 rfl (lv_at hl 0 rfl) ?_
      obtain ⟨g_17, h⟩ := h
      refine rg_Mo_length E hp g_17 lk_343 d_Mo_taken_29 (fun x_16 ex_16 => ?_)
      replace h := h x_16 ex_16
      refine rr_aload_n hx hb d_Mo_taken_32 rfl (lv_at hl 0 rfl) ?_
      obtain ⟨g_19, h⟩ := h
      refine rg_Mo_name E hp g_19 lk_346 d_Mo_taken_33 (fun x_18 ex_18 => ?_)
      replace h := h x_18 ex_18
      refine lv_iload_n hx hb d_Mo_taken_36 rfl (lv_at hl 1 rfl) ?_
      obtain ⟨g_21, g_22, h⟩ := h
      refine mp_iald (t0 := 1) E hp g_21 (by decide) rfl rfl g_22 d_Mo_taken_37 (fun x_20 ex_20 => ?_)
      replace h := h x_20 ex_20
      obtain ⟨g_24, g_25, h⟩ := h
      refine mp_iald (t0 := 1) E hp g_24 (by decide) rfl rfl g_25 d_Mo_taken_38 (fun x_23 ex_23 => ?_)
      replace h := h x_23 ex_23
      refine lv_icmp_lt (tgt := 46) hx hb d_Mo_taken_39 (by decide) (fun g_26 => ?_) (fun g_26 => ?_)
      · replace h := h.1 g_26
        refine rr_aload_n hx hb d_Mo_taken_46 rfl (lv_at hl 0 rfl) ?_
        obtain ⟨g_28, h⟩ := h
        refine rg_Mo_lies E hp g_28 lk_344 d_Mo_taken_47 (fun x_27 ex_27 => ?_)
        replace h := h x_27 ex_27
        refine lv_bipush (v := 100) hx hb d_Mo_taken_50 (by decide) ?_
        refine rr_aload_n hx hb d_Mo_taken_52 rfl (lv_at hl 0 rfl) ?_
        obtain ⟨g_30, h⟩ := h
        refine rg_Mo_name E hp g_30 lk_346 d_Mo_taken_53 (fun x_29 ex_29 => ?_)
        replace h := h x_29 ex_29
        refine lv_iload_n hx hb d_Mo_taken_56 rfl (lv_at hl 1 rfl) ?_
        obtain ⟨g_32, g_33, h⟩ := h
        refine mp_iald (t0 := 1) E hp g_32 (by decide) rfl rfl g_33 d_Mo_taken_57 (fun x_31 ex_31 => ?_)
        replace h := h x_31 ex_31
        refine lv_imul hx hb d_Mo_taken_58 ?_
        refine lv_topi (fun x_34 ex_34 => ?_)
        replace h := h x_34 ex_34
        refine rr_aload_n hx hb d_Mo_taken_59 rfl (lv_at hl 0 rfl) ?_
        obtain ⟨g_36, h⟩ := h
        refine rg_Mo_place E hp g_36 lk_347 d_Mo_taken_60 (fun x_35 ex_35 => ?_)
        replace h := h x_35 ex_35
        refine lv_iload_n hx hb d_Mo_taken_63 rfl (lv_at hl 1 rfl) ?_
        obtain ⟨g_38, g_39, h⟩ := h
        refine mp_iald (t0 := 1) E hp g_38 (by decide) rfl rfl g_39 d_Mo_taken_64 (fun x_37 ex_37 => ?_)
        replace h := h x_37 ex_37
        refine lv_iadd hx hb d_Mo_taken_65 ?_
        refine lv_topi (fun x_40 ex_40 => ?_)
        replace h := h x_40 ex_40
        obtain ⟨g_42, g_43, h⟩ := h
        refine mp_bald (t0 := 4) E hp g_42 (by decide) rfl rfl g_43 d_Mo_taken_66 (fun x_41 ex_41 => ?_)
        replace h := h x_41 ex_41
        refine lv_sipush (v := 255) hx hb d_Mo_taken_67 (by decide) ?_
        refine lv_iand hx hb d_Mo_taken_70 ?_
        refine lv_topi (fun x_44 ex_44 => ?_)
        replace h := h x_44 ex_44
        refine lv_istore_n (lv' := [(2, .int x_44), (0, rn v0), (1, .int v1)]) hx hb d_Mo_taken_71 rfl hl (by decide) rfl (fun ls hl => ?_)
        refine rr_aload_n hx hb d_Mo_taken_72 rfl (lv_at hl 1 rfl) ?_
        obtain ⟨g_46, h⟩ := h
        refine rg_Mo_place E hp g_46 lk_347 d_Mo_taken_73 (fun x_45 ex_45 => ?_)
        replace h := h x_45 ex_45
        refine lv_iload_n hx hb d_Mo_taken_76 rfl (lv_at hl 2 rfl) ?_
        refine lv_dup2_11 hx hb d_Mo_taken_77 rfl (rn_cat _) ?_
        obtain ⟨g_48, g_49, h⟩ := h
        refine mp_iald (t0 := 1) E hp g_48 (by decide) rfl rfl g_49 d_Mo_taken_78 (fun x_47 ex_47 => ?_)
        replace h := h x_47 ex_47
        refine lv_iconst (v := 1) hx hb d_Mo_taken_79 (by decide) ?_
        refine lv_iadd hx hb d_Mo_taken_80 ?_
        refine lv_topi (fun x_50 ex_50 => ?_)
        replace h := h x_50 ex_50
        obtain ⟨g_51, g_52, h⟩ := h
        refine mp_iast (t0 := 1) E hp hS g_51 (by decide) rfl cw_43 rfl g_52 d_Mo_taken_81 (fun m_53 em_53 H locs hp hS => ?_)
        replace h := h m_53 em_53
        refine lv_iconst (v := 0) hx hb d_Mo_taken_82 (by decide) ?_
        refine lv_istore_n (lv' := [(3, .int 0), (2, .int x_44), (0, rn v0), (1, .int v1)]) hx hb d_Mo_taken_83 rfl hl (by decide) rfl (fun ls hl => ?_)
        obtain ⟨n_54, h⟩ := h
        exact t_Mo_taken_84 E hr n_54 m_53 v0 v1 x_44 0 _ _ _ h hp hS (lv_sub hl [2, 3, 1, 0] rfl)
      · replace h := h.2 g_26
        refine lv_sipush (v := 256) hx hb d_Mo_taken_42 (by decide) ?_
        exact mp_iret E hr hp hS h d_Mo_taken_45
    · replace h := h.2 g_10
      refine lv_bipush (v := (-3)) hx hb d_Mo_taken_19 (by decide) ?_
      exact mp_iret E hr hp hS h d_Mo_taken_21
  · replace h := h.1 g_4
    refine lv_iconst (v := (-1)) hx hb d_Mo_taken_8 (by decide) ?_
    exact mp_iret E hr hp hS h d_Mo_taken_9
set_option maxHeartbeats 4000000 in
set_option maxRecDepth 100000 in
theorem c_Mo_taken (l : Launch) (G : Gc) (m : Mm) (v0 : Nat) (v1 : Int32) (P : Int32 → Mm → Prop) (h : wp_Mo_taken m v0 v1 P) : Met l y_Mo_taken (Cond.code y_Mo_taken b_Mo_taken 5 (some .int) :: lw_good) rm_Mo_taken (Pre9 G m [rn v0, .int v1]) (PoI G P) 0 0 (fr G) := by
  refine Met.ofW (cc := b_Mo_taken) (maxL := 5) (ret := (some .int)) (by decide) rfl ?_
  intro p e s mt args below meth c s₁ B hml hv
  obtain ⟨rfl, hp, hC⟩ := hv
  have hts := atoms_spec (ws := Cond.code y_Mo_taken b_Mo_taken 5 (some .int) :: lw_good) B.pre
  have E : En G R_Mo b_Mo_taken 5 p s mt _ meth c := ⟨B.exec, B.bytes, hml, findClass_of_methodNamed B.named, fun w hw => hts w (List.mem_cons_of_mem _ hw), hC, B.notSynchronized⟩
  have hr := B.returns
  have hl := lv_entry [rn v0, .int v1] (n := 5) (by simp [lg_sl, rn_cat, cat_int, cat_long, cat_ref, cat_null])
  rw [lg_entry_eq]
  generalize (lg_sl [rn v0, .int v1] ++ List.replicate (5 - (lg_sl [rn v0, .int v1]).length) Slot.unset).toArray = ls at hl ⊢
  have hl : lv_has ls 5 [(0, rn v0), (1, .int v1)] := by simpa [lv_args, rn_cat, cat_int, cat_long, cat_ref, cat_null] using hl
  exact t_Mo_taken_0 E hr m v0 v1 _ _ _ h hp va_S.rf (lv_sub hl [0, 1] rfl)
abbrev rm_Mo_filtered : Room := { frames := 2, cells := 0, slots := 0, locals := 43 }
set_option maxHeartbeats 4000000 in
set_option maxRecDepth 100000 in
theorem t_Mo_filtered_0 {G : Gc} {P : Int32 → Mm → Prop} (E : En G R_Mo b_Mo_filtered 3 p s mt args meth c) (hr : meth.sig.returnType = some .int) (m : Mm) (v0 : Nat) (v1 : Int32) (v2 : Int32) (H : Heap) (locs : List Loc) (ls : Array Slot) (h : wp_Mo_filtered_0 P m v0 v1 v2) (hp : pic G m H) (hS : va_S (fr G) s.heap H locs) (hl : lv_has ls 3 [(0, rn v0), (1, .int v1), (2, .int v2)]) : W p l e rm_Mo_filtered s mt args below meth c H locs 0 0 (MQ below (PoI G P) args s 0 0 (fr G)) (F0 mt 0 ls []) := by
  have hx := E.1
  have hb := E.2.1
  unfold wp_Mo_filtered_0 at h
  refine rr_aload_n hx hb d_Mo_filtered_0 rfl (lv_at hl 0 rfl) ?_
  refine lv_iload_n hx hb d_Mo_filtered_1 rfl (lv_at hl 1 rfl) ?_
  obtain ⟨g_3, h⟩ := h
  refine mc_i hS (mc_runV (As := [.int v1]) (rest := []) E (c_Mo_isOpen l G m v0 v1 _ h) wd_Mo_isOpen ⟨lk_368, lk_369, lk_370⟩ rfl rfl ⟨Nat.le_of_ble_eq_true rfl, Nat.le_of_ble_eq_true rfl⟩ hp hS g_3 (by decide) rfl rfl rfl hl.1 rfl (lv_room (Nat.le_of_ble_eq_true rfl)) d_Mo_filtered_2 ⟨Nat.le_of_ble_eq_true rfl, Nat.le_of_ble_eq_true rfl⟩) (fun r_2 m_1 h H locs hp hS => ?_)
  try dsimp only at h
  refine lv_if_ne (tgt := 10) hx hb d_Mo_filtered_5 (by decide) (fun g_4 => ?_) (fun g_4 => ?_)
  · replace h := h.2 g_4
    refine lv_iload_n hx hb d_Mo_filtered_10 rfl (lv_at hl 2 rfl) ?_
    refine lv_iconst (v := 1) hx hb d_Mo_filtered_11 (by decide) ?_
    refine lv_iconst (v := 3) hx hb d_Mo_filtered_12 (by decide) ?_
    refine mc_i hS (mc_runS (As := [.int v2, .int 1, .int 3]) (rest := []) E (c_Mo_in l G m_1 v2 1 3 _ h) wd_Mo_in ⟨lk_361, lk_362⟩ rfl rfl ⟨Nat.le_of_ble_eq_true rfl, Nat.le_of_ble_eq_true rfl⟩ hp hS rfl hl.1 rfl (lv_room (Nat.le_of_ble_eq_true rfl)) d_Mo_filtered_13 ⟨Nat.le_of_ble_eq_true rfl, Nat.le_of_ble_eq_true rfl⟩) (fun r_6 m_5 h H locs hp hS => ?_)
    try dsimp only at h
    refine lv_if_ne (tgt := 22) hx hb d_Mo_filtered_16 (by decide) (fun g_7 => ?_) (fun g_7 => ?_)
    · replace h := h.2 g_7
      refine rr_aload_n hx hb d_Mo_filtered_22 rfl (lv_at hl 0 rfl) ?_
      obtain ⟨g_9, h⟩ := h
      refine rg_Mo_filters E hp g_9 lk_348 d_Mo_filtered_23 (fun x_8 ex_8 => ?_)
      replace h := h x_8 ex_8
      refine lv_iload_n hx hb d_Mo_filtered_26 rfl (lv_at hl 1 rfl) ?_
      obtain ⟨g_11, g_12, h⟩ := h
      refine mp_iald (t0 := 1) E hp g_11 (by decide) rfl rfl g_12 d_Mo_filtered_27 (fun x_10 ex_10 => ?_)
      replace h := h x_10 ex_10
      refine lv_iconst (v := 3) hx hb d_Mo_filtered_28 (by decide) ?_
      refine lv_icmp_ne (tgt := 35) hx hb d_Mo_filtered_29 (by decide) (fun g_13 => ?_) (fun g_13 => ?_)
      · replace h := h.2 g_13
        refine rr_aload_n hx hb d_Mo_filtered_35 rfl (lv_at hl 0 rfl) ?_
        obtain ⟨g_15, h⟩ := h
        refine rg_Mo_filter E hp g_15 lk_349 d_Mo_filtered_36 (fun x_14 ex_14 => ?_)
        replace h := h x_14 ex_14
        refine lv_iconst (v := 3) hx hb d_Mo_filtered_39 (by decide) ?_
        refine lv_iload_n hx hb d_Mo_filtered_40 rfl (lv_at hl 1 rfl) ?_
        refine lv_imul hx hb d_Mo_filtered_41 ?_
        refine lv_topi (fun x_16 ex_16 => ?_)
        replace h := h x_16 ex_16
        refine rr_aload_n hx hb d_Mo_filtered_42 rfl (lv_at hl 0 rfl) ?_
        obtain ⟨g_18, h⟩ := h
        refine rg_Mo_filters E hp g_18 lk_348 d_Mo_filtered_43 (fun x_17 ex_17 => ?_)
        replace h := h x_17 ex_17
        refine lv_iload_n hx hb d_Mo_filtered_46 rfl (lv_at hl 1 rfl) ?_
        obtain ⟨g_20, g_21, h⟩ := h
        refine mp_iald (t0 := 1) E hp g_20 (by decide) rfl rfl g_21 d_Mo_filtered_47 (fun x_19 ex_19 => ?_)
        replace h := h x_19 ex_19
        refine lv_iadd hx hb d_Mo_filtered_48 ?_
        refine lv_topi (fun x_22 ex_22 => ?_)
        replace h := h x_22 ex_22
        refine lv_iload_n hx hb d_Mo_filtered_49 rfl (lv_at hl 2 rfl) ?_
        obtain ⟨g_23, g_24, h⟩ := h
        refine mp_iast (t0 := 1) E hp hS g_23 (by decide) rfl cw_45 rfl g_24 d_Mo_filtered_50 (fun m_25 em_25 H locs hp hS => ?_)
        replace h := h m_25 em_25
        refine rr_aload_n hx hb d_Mo_filtered_51 rfl (lv_at hl 0 rfl) ?_
        obtain ⟨g_27, h⟩ := h
        refine rg_Mo_filters E hp g_27 lk_348 d_Mo_filtered_52 (fun x_26 ex_26 => ?_)
        replace h := h x_26 ex_26
        refine lv_iload_n hx hb d_Mo_filtered_55 rfl (lv_at hl 1 rfl) ?_
        refine lv_dup2_11 hx hb d_Mo_filtered_56 rfl (rn_cat _) ?_
        obtain ⟨g_29, g_30, h⟩ := h
        refine mp_iald (t0 := 1) E hp g_29 (by decide) rfl rfl g_30 d_Mo_filtered_57 (fun x_28 ex_28 => ?_)
        replace h := h x_28 ex_28
        refine lv_iconst (v := 1) hx hb d_Mo_filtered_58 (by decide) ?_
        refine lv_iadd hx hb d_Mo_filtered_59 ?_
        refine lv_topi (fun x_31 ex_31 => ?_)
        replace h := h x_31 ex_31
        obtain ⟨g_32, g_33, h⟩ := h
        refine mp_iast (t0 := 1) E hp hS g_32 (by decide) rfl cw_44 rfl g_33 d_Mo_filtered_60 (fun m_34 em_34 H locs hp hS => ?_)
        replace h := h m_34 em_34
        refine rr_aload_n hx hb d_Mo_filtered_61 rfl (lv_at hl 0 rfl) ?_
        obtain ⟨g_36, h⟩ := h
        refine rg_Mo_filters E hp g_36 lk_348 d_Mo_filtered_62 (fun x_35 ex_35 => ?_)
        replace h := h x_35 ex_35
        refine lv_iload_n hx hb d_Mo_filtered_65 rfl (lv_at hl 1 rfl) ?_
        obtain ⟨g_38, g_39, h⟩ := h
        refine mp_iald (t0 := 1) E hp g_38 (by decide) rfl rfl g_39 d_Mo_filtered_66 (fun x_37 ex_37 => ?_)
        replace h := h x_37 ex_37
        exact mp_iret E hr hp hS h d_Mo_filtered_67
      · replace h := h.1 g_13
        refine lv_bipush (v := (-4)) hx hb d_Mo_filtered_32 (by decide) ?_
        exact mp_iret E hr hp hS h d_Mo_filtered_34
    · replace h := h.1 g_7
      refine lv_bipush (v := (-2)) hx hb d_Mo_filtered_19 (by decide) ?_
      exact mp_iret E hr hp hS h d_Mo_filtered_21
  · replace h := h.1 g_4
    refine lv_iconst (v := (-1)) hx hb d_Mo_filtered_8 (by decide) ?_
    exact mp_iret E hr hp hS h d_Mo_filtered_9
set_option maxHeartbeats 4000000 in
set_option maxRecDepth 100000 in
theorem c_Mo_filtered (l : Launch) (G : Gc) (m : Mm) (v0 : Nat) (v1 : Int32) (v2 : Int32) (P : Int32 → Mm → Prop) (h : wp_Mo_filtered m v0 v1 v2 P) : Met l y_Mo_filtered (Cond.code y_Mo_filtered b_Mo_filtered 3 (some .int) :: lw_good) rm_Mo_filtered (Pre9 G m [rn v0, .int v1, .int v2]) (PoI G P) 0 0 (fr G) := by
  refine Met.ofW (cc := b_Mo_filtered) (maxL := 3) (ret := (some .int)) (by decide) rfl ?_
  intro p e s mt args below meth c s₁ B hml hv
  obtain ⟨rfl, hp, hC⟩ := hv
  have hts := atoms_spec (ws := Cond.code y_Mo_filtered b_Mo_filtered 3 (some .int) :: lw_good) B.pre
  have E : En G R_Mo b_Mo_filtered 3 p s mt _ meth c := ⟨B.exec, B.bytes, hml, findClass_of_methodNamed B.named, fun w hw => hts w (List.mem_cons_of_mem _ hw), hC, B.notSynchronized⟩
  have hr := B.returns
  have hl := lv_entry [rn v0, .int v1, .int v2] (n := 3) (by simp [lg_sl, rn_cat, cat_int, cat_long, cat_ref, cat_null])
  rw [lg_entry_eq]
  generalize (lg_sl [rn v0, .int v1, .int v2] ++ List.replicate (3 - (lg_sl [rn v0, .int v1, .int v2]).length) Slot.unset).toArray = ls at hl ⊢
  have hl : lv_has ls 3 [(0, rn v0), (1, .int v1), (2, .int v2)] := by simpa [lv_args, rn_cat, cat_int, cat_long, cat_ref, cat_null] using hl
  exact t_Mo_filtered_0 E hr m v0 v1 v2 _ _ _ h hp va_S.rf (lv_sub hl [0, 1, 2] rfl)
abbrev rm_Mo_file : Room := { frames := 2, cells := 0, slots := 0, locals := 47 }
set_option maxHeartbeats 4000000 in
set_option maxRecDepth 100000 in
theorem t_Mo_file_0 {G : Gc} {P : Int32 → Mm → Prop} (E : En G R_Mo b_Mo_file 3 p s mt args meth c) (hr : meth.sig.returnType = some .int) (m : Mm) (v0 : Nat) (v1 : Int32) (v2 : Int32) (H : Heap) (locs : List Loc) (ls : Array Slot) (h : wp_Mo_file_0 P m v0 v1 v2) (hp : pic G m H) (hS : va_S (fr G) s.heap H locs) (hl : lv_has ls 3 [(0, rn v0), (1, .int v1), (2, .int v2)]) : W p l e rm_Mo_file s mt args below meth c H locs 0 0 (MQ below (PoI G P) args s 0 0 (fr G)) (F0 mt 0 ls []) := by
  have hx := E.1
  have hb := E.2.1
  unfold wp_Mo_file_0 at h
  refine rr_aload_n hx hb d_Mo_file_0 rfl (lv_at hl 0 rfl) ?_
  refine lv_iconst (v := 0) hx hb d_Mo_file_1 (by decide) ?_
  obtain ⟨g_1, h⟩ := h
  refine rp_Mo_code E hp hS g_1 lk_356 d_Mo_file_2 (fun m_2 em_2 H locs hp hS => ?_)
  replace h := h m_2 em_2
  refine rr_aload_n hx hb d_Mo_file_5 rfl (lv_at hl 0 rfl) ?_
  refine lv_iload_n hx hb d_Mo_file_6 rfl (lv_at hl 1 rfl) ?_
  refine lv_iload_n hx hb d_Mo_file_7 rfl (lv_at hl 2 rfl) ?_
  obtain ⟨g_5, h⟩ := h
  refine mc_i hS (mc_runV (As := [.int v1, .int v2]) (rest := []) E (c_Mo_opened l G m_2 v0 v1 v2 _ h) wd_Mo_opened ⟨lk_371, lk_372, lk_373⟩ rfl rfl ⟨Nat.le_of_ble_eq_true rfl, Nat.le_of_ble_eq_true rfl⟩ hp hS g_5 (by decide) rfl rfl rfl hl.1 rfl (lv_room (Nat.le_of_ble_eq_true rfl)) d_Mo_file_8 ⟨Nat.le_of_ble_eq_true rfl, Nat.le_of_ble_eq_true rfl⟩) (fun r_4 m_3 h H locs hp hS => ?_)
  try dsimp only at h
  exact mp_iret E hr hp hS h d_Mo_file_11
set_option maxHeartbeats 4000000 in
set_option maxRecDepth 100000 in
theorem c_Mo_file (l : Launch) (G : Gc) (m : Mm) (v0 : Nat) (v1 : Int32) (v2 : Int32) (P : Int32 → Mm → Prop) (h : wp_Mo_file m v0 v1 v2 P) : Met l y_Mo_file (Cond.code y_Mo_file b_Mo_file 3 (some .int) :: lw_good) rm_Mo_file (Pre9 G m [rn v0, .int v1, .int v2]) (PoI G P) 0 0 (fr G) := by
  refine Met.ofW (cc := b_Mo_file) (maxL := 3) (ret := (some .int)) (by decide) rfl ?_
  intro p e s mt args below meth c s₁ B hml hv
  obtain ⟨rfl, hp, hC⟩ := hv
  have hts := atoms_spec (ws := Cond.code y_Mo_file b_Mo_file 3 (some .int) :: lw_good) B.pre
  have E : En G R_Mo b_Mo_file 3 p s mt _ meth c := ⟨B.exec, B.bytes, hml, findClass_of_methodNamed B.named, fun w hw => hts w (List.mem_cons_of_mem _ hw), hC, B.notSynchronized⟩
  have hr := B.returns
  have hl := lv_entry [rn v0, .int v1, .int v2] (n := 3) (by simp [lg_sl, rn_cat, cat_int, cat_long, cat_ref, cat_null])
  rw [lg_entry_eq]
  generalize (lg_sl [rn v0, .int v1, .int v2] ++ List.replicate (3 - (lg_sl [rn v0, .int v1, .int v2]).length) Slot.unset).toArray = ls at hl ⊢
  have hl : lv_has ls 3 [(0, rn v0), (1, .int v1), (2, .int v2)] := by simpa [lv_args, rn_cat, cat_int, cat_long, cat_ref, cat_null] using hl
  exact t_Mo_file_0 E hr m v0 v1 v2 _ _ _ h hp va_S.rf (lv_sub hl [0, 1, 2] rfl)
abbrev rm_Mo_write : Room := { frames := 3, cells := 0, slots := 0, locals := 68 }
set_option maxHeartbeats 4000000 in
set_option maxRecDepth 100000 in
theorem t_Mo_write_0 {G : Gc} {P : Int32 → Mm → Prop} (E : En G R_Mo b_Mo_write 3 p s mt args meth c) (hr : meth.sig.returnType = some .int) (m : Mm) (v0 : Nat) (v1 : Int32) (v2 : Int32) (H : Heap) (locs : List Loc) (ls : Array Slot) (h : wp_Mo_write_0 P m v0 v1 v2) (hp : pic G m H) (hS : va_S (fr G) s.heap H locs) (hl : lv_has ls 3 [(0, rn v0), (1, .int v1), (2, .int v2)]) : W p l e rm_Mo_write s mt args below meth c H locs 0 0 (MQ below (PoI G P) args s 0 0 (fr G)) (F0 mt 0 ls []) := by
  have hx := E.1
  have hb := E.2.1
  unfold wp_Mo_write_0 at h
  refine rr_aload_n hx hb d_Mo_write_0 rfl (lv_at hl 0 rfl) ?_
  refine lv_iconst (v := 0) hx hb d_Mo_write_1 (by decide) ?_
  obtain ⟨g_1, h⟩ := h
  refine rp_Mo_code E hp hS g_1 lk_356 d_Mo_write_2 (fun m_2 em_2 H locs hp hS => ?_)
  replace h := h m_2 em_2
  refine rr_aload_n hx hb d_Mo_write_5 rfl (lv_at hl 0 rfl) ?_
  refine lv_iload_n hx hb d_Mo_write_6 rfl (lv_at hl 1 rfl) ?_
  refine lv_iload_n hx hb d_Mo_write_7 rfl (lv_at hl 2 rfl) ?_
  obtain ⟨g_5, h⟩ := h
  refine mc_i hS (mc_runV (As := [.int v1, .int v2]) (rest := []) E (c_Mo_written l G m_2 v0 v1 v2 _ h) wd_Mo_written ⟨lk_374, lk_375, lk_376⟩ rfl rfl ⟨Nat.le_of_ble_eq_true rfl, Nat.le_of_ble_eq_true rfl⟩ hp hS g_5 (by decide) rfl rfl rfl hl.1 rfl (lv_room (Nat.le_of_ble_eq_true rfl)) d_Mo_write_8 ⟨Nat.le_of_ble_eq_true rfl, Nat.le_of_ble_eq_true rfl⟩) (fun r_4 m_3 h H locs hp hS => ?_)
  try dsimp only at h
  exact mp_iret E hr hp hS h d_Mo_write_11
set_option maxHeartbeats 4000000 in
set_option maxRecDepth 100000 in
theorem c_Mo_write (l : Launch) (G : Gc) (m : Mm) (v0 : Nat) (v1 : Int32) (v2 : Int32) (P : Int32 → Mm → Prop) (h : wp_Mo_write m v0 v1 v2 P) : Met l y_Mo_write (Cond.code y_Mo_write b_Mo_write 3 (some .int) :: lw_good) rm_Mo_write (Pre9 G m [rn v0, .int v1, .int v2]) (PoI G P) 0 0 (fr G) := by
  refine Met.ofW (cc := b_Mo_write) (maxL := 3) (ret := (some .int)) (by decide) rfl ?_
  intro p e s mt args below meth c s₁ B hml hv
  obtain ⟨rfl, hp, hC⟩ := hv
  have hts := atoms_spec (ws := Cond.code y_Mo_write b_Mo_write 3 (some .int) :: lw_good) B.pre
  have E : En G R_Mo b_Mo_write 3 p s mt _ meth c := ⟨B.exec, B.bytes, hml, findClass_of_methodNamed B.named, fun w hw => hts w (List.mem_cons_of_mem _ hw), hC, B.notSynchronized⟩
  have hr := B.returns
  have hl := lv_entry [rn v0, .int v1, .int v2] (n := 3) (by simp [lg_sl, rn_cat, cat_int, cat_long, cat_ref, cat_null])
  rw [lg_entry_eq]
  generalize (lg_sl [rn v0, .int v1, .int v2] ++ List.replicate (3 - (lg_sl [rn v0, .int v1, .int v2]).length) Slot.unset).toArray = ls at hl ⊢
  have hl : lv_has ls 3 [(0, rn v0), (1, .int v1), (2, .int v2)] := by simpa [lv_args, rn_cat, cat_int, cat_long, cat_ref, cat_null] using hl
  exact t_Mo_write_0 E hr m v0 v1 v2 _ _ _ h hp va_S.rf (lv_sub hl [0, 1, 2] rfl)
abbrev rm_Mo_read : Room := { frames := 3, cells := 0, slots := 0, locals := 67 }
set_option maxHeartbeats 4000000 in
set_option maxRecDepth 100000 in
theorem t_Mo_read_0 {G : Gc} {P : Int32 → Mm → Prop} (E : En G R_Mo b_Mo_read 2 p s mt args meth c) (hr : meth.sig.returnType = some .int) (m : Mm) (v0 : Nat) (v1 : Int32) (H : Heap) (locs : List Loc) (ls : Array Slot) (h : wp_Mo_read_0 P m v0 v1) (hp : pic G m H) (hS : va_S (fr G) s.heap H locs) (hl : lv_has ls 2 [(0, rn v0), (1, .int v1)]) : W p l e rm_Mo_read s mt args below meth c H locs 0 0 (MQ below (PoI G P) args s 0 0 (fr G)) (F0 mt 0 ls []) := by
  have hx := E.1
  have hb := E.2.1
  unfold wp_Mo_read_0 at h
  refine rr_aload_n hx hb d_Mo_read_0 rfl (lv_at hl 0 rfl) ?_
  refine lv_iconst (v := 0) hx hb d_Mo_read_1 (by decide) ?_
  obtain ⟨g_1, h⟩ := h
  refine rp_Mo_code E hp hS g_1 lk_356 d_Mo_read_2 (fun m_2 em_2 H locs hp hS => ?_)
  replace h := h m_2 em_2
  refine rr_aload_n hx hb d_Mo_read_5 rfl (lv_at hl 0 rfl) ?_
  refine lv_iload_n hx hb d_Mo_read_6 rfl (lv_at hl 1 rfl) ?_
  obtain ⟨g_5, h⟩ := h
  refine mc_i hS (mc_runV (As := [.int v1]) (rest := []) E (c_Mo_taken l G m_2 v0 v1 _ h) wd_Mo_taken ⟨lk_377, lk_378, lk_379⟩ rfl rfl ⟨Nat.le_of_ble_eq_true rfl, Nat.le_of_ble_eq_true rfl⟩ hp hS g_5 (by decide) rfl rfl rfl hl.1 rfl (lv_room (Nat.le_of_ble_eq_true rfl)) d_Mo_read_7 ⟨Nat.le_of_ble_eq_true rfl, Nat.le_of_ble_eq_true rfl⟩) (fun r_4 m_3 h H locs hp hS => ?_)
  try dsimp only at h
  exact mp_iret E hr hp hS h d_Mo_read_10
set_option maxHeartbeats 4000000 in
set_option maxRecDepth 100000 in
theorem c_Mo_read (l : Launch) (G : Gc) (m : Mm) (v0 : Nat) (v1 : Int32) (P : Int32 → Mm → Prop) (h : wp_Mo_read m v0 v1 P) : Met l y_Mo_read (Cond.code y_Mo_read b_Mo_read 2 (some .int) :: lw_good) rm_Mo_read (Pre9 G m [rn v0, .int v1]) (PoI G P) 0 0 (fr G) := by
  refine Met.ofW (cc := b_Mo_read) (maxL := 2) (ret := (some .int)) (by decide) rfl ?_
  intro p e s mt args below meth c s₁ B hml hv
  obtain ⟨rfl, hp, hC⟩ := hv
  have hts := atoms_spec (ws := Cond.code y_Mo_read b_Mo_read 2 (some .int) :: lw_good) B.pre
  have E : En G R_Mo b_Mo_read 2 p s mt _ meth c := ⟨B.exec, B.bytes, hml, findClass_of_methodNamed B.named, fun w hw => hts w (List.mem_cons_of_mem _ hw), hC, B.notSynchronized⟩
  have hr := B.returns
  have hl := lv_entry [rn v0, .int v1] (n := 2) (by simp [lg_sl, rn_cat, cat_int, cat_long, cat_ref, cat_null])
  rw [lg_entry_eq]
  generalize (lg_sl [rn v0, .int v1] ++ List.replicate (2 - (lg_sl [rn v0, .int v1]).length) Slot.unset).toArray = ls at hl ⊢
  have hl : lv_has ls 2 [(0, rn v0), (1, .int v1)] := by simpa [lv_args, rn_cat, cat_int, cat_long, cat_ref, cat_null] using hl
  exact t_Mo_read_0 E hr m v0 v1 _ _ _ h hp va_S.rf (lv_sub hl [0, 1] rfl)
abbrev rm_Mo_filter : Room := { frames := 3, cells := 0, slots := 0, locals := 65 }
set_option maxHeartbeats 4000000 in
set_option maxRecDepth 100000 in
theorem t_Mo_filter_0 {G : Gc} {P : Int32 → Mm → Prop} (E : En G R_Mo b_Mo_filter 3 p s mt args meth c) (hr : meth.sig.returnType = some .int) (m : Mm) (v0 : Nat) (v1 : Int32) (v2 : Int32) (H : Heap) (locs : List Loc) (ls : Array Slot) (h : wp_Mo_filter_0 P m v0 v1 v2) (hp : pic G m H) (hS : va_S (fr G) s.heap H locs) (hl : lv_has ls 3 [(0, rn v0), (1, .int v1), (2, .int v2)]) : W p l e rm_Mo_filter s mt args below meth c H locs 0 0 (MQ below (PoI G P) args s 0 0 (fr G)) (F0 mt 0 ls []) := by
  have hx := E.1
  have hb := E.2.1
  unfold wp_Mo_filter_0 at h
  refine rr_aload_n hx hb d_Mo_filter_0 rfl (lv_at hl 0 rfl) ?_
  refine lv_iconst (v := 0) hx hb d_Mo_filter_1 (by decide) ?_
  obtain ⟨g_1, h⟩ := h
  refine rp_Mo_code E hp hS g_1 lk_356 d_Mo_filter_2 (fun m_2 em_2 H locs hp hS => ?_)
  replace h := h m_2 em_2
  refine rr_aload_n hx hb d_Mo_filter_5 rfl (lv_at hl 0 rfl) ?_
  refine lv_iload_n hx hb d_Mo_filter_6 rfl (lv_at hl 1 rfl) ?_
  refine lv_iload_n hx hb d_Mo_filter_7 rfl (lv_at hl 2 rfl) ?_
  obtain ⟨g_5, h⟩ := h
  refine mc_i hS (mc_runV (As := [.int v1, .int v2]) (rest := []) E (c_Mo_filtered l G m_2 v0 v1 v2 _ h) wd_Mo_filtered ⟨lk_380, lk_381, lk_382⟩ rfl rfl ⟨Nat.le_of_ble_eq_true rfl, Nat.le_of_ble_eq_true rfl⟩ hp hS g_5 (by decide) rfl rfl rfl hl.1 rfl (lv_room (Nat.le_of_ble_eq_true rfl)) d_Mo_filter_8 ⟨Nat.le_of_ble_eq_true rfl, Nat.le_of_ble_eq_true rfl⟩) (fun r_4 m_3 h H locs hp hS => ?_)
  try dsimp only at h
  exact mp_iret E hr hp hS h d_Mo_filter_11
set_option maxHeartbeats 4000000 in
set_option maxRecDepth 100000 in
theorem c_Mo_filter (l : Launch) (G : Gc) (m : Mm) (v0 : Nat) (v1 : Int32) (v2 : Int32) (P : Int32 → Mm → Prop) (h : wp_Mo_filter m v0 v1 v2 P) : Met l y_Mo_filter (Cond.code y_Mo_filter b_Mo_filter 3 (some .int) :: lw_good) rm_Mo_filter (Pre9 G m [rn v0, .int v1, .int v2]) (PoI G P) 0 0 (fr G) := by
  refine Met.ofW (cc := b_Mo_filter) (maxL := 3) (ret := (some .int)) (by decide) rfl ?_
  intro p e s mt args below meth c s₁ B hml hv
  obtain ⟨rfl, hp, hC⟩ := hv
  have hts := atoms_spec (ws := Cond.code y_Mo_filter b_Mo_filter 3 (some .int) :: lw_good) B.pre
  have E : En G R_Mo b_Mo_filter 3 p s mt _ meth c := ⟨B.exec, B.bytes, hml, findClass_of_methodNamed B.named, fun w hw => hts w (List.mem_cons_of_mem _ hw), hC, B.notSynchronized⟩
  have hr := B.returns
  have hl := lv_entry [rn v0, .int v1, .int v2] (n := 3) (by simp [lg_sl, rn_cat, cat_int, cat_long, cat_ref, cat_null])
  rw [lg_entry_eq]
  generalize (lg_sl [rn v0, .int v1, .int v2] ++ List.replicate (3 - (lg_sl [rn v0, .int v1, .int v2]).length) Slot.unset).toArray = ls at hl ⊢
  have hl : lv_has ls 3 [(0, rn v0), (1, .int v1), (2, .int v2)] := by simpa [lv_args, rn_cat, cat_int, cat_long, cat_ref, cat_null] using hl
  exact t_Mo_filter_0 E hr m v0 v1 v2 _ _ _ h hp va_S.rf (lv_sub hl [0, 1, 2] rfl)
abbrev rm_Mo_close : Room := { frames := 2, cells := 0, slots := 0, locals := 43 }
set_option maxHeartbeats 4000000 in
set_option maxRecDepth 100000 in
theorem t_Mo_close_0 {G : Gc} {P : Int32 → Mm → Prop} (E : En G R_Mo b_Mo_close 2 p s mt args meth c) (hr : meth.sig.returnType = some .int) (m : Mm) (v0 : Nat) (v1 : Int32) (H : Heap) (locs : List Loc) (ls : Array Slot) (h : wp_Mo_close_0 P m v0 v1) (hp : pic G m H) (hS : va_S (fr G) s.heap H locs) (hl : lv_has ls 2 [(0, rn v0), (1, .int v1)]) : W p l e rm_Mo_close s mt args below meth c H locs 0 0 (MQ below (PoI G P) args s 0 0 (fr G)) (F0 mt 0 ls []) := by
  have hx := E.1
  have hb := E.2.1
  unfold wp_Mo_close_0 at h
  refine rr_aload_n hx hb d_Mo_close_0 rfl (lv_at hl 0 rfl) ?_
  refine lv_iconst (v := 0) hx hb d_Mo_close_1 (by decide) ?_
  obtain ⟨g_1, h⟩ := h
  refine rp_Mo_code E hp hS g_1 lk_356 d_Mo_close_2 (fun m_2 em_2 H locs hp hS => ?_)
  replace h := h m_2 em_2
  refine rr_aload_n hx hb d_Mo_close_5 rfl (lv_at hl 0 rfl) ?_
  refine lv_iload_n hx hb d_Mo_close_6 rfl (lv_at hl 1 rfl) ?_
  obtain ⟨g_5, h⟩ := h
  refine mc_i hS (mc_runV (As := [.int v1]) (rest := []) E (c_Mo_isOpen l G m_2 v0 v1 _ h) wd_Mo_isOpen ⟨lk_368, lk_369, lk_370⟩ rfl rfl ⟨Nat.le_of_ble_eq_true rfl, Nat.le_of_ble_eq_true rfl⟩ hp hS g_5 (by decide) rfl rfl rfl hl.1 rfl (lv_room (Nat.le_of_ble_eq_true rfl)) d_Mo_close_7 ⟨Nat.le_of_ble_eq_true rfl, Nat.le_of_ble_eq_true rfl⟩) (fun r_4 m_3 h H locs hp hS => ?_)
  try dsimp only at h
  refine lv_if_ne (tgt := 15) hx hb d_Mo_close_10 (by decide) (fun g_6 => ?_) (fun g_6 => ?_)
  · replace h := h.2 g_6
    refine lv_iload_n hx hb d_Mo_close_15 rfl (lv_at hl 1 rfl) ?_
    refine lv_iconst (v := 1) hx hb d_Mo_close_16 (by decide) ?_
    refine lv_icmp_ne (tgt := 23) hx hb d_Mo_close_17 (by decide) (fun g_7 => ?_) (fun g_7 => ?_)
    · replace h := h.2 g_7
      refine rr_aload_n hx hb d_Mo_close_23 rfl (lv_at hl 0 rfl) ?_
      obtain ⟨g_9, h⟩ := h
      refine rg_Mo_open E hp g_9 lk_330 d_Mo_close_24 (fun x_8 ex_8 => ?_)
      replace h := h x_8 ex_8
      refine lv_iload_n hx hb d_Mo_close_27 rfl (lv_at hl 1 rfl) ?_
      refine lv_iconst (v := 0) hx hb d_Mo_close_28 (by decide) ?_
      obtain ⟨g_10, g_11, h⟩ := h
      refine mp_zast (t0 := 5) E hp hS g_10 (by decide) rfl cw_40 rfl g_11 d_Mo_close_29 (fun m_12 em_12 H locs hp hS => ?_)
      replace h := h m_12 em_12
      refine lv_iconst (v := 1) hx hb d_Mo_close_30 (by decide) ?_
      exact mp_iret E hr hp hS h d_Mo_close_31
    · replace h := h.1 g_7
      refine lv_bipush (v := (-3)) hx hb d_Mo_close_20 (by decide) ?_
      exact mp_iret E hr hp hS h d_Mo_close_22
  · replace h := h.1 g_6
    refine lv_iconst (v := (-1)) hx hb d_Mo_close_13 (by decide) ?_
    exact mp_iret E hr hp hS h d_Mo_close_14
set_option maxHeartbeats 4000000 in
set_option maxRecDepth 100000 in
theorem c_Mo_close (l : Launch) (G : Gc) (m : Mm) (v0 : Nat) (v1 : Int32) (P : Int32 → Mm → Prop) (h : wp_Mo_close m v0 v1 P) : Met l y_Mo_close (Cond.code y_Mo_close b_Mo_close 2 (some .int) :: lw_good) rm_Mo_close (Pre9 G m [rn v0, .int v1]) (PoI G P) 0 0 (fr G) := by
  refine Met.ofW (cc := b_Mo_close) (maxL := 2) (ret := (some .int)) (by decide) rfl ?_
  intro p e s mt args below meth c s₁ B hml hv
  obtain ⟨rfl, hp, hC⟩ := hv
  have hts := atoms_spec (ws := Cond.code y_Mo_close b_Mo_close 2 (some .int) :: lw_good) B.pre
  have E : En G R_Mo b_Mo_close 2 p s mt _ meth c := ⟨B.exec, B.bytes, hml, findClass_of_methodNamed B.named, fun w hw => hts w (List.mem_cons_of_mem _ hw), hC, B.notSynchronized⟩
  have hr := B.returns
  have hl := lv_entry [rn v0, .int v1] (n := 2) (by simp [lg_sl, rn_cat, cat_int, cat_long, cat_ref, cat_null])
  rw [lg_entry_eq]
  generalize (lg_sl [rn v0, .int v1] ++ List.replicate (2 - (lg_sl [rn v0, .int v1]).length) Slot.unset).toArray = ls at hl ⊢
  have hl : lv_has ls 2 [(0, rn v0), (1, .int v1)] := by simpa [lv_args, rn_cat, cat_int, cat_long, cat_ref, cat_null] using hl
  exact t_Mo_close_0 E hr m v0 v1 _ _ _ h hp va_S.rf (lv_sub hl [0, 1] rfl)
abbrev rm_Mo_startFails : Room := { frames := 0, cells := 0, slots := 0, locals := 0 }
set_option maxHeartbeats 4000000 in
set_option maxRecDepth 100000 in
theorem t_Mo_startFails_0 {G : Gc} {P : Int32 → Mm → Prop} (E : En G R_Mo b_Mo_startFails 3 p s mt args meth c) (hr : meth.sig.returnType = some .boolean) (m : Mm) (v0 : Nat) (v1 : Int32) (H : Heap) (locs : List Loc) (ls : Array Slot) (h : wp_Mo_startFails_0 P m v0 v1) (hp : pic G m H) (hS : va_S (fr G) s.heap H locs) (hl : lv_has ls 3 [(0, rn v0), (1, .int v1)]) : W p l e rm_Mo_startFails s mt args below meth c H locs 0 0 (MQ below (PoI G P) args s 0 0 (fr G)) (F0 mt 0 ls []) := by
  have hx := E.1
  have hb := E.2.1
  unfold wp_Mo_startFails_0 at h
  refine rr_aload_n hx hb d_Mo_startFails_0 rfl (lv_at hl 0 rfl) ?_
  refine lv_iconst (v := 0) hx hb d_Mo_startFails_1 (by decide) ?_
  obtain ⟨g_1, h⟩ := h
  refine rp_Mo_code E hp hS g_1 lk_356 d_Mo_startFails_2 (fun m_2 em_2 H locs hp hS => ?_)
  replace h := h m_2 em_2
  refine rr_aload_n hx hb d_Mo_startFails_5 rfl (lv_at hl 0 rfl) ?_
  obtain ⟨g_4, h⟩ := h
  refine rg_Mo_fails E hp g_4 lk_383 d_Mo_startFails_6 (fun x_3 ex_3 => ?_)
  replace h := h x_3 ex_3
  refine lv_istore_n (lv' := [(2, .int x_3), (0, rn v0), (1, .int v1)]) hx hb d_Mo_startFails_9 rfl hl (by decide) rfl (fun ls hl => ?_)
  refine rr_aload_n hx hb d_Mo_startFails_10 rfl (lv_at hl 1 rfl) ?_
  refine lv_iload_n hx hb d_Mo_startFails_11 rfl (lv_at hl 2 rfl) ?_
  obtain ⟨g_5, g_7, h⟩ := h
  refine rp_Mo_fails E hp hS g_5 lk_383 g_7 d_Mo_startFails_12 (fun m_6 em_6 H locs hp hS => ?_)
  replace h := h m_6 em_6
  refine lv_iload_n hx hb d_Mo_startFails_15 rfl (lv_at hl 0 rfl) ?_
  exact mp_zret E hr hp hS (by rcases h.1 with e0 | e0 <;> rw [e0] <;> decide) h.2 d_Mo_startFails_16
set_option maxHeartbeats 4000000 in
set_option maxRecDepth 100000 in
theorem c_Mo_startFails (l : Launch) (G : Gc) (m : Mm) (v0 : Nat) (v1 : Int32) (P : Int32 → Mm → Prop) (h : wp_Mo_startFails m v0 v1 P) : Met l y_Mo_startFails (Cond.code y_Mo_startFails b_Mo_startFails 3 (some .boolean) :: lw_good) rm_Mo_startFails (Pre9 G m [rn v0, .int v1]) (PoI G P) 0 0 (fr G) := by
  refine Met.ofW (cc := b_Mo_startFails) (maxL := 3) (ret := (some .boolean)) (by decide) rfl ?_
  intro p e s mt args below meth c s₁ B hml hv
  obtain ⟨rfl, hp, hC⟩ := hv
  have hts := atoms_spec (ws := Cond.code y_Mo_startFails b_Mo_startFails 3 (some .boolean) :: lw_good) B.pre
  have E : En G R_Mo b_Mo_startFails 3 p s mt _ meth c := ⟨B.exec, B.bytes, hml, findClass_of_methodNamed B.named, fun w hw => hts w (List.mem_cons_of_mem _ hw), hC, B.notSynchronized⟩
  have hr := B.returns
  have hl := lv_entry [rn v0, .int v1] (n := 3) (by simp [lg_sl, rn_cat, cat_int, cat_long, cat_ref, cat_null])
  rw [lg_entry_eq]
  generalize (lg_sl [rn v0, .int v1] ++ List.replicate (3 - (lg_sl [rn v0, .int v1]).length) Slot.unset).toArray = ls at hl ⊢
  have hl : lv_has ls 3 [(0, rn v0), (1, .int v1)] := by simpa [lv_args, rn_cat, cat_int, cat_long, cat_ref, cat_null] using hl
  exact t_Mo_startFails_0 E hr m v0 v1 _ _ _ h hp va_S.rf (lv_sub hl [0, 1] rfl)
abbrev rm_Mo_output : Room := { frames := 0, cells := 0, slots := 0, locals := 0 }
set_option maxHeartbeats 4000000 in
set_option maxRecDepth 100000 in
theorem t_Mo_output_0 {G : Gc} {P : Int32 → Mm → Prop} (E : En G R_Mo b_Mo_output 2 p s mt args meth c) (hr : meth.sig.returnType = some .int) (m : Mm) (v0 : Nat) (v1 : Int32) (H : Heap) (locs : List Loc) (ls : Array Slot) (h : wp_Mo_output_0 P m v0 v1) (hp : pic G m H) (hS : va_S (fr G) s.heap H locs) (hl : lv_has ls 2 [(0, rn v0), (1, .int v1)]) : W p l e rm_Mo_output s mt args below meth c H locs 0 0 (MQ below (PoI G P) args s 0 0 (fr G)) (F0 mt 0 ls []) := by
  have hx := E.1
  have hb := E.2.1
  unfold wp_Mo_output_0 at h
  refine rr_aload_n hx hb d_Mo_output_0 rfl (lv_at hl 0 rfl) ?_
  refine lv_iconst (v := 0) hx hb d_Mo_output_1 (by decide) ?_
  obtain ⟨g_1, h⟩ := h
  refine rp_Mo_code E hp hS g_1 lk_356 d_Mo_output_2 (fun m_2 em_2 H locs hp hS => ?_)
  replace h := h m_2 em_2
  refine lv_iload_n hx hb d_Mo_output_5 rfl (lv_at hl 1 rfl) ?_
  refine lv_if_lt (tgt := 30) hx hb d_Mo_output_6 (by decide) (fun g_3 => ?_) (fun g_3 => ?_)
  · replace h := h.1 g_3
    refine lv_iconst (v := (-1)) hx hb d_Mo_output_30 (by decide) ?_
    exact mp_iret E hr hp hS h d_Mo_output_31
  · replace h := h.2 g_3
    refine lv_iload_n hx hb d_Mo_output_9 rfl (lv_at hl 1 rfl) ?_
    refine rr_aload_n hx hb d_Mo_output_10 rfl (lv_at hl 0 rfl) ?_
    obtain ⟨g_5, h⟩ := h
    refine rg_Mo_outSize E hp g_5 lk_365 d_Mo_output_11 (fun x_4 ex_4 => ?_)
    replace h := h x_4 ex_4
    refine lv_icmp_ge (tgt := 30) hx hb d_Mo_output_14 (by decide) (fun g_6 => ?_) (fun g_6 => ?_)
    · replace h := h.1 g_6
      refine lv_iconst (v := (-1)) hx hb d_Mo_output_30 (by decide) ?_
      exact mp_iret E hr hp hS h d_Mo_output_31
    · replace h := h.2 g_6
      refine rr_aload_n hx hb d_Mo_output_17 rfl (lv_at hl 0 rfl) ?_
      obtain ⟨g_8, h⟩ := h
      refine rg_Mo_out E hp g_8 lk_345 d_Mo_output_18 (fun x_7 ex_7 => ?_)
      replace h := h x_7 ex_7
      refine lv_iload_n hx hb d_Mo_output_21 rfl (lv_at hl 1 rfl) ?_
      obtain ⟨g_10, g_11, h⟩ := h
      refine mp_bald (t0 := 4) E hp g_10 (by decide) rfl rfl g_11 d_Mo_output_22 (fun x_9 ex_9 => ?_)
      replace h := h x_9 ex_9
      refine lv_sipush (v := 255) hx hb d_Mo_output_23 (by decide) ?_
      refine lv_iand hx hb d_Mo_output_26 ?_
      refine lv_topi (fun x_12 ex_12 => ?_)
      replace h := h x_12 ex_12
      refine lv_goto (tgt := 31) hx hb d_Mo_output_27 (by decide) ?_
      exact mp_iret E hr hp hS h d_Mo_output_31
set_option maxHeartbeats 4000000 in
set_option maxRecDepth 100000 in
theorem c_Mo_output (l : Launch) (G : Gc) (m : Mm) (v0 : Nat) (v1 : Int32) (P : Int32 → Mm → Prop) (h : wp_Mo_output m v0 v1 P) : Met l y_Mo_output (Cond.code y_Mo_output b_Mo_output 2 (some .int) :: lw_good) rm_Mo_output (Pre9 G m [rn v0, .int v1]) (PoI G P) 0 0 (fr G) := by
  refine Met.ofW (cc := b_Mo_output) (maxL := 2) (ret := (some .int)) (by decide) rfl ?_
  intro p e s mt args below meth c s₁ B hml hv
  obtain ⟨rfl, hp, hC⟩ := hv
  have hts := atoms_spec (ws := Cond.code y_Mo_output b_Mo_output 2 (some .int) :: lw_good) B.pre
  have E : En G R_Mo b_Mo_output 2 p s mt _ meth c := ⟨B.exec, B.bytes, hml, findClass_of_methodNamed B.named, fun w hw => hts w (List.mem_cons_of_mem _ hw), hC, B.notSynchronized⟩
  have hr := B.returns
  have hl := lv_entry [rn v0, .int v1] (n := 2) (by simp [lg_sl, rn_cat, cat_int, cat_long, cat_ref, cat_null])
  rw [lg_entry_eq]
  generalize (lg_sl [rn v0, .int v1] ++ List.replicate (2 - (lg_sl [rn v0, .int v1]).length) Slot.unset).toArray = ls at hl ⊢
  have hl : lv_has ls 2 [(0, rn v0), (1, .int v1)] := by simpa [lv_args, rn_cat, cat_int, cat_long, cat_ref, cat_null] using hl
  exact t_Mo_output_0 E hr m v0 v1 _ _ _ h hp va_S.rf (lv_sub hl [0, 1] rfl)
abbrev rm_Mo_lies : Room := { frames := 1, cells := 0, slots := 0, locals := 22 }
set_option maxHeartbeats 4000000 in
set_option maxRecDepth 100000 in
theorem t_Mo_lies_0 {G : Gc} {P : Int32 → Mm → Prop} (E : En G R_Mo b_Mo_lies 3 p s mt args meth c) (hr : meth.sig.returnType = some .int) (m : Mm) (v0 : Nat) (v1 : Int32) (v2 : Int32) (H : Heap) (locs : List Loc) (ls : Array Slot) (h : wp_Mo_lies_0 P m v0 v1 v2) (hp : pic G m H) (hS : va_S (fr G) s.heap H locs) (hl : lv_has ls 3 [(0, rn v0), (1, .int v1), (2, .int v2)]) : W p l e rm_Mo_lies s mt args below meth c H locs 0 0 (MQ below (PoI G P) args s 0 0 (fr G)) (F0 mt 0 ls []) := by
  have hx := E.1
  have hb := E.2.1
  unfold wp_Mo_lies_0 at h
  refine rr_aload_n hx hb d_Mo_lies_0 rfl (lv_at hl 0 rfl) ?_
  refine lv_iconst (v := 0) hx hb d_Mo_lies_1 (by decide) ?_
  obtain ⟨g_1, h⟩ := h
  refine rp_Mo_code E hp hS g_1 lk_356 d_Mo_lies_2 (fun m_2 em_2 H locs hp hS => ?_)
  replace h := h m_2 em_2
  refine lv_iload_n hx hb d_Mo_lies_5 rfl (lv_at hl 1 rfl) ?_
  refine lv_iconst (v := 0) hx hb d_Mo_lies_6 (by decide) ?_
  refine lv_bipush (v := 9) hx hb d_Mo_lies_7 (by decide) ?_
  refine mc_i hS (mc_runS (As := [.int v1, .int 0, .int 9]) (rest := []) E (c_Mo_in l G m_2 v1 0 9 _ h) wd_Mo_in ⟨lk_361, lk_362⟩ rfl rfl ⟨Nat.le_of_ble_eq_true rfl, Nat.le_of_ble_eq_true rfl⟩ hp hS rfl hl.1 rfl (lv_room (Nat.le_of_ble_eq_true rfl)) d_Mo_lies_9 ⟨Nat.le_of_ble_eq_true rfl, Nat.le_of_ble_eq_true rfl⟩) (fun r_4 m_3 h H locs hp hS => ?_)
  try dsimp only at h
  refine lv_if_eq (tgt := 56) hx hb d_Mo_lies_12 (by decide) (fun g_5 => ?_) (fun g_5 => ?_)
  · replace h := h.1 g_5
    refine lv_iconst (v := (-1)) hx hb d_Mo_lies_56 (by decide) ?_
    exact mp_iret E hr hp hS h d_Mo_lies_57
  · replace h := h.2 g_5
    refine rr_aload_n hx hb d_Mo_lies_15 rfl (lv_at hl 0 rfl) ?_
    obtain ⟨g_7, h⟩ := h
    refine rg_Mo_there E hp g_7 lk_342 d_Mo_lies_16 (fun x_6 ex_6 => ?_)
    replace h := h x_6 ex_6
    refine lv_iload_n hx hb d_Mo_lies_19 rfl (lv_at hl 1 rfl) ?_
    obtain ⟨g_9, g_10, h⟩ := h
    refine mp_zald (t0 := 5) E hp g_9 (by decide) rfl rfl g_10 d_Mo_lies_20 (fun x_8 ex_8 => ?_)
    replace h := h x_8 ex_8
    refine lv_if_eq (tgt := 56) hx hb d_Mo_lies_21 (by decide) (fun g_11 => ?_) (fun g_11 => ?_)
    · replace h := h.1 g_11
      refine lv_iconst (v := (-1)) hx hb d_Mo_lies_56 (by decide) ?_
      exact mp_iret E hr hp hS h d_Mo_lies_57
    · replace h := h.2 g_11
      refine lv_iload_n hx hb d_Mo_lies_24 rfl (lv_at hl 2 rfl) ?_
      refine lv_if_lt (tgt := 56) hx hb d_Mo_lies_25 (by decide) (fun g_12 => ?_) (fun g_12 => ?_)
      · replace h := h.1 g_12
        refine lv_iconst (v := (-1)) hx hb d_Mo_lies_56 (by decide) ?_
        exact mp_iret E hr hp hS h d_Mo_lies_57
      · replace h := h.2 g_12
        refine lv_iload_n hx hb d_Mo_lies_28 rfl (lv_at hl 2 rfl) ?_
        refine rr_aload_n hx hb d_Mo_lies_29 rfl (lv_at hl 0 rfl) ?_
        obtain ⟨g_14, h⟩ := h
        refine rg_Mo_length E hp g_14 lk_343 d_Mo_lies_30 (fun x_13 ex_13 => ?_)
        replace h := h x_13 ex_13
        refine lv_iload_n hx hb d_Mo_lies_33 rfl (lv_at hl 1 rfl) ?_
        obtain ⟨g_16, g_17, h⟩ := h
        refine mp_iald (t0 := 1) E hp g_16 (by decide) rfl rfl g_17 d_Mo_lies_34 (fun x_15 ex_15 => ?_)
        replace h := h x_15 ex_15
        refine lv_icmp_ge (tgt := 56) hx hb d_Mo_lies_35 (by decide) (fun g_18 => ?_) (fun g_18 => ?_)
        · replace h := h.1 g_18
          refine lv_iconst (v := (-1)) hx hb d_Mo_lies_56 (by decide) ?_
          exact mp_iret E hr hp hS h d_Mo_lies_57
        · replace h := h.2 g_18
          refine rr_aload_n hx hb d_Mo_lies_38 rfl (lv_at hl 0 rfl) ?_
          obtain ⟨g_20, h⟩ := h
          refine rg_Mo_lies E hp g_20 lk_344 d_Mo_lies_39 (fun x_19 ex_19 => ?_)
          replace h := h x_19 ex_19
          refine lv_bipush (v := 100) hx hb d_Mo_lies_42 (by decide) ?_
          refine lv_iload_n hx hb d_Mo_lies_44 rfl (lv_at hl 1 rfl) ?_
          refine lv_imul hx hb d_Mo_lies_45 ?_
          refine lv_topi (fun x_21 ex_21 => ?_)
          replace h := h x_21 ex_21
          refine lv_iload_n hx hb d_Mo_lies_46 rfl (lv_at hl 2 rfl) ?_
          refine lv_iadd hx hb d_Mo_lies_47 ?_
          refine lv_topi (fun x_22 ex_22 => ?_)
          replace h := h x_22 ex_22
          obtain ⟨g_24, g_25, h⟩ := h
          refine mp_bald (t0 := 4) E hp g_24 (by decide) rfl rfl g_25 d_Mo_lies_48 (fun x_23 ex_23 => ?_)
          replace h := h x_23 ex_23
          refine lv_sipush (v := 255) hx hb d_Mo_lies_49 (by decide) ?_
          refine lv_iand hx hb d_Mo_lies_52 ?_
          refine lv_topi (fun x_26 ex_26 => ?_)
          replace h := h x_26 ex_26
          refine lv_goto (tgt := 57) hx hb d_Mo_lies_53 (by decide) ?_
          exact mp_iret E hr hp hS h d_Mo_lies_57
set_option maxHeartbeats 4000000 in
set_option maxRecDepth 100000 in
theorem c_Mo_lies (l : Launch) (G : Gc) (m : Mm) (v0 : Nat) (v1 : Int32) (v2 : Int32) (P : Int32 → Mm → Prop) (h : wp_Mo_lies m v0 v1 v2 P) : Met l y_Mo_lies (Cond.code y_Mo_lies b_Mo_lies 3 (some .int) :: lw_good) rm_Mo_lies (Pre9 G m [rn v0, .int v1, .int v2]) (PoI G P) 0 0 (fr G) := by
  refine Met.ofW (cc := b_Mo_lies) (maxL := 3) (ret := (some .int)) (by decide) rfl ?_
  intro p e s mt args below meth c s₁ B hml hv
  obtain ⟨rfl, hp, hC⟩ := hv
  have hts := atoms_spec (ws := Cond.code y_Mo_lies b_Mo_lies 3 (some .int) :: lw_good) B.pre
  have E : En G R_Mo b_Mo_lies 3 p s mt _ meth c := ⟨B.exec, B.bytes, hml, findClass_of_methodNamed B.named, fun w hw => hts w (List.mem_cons_of_mem _ hw), hC, B.notSynchronized⟩
  have hr := B.returns
  have hl := lv_entry [rn v0, .int v1, .int v2] (n := 3) (by simp [lg_sl, rn_cat, cat_int, cat_long, cat_ref, cat_null])
  rw [lg_entry_eq]
  generalize (lg_sl [rn v0, .int v1, .int v2] ++ List.replicate (3 - (lg_sl [rn v0, .int v1, .int v2]).length) Slot.unset).toArray = ls at hl ⊢
  have hl : lv_has ls 3 [(0, rn v0), (1, .int v1), (2, .int v2)] := by simpa [lv_args, rn_cat, cat_int, cat_long, cat_ref, cat_null] using hl
  exact t_Mo_lies_0 E hr m v0 v1 v2 _ _ _ h hp va_S.rf (lv_sub hl [0, 1, 2] rfl)
abbrev rm_Mo_sign : Room := { frames := 0, cells := 0, slots := 0, locals := 0 }
set_option maxHeartbeats 4000000 in
set_option maxRecDepth 100000 in
theorem t_Mo_sign_0 {G : Gc} {P : Int32 → Mm → Prop} (E : En G R_Mo b_Mo_sign 2 p s mt args meth c) (hr : meth.sig.returnType = some .int) (m : Mm) (v0 : Nat) (v1 : Int32) (H : Heap) (locs : List Loc) (ls : Array Slot) (h : wp_Mo_sign_0 P m v0 v1) (hp : pic G m H) (hS : va_S (fr G) s.heap H locs) (hl : lv_has ls 2 [(0, rn v0), (1, .int v1)]) : W p l e rm_Mo_sign s mt args below meth c H locs 0 0 (MQ below (PoI G P) args s 0 0 (fr G)) (F0 mt 0 ls []) := by
  have hx := E.1
  have hb := E.2.1
  unfold wp_Mo_sign_0 at h
  refine rr_aload_n hx hb d_Mo_sign_0 rfl (lv_at hl 0 rfl) ?_
  obtain ⟨g_2, h⟩ := h
  refine rg_Mo_signs E hp g_2 lk_335 d_Mo_sign_1 (fun x_1 ex_1 => ?_)
  replace h := h x_1 ex_1
  refine lv_sipush (v := 200) hx hb d_Mo_sign_4 (by decide) ?_
  refine rr_aload_n hx hb d_Mo_sign_7 rfl (lv_at hl 0 rfl) ?_
  obtain ⟨g_4, h⟩ := h
  refine rg_Mo_job E hp g_4 lk_384 d_Mo_sign_8 (fun x_3 ex_3 => ?_)
  replace h := h x_3 ex_3
  refine lv_imul hx hb d_Mo_sign_11 ?_
  refine lv_topi (fun x_5 ex_5 => ?_)
  replace h := h x_5 ex_5
  refine lv_iload_n hx hb d_Mo_sign_12 rfl (lv_at hl 1 rfl) ?_
  refine lv_iadd hx hb d_Mo_sign_13 ?_
  refine lv_topi (fun x_6 ex_6 => ?_)
  replace h := h x_6 ex_6
  obtain ⟨g_8, g_9, h⟩ := h
  refine mp_bald (t0 := 4) E hp g_8 (by decide) rfl rfl g_9 d_Mo_sign_14 (fun x_7 ex_7 => ?_)
  replace h := h x_7 ex_7
  exact mp_iret E hr hp hS h d_Mo_sign_15
set_option maxHeartbeats 4000000 in
set_option maxRecDepth 100000 in
theorem c_Mo_sign (l : Launch) (G : Gc) (m : Mm) (v0 : Nat) (v1 : Int32) (P : Int32 → Mm → Prop) (h : wp_Mo_sign m v0 v1 P) : Met l y_Mo_sign (Cond.code y_Mo_sign b_Mo_sign 2 (some .int) :: lw_good) rm_Mo_sign (Pre9 G m [rn v0, .int v1]) (PoI G P) 0 0 (fr G) := by
  refine Met.ofW (cc := b_Mo_sign) (maxL := 2) (ret := (some .int)) (by decide) rfl ?_
  intro p e s mt args below meth c s₁ B hml hv
  obtain ⟨rfl, hp, hC⟩ := hv
  have hts := atoms_spec (ws := Cond.code y_Mo_sign b_Mo_sign 2 (some .int) :: lw_good) B.pre
  have E : En G R_Mo b_Mo_sign 2 p s mt _ meth c := ⟨B.exec, B.bytes, hml, findClass_of_methodNamed B.named, fun w hw => hts w (List.mem_cons_of_mem _ hw), hC, B.notSynchronized⟩
  have hr := B.returns
  have hl := lv_entry [rn v0, .int v1] (n := 2) (by simp [lg_sl, rn_cat, cat_int, cat_long, cat_ref, cat_null])
  rw [lg_entry_eq]
  generalize (lg_sl [rn v0, .int v1] ++ List.replicate (2 - (lg_sl [rn v0, .int v1]).length) Slot.unset).toArray = ls at hl ⊢
  have hl : lv_has ls 2 [(0, rn v0), (1, .int v1)] := by simpa [lv_args, rn_cat, cat_int, cat_long, cat_ref, cat_null] using hl
  exact t_Mo_sign_0 E hr m v0 v1 _ _ _ h hp va_S.rf (lv_sub hl [0, 1] rfl)
abbrev rm_Mo_behindRemark : Room := { frames := 1, cells := 0, slots := 0, locals := 21 }
set_option maxHeartbeats 4000000 in
set_option maxRecDepth 100000 in
theorem t_Mo_behindRemark_31 {G : Gc} {P : Int32 → Mm → Prop} (E : En G R_Mo b_Mo_behindRemark 3 p s mt args meth c) (hr : meth.sig.returnType = some .int) (m : Mm) (v2 : Int32) (H : Heap) (locs : List Loc) (ls : Array Slot) (h : wp_Mo_behindRemark_31 P m v2) (hp : pic G m H) (hS : va_S (fr G) s.heap H locs) (hl : lv_has ls 3 [(2, .int v2)]) : W p l e rm_Mo_behindRemark s mt args below meth c H locs 0 0 (MQ below (PoI G P) args s 0 0 (fr G)) (F0 mt 31 ls []) := by
  have hx := E.1
  have hb := E.2.1
  unfold wp_Mo_behindRemark_31 at h
  refine lv_iload_n hx hb d_Mo_behindRemark_31 rfl (lv_at hl 0 rfl) ?_
  refine lv_iconst (v := 1) hx hb d_Mo_behindRemark_32 (by decide) ?_
  refine lv_iadd hx hb d_Mo_behindRemark_33 ?_
  refine lv_topi (fun x_1 ex_1 => ?_)
  replace h := h x_1 ex_1
  exact mp_iret E hr hp hS h d_Mo_behindRemark_34
set_option maxHeartbeats 4000000 in
set_option maxRecDepth 100000 in
theorem t_Mo_behindRemark_2 {G : Gc} {P : Int32 → Mm → Prop} (E : En G R_Mo b_Mo_behindRemark 3 p s mt args meth c) (hr : meth.sig.returnType = some .int) : ∀ (n : Nat) (m : Mm) (v0 : Nat) (v2 : Int32) (H : Heap) (locs : List Loc) (ls : Array Slot) (_ : wp_Mo_behindRemark_2 P n m v0 v2) (_ : pic G m H) (_ : va_S (fr G) s.heap H locs) (_ : lv_has ls 3 [(0, rn v0), (2, .int v2)]), W p l e rm_Mo_behindRemark s mt args below meth c H locs 0 0 (MQ below (PoI G P) args s 0 0 (fr G)) (F0 mt 2 ls []) := by
  intro n
  induction n with
  | zero => intro m v0 v2 H locs ls h hp hS hl; exact h.elim
  | succ n ih =>
    intro m v0 v2 H locs ls h hp hS hl
    have hx := E.1
    have hb := E.2.1
    unfold wp_Mo_behindRemark_2 at h
    refine lv_iload_n hx hb d_Mo_behindRemark_2 rfl (lv_at hl 1 rfl) ?_
    refine rr_aload_n hx hb d_Mo_behindRemark_3 rfl (lv_at hl 0 rfl) ?_
    obtain ⟨g_2, h⟩ := h
    refine rg_Mo_size E hp g_2 lk_336 d_Mo_behindRemark_4 (fun x_1 ex_1 => ?_)
    replace h := h x_1 ex_1
    refine rr_aload_n hx hb d_Mo_behindRemark_7 rfl (lv_at hl 0 rfl) ?_
    obtain ⟨g_4, h⟩ := h
    refine rg_Mo_job E hp g_4 lk_384 d_Mo_behindRemark_8 (fun x_3 ex_3 => ?_)
    replace h := h x_3 ex_3
    obtain ⟨g_6, g_7, h⟩ := h
    refine mp_iald (t0 := 1) E hp g_6 (by decide) rfl rfl g_7 d_Mo_behindRemark_11 (fun x_5 ex_5 => ?_)
    replace h := h x_5 ex_5
    refine lv_icmp_ge (tgt := 31) hx hb d_Mo_behindRemark_12 (by decide) (fun g_8 => ?_) (fun g_8 => ?_)
    · replace h := h.1 g_8
      exact t_Mo_behindRemark_31 E hr m v2 _ _ _ h hp hS (lv_sub hl [1] rfl)
    · replace h := h.2 g_8
      refine rr_aload_n hx hb d_Mo_behindRemark_15 rfl (lv_at hl 0 rfl) ?_
      refine lv_iload_n hx hb d_Mo_behindRemark_16 rfl (lv_at hl 1 rfl) ?_
      obtain ⟨g_11, h⟩ := h
      refine mc_i hS (mc_runV (As := [.int v2]) (rest := []) E (c_Mo_sign l G m v0 v2 _ h) wd_Mo_sign ⟨lk_385, lk_386, lk_387⟩ rfl rfl ⟨Nat.le_of_ble_eq_true rfl, Nat.le_of_ble_eq_true rfl⟩ hp hS g_11 (by decide) rfl rfl rfl hl.1 rfl (lv_room (Nat.le_of_ble_eq_true rfl)) d_Mo_behindRemark_17 ⟨Nat.le_of_ble_eq_true rfl, Nat.le_of_ble_eq_true rfl⟩) (fun r_10 m_9 h H locs hp hS => ?_)
      try dsimp only at h
      refine lv_bipush (v := 10) hx hb d_Mo_behindRemark_20 (by decide) ?_
      refine lv_icmp_eq (tgt := 31) hx hb d_Mo_behindRemark_22 (by decide) (fun g_12 => ?_) (fun g_12 => ?_)
      · replace h := h.1 g_12
        exact t_Mo_behindRemark_31 E hr m_9 v2 _ _ _ h hp hS (lv_sub hl [1] rfl)
      · replace h := h.2 g_12
        obtain ⟨x_13, ex_13⟩ : ∃ y : Int32, y = v2 + 1 := ⟨_, rfl⟩
        replace h := h x_13 ex_13
        refine lv_iinc (v := x_13) (lv' := [(2, .int x_13), (0, rn v0)]) hx hb d_Mo_behindRemark_25 hl (k := 1) rfl (by rw [ex_13]; rfl) (by decide) rfl (fun ls hl => ?_)
        refine lv_goto (tgt := 2) hx hb d_Mo_behindRemark_28 (by decide) ?_
        exact ih m_9 v0 x_13 _ _ _ h hp hS (lv_sub hl [1, 0] rfl)
set_option maxHeartbeats 4000000 in
set_option maxRecDepth 100000 in
theorem t_Mo_behindRemark_0 {G : Gc} {P : Int32 → Mm → Prop} (E : En G R_Mo b_Mo_behindRemark 3 p s mt args meth c) (hr : meth.sig.returnType = some .int) (m : Mm) (v0 : Nat) (v1 : Int32) (H : Heap) (locs : List Loc) (ls : Array Slot) (h : wp_Mo_behindRemark_0 P m v0 v1) (hp : pic G m H) (hS : va_S (fr G) s.heap H locs) (hl : lv_has ls 3 [(0, rn v0), (1, .int v1)]) : W p l e rm_Mo_behindRemark s mt args below meth c H locs 0 0 (MQ below (PoI G P) args s 0 0 (fr G)) (F0 mt 0 ls []) := by
  have hx := E.1
  have hb := E.2.1
  unfold wp_Mo_behindRemark_0 at h
  refine lv_iload_n hx hb d_Mo_behindRemark_0 rfl (lv_at hl 1 rfl) ?_
  refine lv_istore_n (lv' := [(2, .int v1), (0, rn v0), (1, .int v1)]) hx hb d_Mo_behindRemark_1 rfl hl (by decide) rfl (fun ls hl => ?_)
  obtain ⟨n_1, h⟩ := h
  exact t_Mo_behindRemark_2 E hr n_1 m v0 v1 _ _ _ h hp hS (lv_sub hl [1, 0] rfl)
set_option maxHeartbeats 4000000 in
set_option maxRecDepth 100000 in
theorem c_Mo_behindRemark (l : Launch) (G : Gc) (m : Mm) (v0 : Nat) (v1 : Int32) (P : Int32 → Mm → Prop) (h : wp_Mo_behindRemark m v0 v1 P) : Met l y_Mo_behindRemark (Cond.code y_Mo_behindRemark b_Mo_behindRemark 3 (some .int) :: lw_good) rm_Mo_behindRemark (Pre9 G m [rn v0, .int v1]) (PoI G P) 0 0 (fr G) := by
  refine Met.ofW (cc := b_Mo_behindRemark) (maxL := 3) (ret := (some .int)) (by decide) rfl ?_
  intro p e s mt args below meth c s₁ B hml hv
  obtain ⟨rfl, hp, hC⟩ := hv
  have hts := atoms_spec (ws := Cond.code y_Mo_behindRemark b_Mo_behindRemark 3 (some .int) :: lw_good) B.pre
  have E : En G R_Mo b_Mo_behindRemark 3 p s mt _ meth c := ⟨B.exec, B.bytes, hml, findClass_of_methodNamed B.named, fun w hw => hts w (List.mem_cons_of_mem _ hw), hC, B.notSynchronized⟩
  have hr := B.returns
  have hl := lv_entry [rn v0, .int v1] (n := 3) (by simp [lg_sl, rn_cat, cat_int, cat_long, cat_ref, cat_null])
  rw [lg_entry_eq]
  generalize (lg_sl [rn v0, .int v1] ++ List.replicate (3 - (lg_sl [rn v0, .int v1]).length) Slot.unset).toArray = ls at hl ⊢
  have hl : lv_has ls 3 [(0, rn v0), (1, .int v1)] := by simpa [lv_args, rn_cat, cat_int, cat_long, cat_ref, cat_null] using hl
  exact t_Mo_behindRemark_0 E hr m v0 v1 _ _ _ h hp va_S.rf (lv_sub hl [0, 1] rfl)
end WK
