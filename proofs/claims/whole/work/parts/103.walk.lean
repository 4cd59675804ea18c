section WK
variable {p : Program} {l : Launch} {e : Env} {s : State} {mt : MethodId} {args : Array Value} {below : List Frame} {meth : Method} {c : Code}
abbrev rm_Machine_numbersWanted : Room := { frames := 0, cells := 0, slots := 0, locals := 0 }
set_option maxHeartbeats 4000000 in
set_option maxRecDepth 100000 in
theorem t_Machine_numbersWanted_0 {G : Gc} {P : Int32 → Mm → Prop} (E : En G R_Machine b_Machine_numbersWanted 1 p s mt args meth c) (hr : meth.sig.returnType = some .int) (m : Mm) (v0 : Int32) (H : Heap) (locs : List Loc) (ls : Array Slot) (h : wp_Machine_numbersWanted_0 P m v0) (hp : pic G m H) (hS : va_S (fr G) s.heap H locs) (hl : lv_has ls 1 [(0, .int v0)]) : W p l e rm_Machine_numbersWanted s mt args below meth c H locs 0 0 (MQ below (PoI G P) args s 0 0 (fr G)) (F0 mt 0 ls []) := by
  have hx := E.1
  have hb := E.2.1
  unfold wp_Machine_numbersWanted_0 at h
  refine lv_iload_n hx hb d_Machine_numbersWanted_0 rfl (lv_at hl 0 rfl) ?_
  by_cases g_1 : v0 = 42
  · replace h := h.1 g_1
    refine lv_tableIn (x := v0) (off := 355) (tgt := 356) hx hb d_Machine_numbersWanted_1 (by rw [g_1]; decide) (by rw [g_1]; decide) (by rw [g_1]; decide) (by decide) ?_
    refine lv_iconst (v := 2) hx hb d_Machine_numbersWanted_356 (by decide) ?_
    exact mp_iret E hr hp hS h d_Machine_numbersWanted_357
  · replace h := h.2 g_1
    by_cases g_2 : v0 = 43
    · replace h := h.1 g_2
      refine lv_tableIn (x := v0) (off := 355) (tgt := 356) hx hb d_Machine_numbersWanted_1 (by rw [g_2]; decide) (by rw [g_2]; decide) (by rw [g_2]; decide) (by decide) ?_
      refine lv_iconst (v := 2) hx hb d_Machine_numbersWanted_356 (by decide) ?_
      exact mp_iret E hr hp hS h d_Machine_numbersWanted_357
    · replace h := h.2 g_2
      by_cases g_3 : v0 = 45
      · replace h := h.1 g_3
        refine lv_tableIn (x := v0) (off := 355) (tgt := 356) hx hb d_Machine_numbersWanted_1 (by rw [g_3]; decide) (by rw [g_3]; decide) (by rw [g_3]; decide) (by decide) ?_
        refine lv_iconst (v := 2) hx hb d_Machine_numbersWanted_356 (by decide) ?_
        exact mp_iret E hr hp hS h d_Machine_numbersWanted_357
      · replace h := h.2 g_3
        by_cases g_4 : v0 = 68
        · replace h := h.1 g_4
          refine lv_tableIn (x := v0) (off := 357) (tgt := 358) hx hb d_Machine_numbersWanted_1 (by rw [g_4]; decide) (by rw [g_4]; decide) (by rw [g_4]; decide) (by decide) ?_
          refine lv_iconst (v := 3) hx hb d_Machine_numbersWanted_358 (by decide) ?_
          exact mp_iret E hr hp hS h d_Machine_numbersWanted_359
        · replace h := h.2 g_4
          by_cases g_5 : v0 = 82
          · replace h := h.1 g_5
            refine lv_tableIn (x := v0) (off := 355) (tgt := 356) hx hb d_Machine_numbersWanted_1 (by rw [g_5]; decide) (by rw [g_5]; decide) (by rw [g_5]; decide) (by decide) ?_
            refine lv_iconst (v := 2) hx hb d_Machine_numbersWanted_356 (by decide) ?_
            exact mp_iret E hr hp hS h d_Machine_numbersWanted_357
          · replace h := h.2 g_5
            by_cases g_6 : v0 = 99
            · replace h := h.1 g_6
              refine lv_tableIn (x := v0) (off := 353) (tgt := 354) hx hb d_Machine_numbersWanted_1 (by rw [g_6]; decide) (by rw [g_6]; decide) (by rw [g_6]; decide) (by decide) ?_
              refine lv_iconst (v := 1) hx hb d_Machine_numbersWanted_354 (by decide) ?_
              exact mp_iret E hr hp hS h d_Machine_numbersWanted_355
            · replace h := h.2 g_6
              by_cases g_7 : v0 = 100
              · replace h := h.1 g_7
                refine lv_tableIn (x := v0) (off := 353) (tgt := 354) hx hb d_Machine_numbersWanted_1 (by rw [g_7]; decide) (by rw [g_7]; decide) (by rw [g_7]; decide) (by decide) ?_
                refine lv_iconst (v := 1) hx hb d_Machine_numbersWanted_354 (by decide) ?_
                exact mp_iret E hr hp hS h d_Machine_numbersWanted_355
              · replace h := h.2 g_7
                by_cases g_8 : v0 = 102
                · replace h := h.1 g_8
                  refine lv_tableIn (x := v0) (off := 355) (tgt := 356) hx hb d_Machine_numbersWanted_1 (by rw [g_8]; decide) (by rw [g_8]; decide) (by rw [g_8]; decide) (by decide) ?_
                  refine lv_iconst (v := 2) hx hb d_Machine_numbersWanted_356 (by decide) ?_
                  exact mp_iret E hr hp hS h d_Machine_numbersWanted_357
                · replace h := h.2 g_8
                  by_cases g_9 : v0 = 103
                  · replace h := h.1 g_9
                    refine lv_tableIn (x := v0) (off := 355) (tgt := 356) hx hb d_Machine_numbersWanted_1 (by rw [g_9]; decide) (by rw [g_9]; decide) (by rw [g_9]; decide) (by decide) ?_
                    refine lv_iconst (v := 2) hx hb d_Machine_numbersWanted_356 (by decide) ?_
                    exact mp_iret E hr hp hS h d_Machine_numbersWanted_357
                  · replace h := h.2 g_9
                    by_cases g_10 : v0 = 109
                    · replace h := h.1 g_10
                      refine lv_tableIn (x := v0) (off := 353) (tgt := 354) hx hb d_Machine_numbersWanted_1 (by rw [g_10]; decide) (by rw [g_10]; decide) (by rw [g_10]; decide) (by decide) ?_
                      refine lv_iconst (v := 1) hx hb d_Machine_numbersWanted_354 (by decide) ?_
                      exact mp_iret E hr hp hS h d_Machine_numbersWanted_355
                    · replace h := h.2 g_10
                      by_cases g_11 : v0 = 111
                      · replace h := h.1 g_11
                        refine lv_tableIn (x := v0) (off := 355) (tgt := 356) hx hb d_Machine_numbersWanted_1 (by rw [g_11]; decide) (by rw [g_11]; decide) (by rw [g_11]; decide) (by decide) ?_
                        refine lv_iconst (v := 2) hx hb d_Machine_numbersWanted_356 (by decide) ?_
                        exact mp_iret E hr hp hS h d_Machine_numbersWanted_357
                      · replace h := h.2 g_11
                        by_cases g_12 : v0 = 112
                        · replace h := h.1 g_12
                          refine lv_tableIn (x := v0) (off := 353) (tgt := 354) hx hb d_Machine_numbersWanted_1 (by rw [g_12]; decide) (by rw [g_12]; decide) (by rw [g_12]; decide) (by decide) ?_
                          refine lv_iconst (v := 1) hx hb d_Machine_numbersWanted_354 (by decide) ?_
                          exact mp_iret E hr hp hS h d_Machine_numbersWanted_355
                        · replace h := h.2 g_12
                          by_cases g_13 : v0 = 113
                          · replace h := h.1 g_13
                            refine lv_tableIn (x := v0) (off := 351) (tgt := 352) hx hb d_Machine_numbersWanted_1 (by rw [g_13]; decide) (by rw [g_13]; decide) (by rw [g_13]; decide) (by decide) ?_
                            refine lv_iconst (v := 0) hx hb d_Machine_numbersWanted_352 (by decide) ?_
                            exact mp_iret E hr hp hS h d_Machine_numbersWanted_353
                          · replace h := h.2 g_13
                            by_cases g_14 : v0 = 114
                            · replace h := h.1 g_14
                              refine lv_tableIn (x := v0) (off := 353) (tgt := 354) hx hb d_Machine_numbersWanted_1 (by rw [g_14]; decide) (by rw [g_14]; decide) (by rw [g_14]; decide) (by decide) ?_
                              refine lv_iconst (v := 1) hx hb d_Machine_numbersWanted_354 (by decide) ?_
                              exact mp_iret E hr hp hS h d_Machine_numbersWanted_355
                            · replace h := h.2 g_14
                              by_cases g_15 : v0 = 115
                              · replace h := h.1 g_15
                                refine lv_tableIn (x := v0) (off := 351) (tgt := 352) hx hb d_Machine_numbersWanted_1 (by rw [g_15]; decide) (by rw [g_15]; decide) (by rw [g_15]; decide) (by decide) ?_
                                refine lv_iconst (v := 0) hx hb d_Machine_numbersWanted_352 (by decide) ?_
                                exact mp_iret E hr hp hS h d_Machine_numbersWanted_353
                              · replace h := h.2 g_15
                                by_cases g_16 : v0 = 116
                                · replace h := h.1 g_16
                                  refine lv_tableIn (x := v0) (off := 353) (tgt := 354) hx hb d_Machine_numbersWanted_1 (by rw [g_16]; decide) (by rw [g_16]; decide) (by rw [g_16]; decide) (by decide) ?_
                                  refine lv_iconst (v := 1) hx hb d_Machine_numbersWanted_354 (by decide) ?_
                                  exact mp_iret E hr hp hS h d_Machine_numbersWanted_355
                                · replace h := h.2 g_16
                                  by_cases g_17 : v0 = 119
                                  · replace h := h.1 g_17
                                    refine lv_tableIn (x := v0) (off := 355) (tgt := 356) hx hb d_Machine_numbersWanted_1 (by rw [g_17]; decide) (by rw [g_17]; decide) (by rw [g_17]; decide) (by decide) ?_
                                    refine lv_iconst (v := 2) hx hb d_Machine_numbersWanted_356 (by decide) ?_
                                    exact mp_iret E hr hp hS h d_Machine_numbersWanted_357
                                  · replace h := h.2 g_17
                                    by_cases g_18 : v0 = 120
                                    · replace h := h.1 g_18
                                      refine lv_tableIn (x := v0) (off := 355) (tgt := 356) hx hb d_Machine_numbersWanted_1 (by rw [g_18]; decide) (by rw [g_18]; decide) (by rw [g_18]; decide) (by decide) ?_
                                      refine lv_iconst (v := 2) hx hb d_Machine_numbersWanted_356 (by decide) ?_
                                      exact mp_iret E hr hp hS h d_Machine_numbersWanted_357
                                    · replace h := h.2 g_18
                                      by_cases g_19 : v0 = 123
                                      · replace h := h.1 g_19
                                        refine lv_tableIn (x := v0) (off := 353) (tgt := 354) hx hb d_Machine_numbersWanted_1 (by rw [g_19]; decide) (by rw [g_19]; decide) (by rw [g_19]; decide) (by decide) ?_
                                        refine lv_iconst (v := 1) hx hb d_Machine_numbersWanted_354 (by decide) ?_
                                        exact mp_iret E hr hp hS h d_Machine_numbersWanted_355
                                      · replace h := h.2 g_19
                                        by_cases g_20 : v0 = 125
                                        · replace h := h.1 g_20
                                          refine lv_tableIn (x := v0) (off := 351) (tgt := 352) hx hb d_Machine_numbersWanted_1 (by rw [g_20]; decide) (by rw [g_20]; decide) (by rw [g_20]; decide) (by decide) ?_
                                          refine lv_iconst (v := 0) hx hb d_Machine_numbersWanted_352 (by decide) ?_
                                          exact mp_iret E hr hp hS h d_Machine_numbersWanted_353
                                        · replace h := h.2 g_20
                                          have ng_1 := lv_neT g_1 (show (42 : Int32).toInt = 42 from by decide)
                                          have ng_2 := lv_neT g_2 (show (43 : Int32).toInt = 43 from by decide)
                                          have ng_3 := lv_neT g_3 (show (45 : Int32).toInt = 45 from by decide)
                                          have ng_4 := lv_neT g_4 (show (68 : Int32).toInt = 68 from by decide)
                                          have ng_5 := lv_neT g_5 (show (82 : Int32).toInt = 82 from by decide)
                                          have ng_6 := lv_neT g_6 (show (99 : Int32).toInt = 99 from by decide)
                                          have ng_7 := lv_neT g_7 (show (100 : Int32).toInt = 100 from by decide)
                                          have ng_8 := lv_neT g_8 (show (102 : Int32).toInt = 102 from by decide)
                                          have ng_9 := lv_neT g_9 (show (103 : Int32).toInt = 103 from by decide)
                                          have ng_10 := lv_neT g_10 (show (109 : Int32).toInt = 109 from by decide)
                                          have ng_11 := lv_neT g_11 (show (111 : Int32).toInt = 111 from by decide)
                                          have ng_12 := lv_neT g_12 (show (112 : Int32).toInt = 112 from by decide)
                                          have ng_13 := lv_neT g_13 (show (113 : Int32).toInt = 113 from by decide)
                                          have ng_14 := lv_neT g_14 (show (114 : Int32).toInt = 114 from by decide)
                                          have ng_15 := lv_neT g_15 (show (115 : Int32).toInt = 115 from by decide)
                                          have ng_16 := lv_neT g_16 (show (116 : Int32).toInt = 116 from by decide)
                                          have ng_17 := lv_neT g_17 (show (119 : Int32).toInt = 119 from by decide)
                                          have ng_18 := lv_neT g_18 (show (120 : Int32).toInt = 120 from by decide)
                                          have ng_19 := lv_neT g_19 (show (123 : Int32).toInt = 123 from by decide)
                                          have ng_20 := lv_neT g_20 (show (125 : Int32).toInt = 125 from by decide)
                                          refine lv_tableD (x := v0) (tgt := 360) (real := [0, 1, 3, 26, 40, 57, 58, 60, 61, 67, 69, 70, 71, 72, 73, 74, 77, 78, 81, 83]) hx hb d_Machine_numbersWanted_1 (by decide) (fun q1 q2 => ⟨by simp only [List.size_toArray, List.length_cons, List.length_nil]; omega, by simp only [List.mem_cons, List.not_mem_nil, or_false]; omega⟩) (by decide) ?_
                                          refine lv_iconst (v := (-1)) hx hb d_Machine_numbersWanted_360 (by decide) ?_
                                          exact mp_iret E hr hp hS h d_Machine_numbersWanted_361
set_option maxHeartbeats 4000000 in
set_option maxRecDepth 100000 in
theorem c_Machine_numbersWanted (l : Launch) (G : Gc) (m : Mm) (v0 : Int32) (P : Int32 → Mm → Prop) (h : wp_Machine_numbersWanted m v0 P) : Met l y_Machine_numbersWanted (Cond.code y_Machine_numbersWanted b_Machine_numbersWanted 1 (some .int) :: lw_good) rm_Machine_numbersWanted (Pre9 G m [.int v0]) (PoI G P) 0 0 (fr G) := by
  refine Met.ofW (cc := b_Machine_numbersWanted) (maxL := 1) (ret := (some .int)) (by decide) rfl ?_
  intro p e s mt args below meth c s₁ B hml hv
  obtain ⟨rfl, hp, hC⟩ := hv
  have hts := atoms_spec (ws := Cond.code y_Machine_numbersWanted b_Machine_numbersWanted 1 (some .int) :: lw_good) B.pre
  have E : En G R_Machine b_Machine_numbersWanted 1 p s mt _ meth c := ⟨B.exec, B.bytes, hml, findClass_of_methodNamed B.named, fun w hw => hts w (List.mem_cons_of_mem _ hw), hC, B.notSynchronized⟩
  have hr := B.returns
  have hl := lv_entry [.int v0] (n := 1) (by simp [lg_sl, rn_cat, cat_int, cat_long, cat_ref, cat_null])
  rw [lg_entry_eq]
  generalize (lg_sl [.int v0] ++ List.replicate (1 - (lg_sl [.int v0]).length) Slot.unset).toArray = ls at hl ⊢
  have hl : lv_has ls 1 [(0, .int v0)] := by simpa [lv_args, rn_cat, cat_int, cat_long, cat_ref, cat_null] using hl
  exact t_Machine_numbersWanted_0 E hr m v0 _ _ _ h hp va_S.rf (lv_sub hl [0] rfl)
abbrev rm_Numbers_has : Room := { frames := 0, cells := 0, slots := 0, locals := 0 }
set_option maxHeartbeats 4000000 in
set_option maxRecDepth 100000 in
theorem t_Numbers_has_0 {G : Gc} {P : Int32 → Mm → Prop} (E : En G R_Numbers b_Numbers_has 2 p s mt args meth c) (hr : meth.sig.returnType = some .boolean) (m : Mm) (v0 : Nat) (v1 : Int32) (H : Heap) (locs : List Loc) (ls : Array Slot) (h : wp_Numbers_has_0 P m v0 v1) (hp : pic G m H) (hS : va_S (fr G) s.heap H locs) (hl : lv_has ls 2 [(0, rn v0), (1, .int v1)]) : W p l e rm_Numbers_has s mt args below meth c H locs 0 0 (MQ below (PoI G P) args s 0 0 (fr G)) (F0 mt 0 ls []) := by
  have hx := E.1
  have hb := E.2.1
  unfold wp_Numbers_has_0 at h
  refine rr_aload_n hx hb d_Numbers_has_0 rfl (lv_at hl 0 rfl) ?_
  obtain ⟨g_2, h⟩ := h
  refine rg_Numbers_height E hp g_2 lk_42 d_Numbers_has_1 (fun x_1 ex_1 => ?_)
  replace h := h x_1 ex_1
  refine lv_iload_n hx hb d_Numbers_has_4 rfl (lv_at hl 1 rfl) ?_
  refine lv_icmp_lt (tgt := 12) hx hb d_Numbers_has_5 (by decide) (fun g_3 => ?_) (fun g_3 => ?_)
  · replace h := h.1 g_3
    refine lv_iconst (v := 0) hx hb d_Numbers_has_12 (by decide) ?_
    exact mp_zret E hr hp hS (by decide) h d_Numbers_has_13
  · replace h := h.2 g_3
    refine lv_iconst (v := 1) hx hb d_Numbers_has_8 (by decide) ?_
    refine lv_goto (tgt := 13) hx hb d_Numbers_has_9 (by decide) ?_
    exact mp_zret E hr hp hS (by decide) h d_Numbers_has_13
set_option maxHeartbeats 4000000 in
set_option maxRecDepth 100000 in
theorem c_Numbers_has (l : Launch) (G : Gc) (m : Mm) (v0 : Nat) (v1 : Int32) (P : Int32 → Mm → Prop) (h : wp_Numbers_has m v0 v1 P) : Met l y_Numbers_has (Cond.code y_Numbers_has b_Numbers_has 2 (some .boolean) :: lw_good) rm_Numbers_has (Pre9 G m [rn v0, .int v1]) (PoI G P) 0 0 (fr G) := by
  refine Met.ofW (cc := b_Numbers_has) (maxL := 2) (ret := (some .boolean)) (by decide) rfl ?_
  intro p e s mt args below meth c s₁ B hml hv
  obtain ⟨rfl, hp, hC⟩ := hv
  have hts := atoms_spec (ws := Cond.code y_Numbers_has b_Numbers_has 2 (some .boolean) :: lw_good) B.pre
  have E : En G R_Numbers b_Numbers_has 2 p s mt _ meth c := ⟨B.exec, B.bytes, hml, findClass_of_methodNamed B.named, fun w hw => hts w (List.mem_cons_of_mem _ hw), hC, B.notSynchronized⟩
  have hr := B.returns
  have hl := lv_entry [rn v0, .int v1] (n := 2) (by simp [lg_sl, rn_cat, cat_int, cat_long, cat_ref, cat_null])
  rw [lg_entry_eq]
  generalize (lg_sl [rn v0, .int v1] ++ List.replicate (2 - (lg_sl [rn v0, .int v1]).length) Slot.unset).toArray = ls at hl ⊢
  have hl : lv_has ls 2 [(0, rn v0), (1, .int v1)] := by simpa [lv_args, rn_cat, cat_int, cat_long, cat_ref, cat_null] using hl
  exact t_Numbers_has_0 E hr m v0 v1 _ _ _ h hp va_S.rf (lv_sub hl [0, 1] rfl)
abbrev rm_Numbers_take : Room := { frames := 0, cells := 0, slots := 0, locals := 0 }
set_option maxHeartbeats 4000000 in
set_option maxRecDepth 100000 in
theorem t_Numbers_take_0 {G : Gc} {P : Int32 → Mm → Prop} (E : En G R_Numbers b_Numbers_take 1 p s mt args meth c) (hr : meth.sig.returnType = some .int) (m : Mm) (v0 : Nat) (H : Heap) (locs : List Loc) (ls : Array Slot) (h : wp_Numbers_take_0 P m v0) (hp : pic G m H) (hS : va_S (fr G) s.heap H locs) (hl : lv_has ls 1 [(0, rn v0)]) : W p l e rm_Numbers_take s mt args below meth c H locs 0 0 (MQ below (PoI G P) args s 0 0 (fr G)) (F0 mt 0 ls []) := by
  have hx := E.1
  have hb := E.2.1
  unfold wp_Numbers_take_0 at h
  refine rr_aload_n hx hb d_Numbers_take_0 rfl (lv_at hl 0 rfl) ?_
  obtain ⟨g_2, h⟩ := h
  refine rg_Numbers_height E hp g_2 lk_42 d_Numbers_take_1 (fun x_1 ex_1 => ?_)
  replace h := h x_1 ex_1
  refine lv_iconst (v := 1) hx hb d_Numbers_take_4 (by decide) ?_
  refine lv_icmp_ge (tgt := 10) hx hb d_Numbers_take_5 (by decide) (fun g_3 => ?_) (fun g_3 => ?_)
  · replace h := h.1 g_3
    refine rr_aload_n hx hb d_Numbers_take_10 rfl (lv_at hl 0 rfl) ?_
    refine lv_dup hx hb d_Numbers_take_11 (rn_cat _) ?_
    obtain ⟨g_5, h⟩ := h
    refine rg_Numbers_height E hp g_5 lk_42 d_Numbers_take_12 (fun x_4 ex_4 => ?_)
    replace h := h x_4 ex_4
    refine lv_iconst (v := 1) hx hb d_Numbers_take_15 (by decide) ?_
    refine lv_isub hx hb d_Numbers_take_16 ?_
    refine lv_topi (fun x_6 ex_6 => ?_)
    replace h := h x_6 ex_6
    obtain ⟨g_7, h⟩ := h
    refine rp_Numbers_height E hp hS g_7 lk_42 d_Numbers_take_17 (fun m_8 em_8 H locs hp hS => ?_)
    replace h := h m_8 em_8
    refine rr_aload_n hx hb d_Numbers_take_20 rfl (lv_at hl 0 rfl) ?_
    obtain ⟨g_10, h⟩ := h
    refine rg_Numbers_numbers E hp g_10 lk_41 d_Numbers_take_21 (fun x_9 ex_9 => ?_)
    replace h := h x_9 ex_9
    refine rr_aload_n hx hb d_Numbers_take_24 rfl (lv_at hl 0 rfl) ?_
    obtain ⟨g_12, h⟩ := h
    refine rg_Numbers_height E hp g_12 lk_42 d_Numbers_take_25 (fun x_11 ex_11 => ?_)
    replace h := h x_11 ex_11
    obtain ⟨g_14, g_15, h⟩ := h
    refine mp_iald (t0 := 1) E hp g_14 (by decide) rfl rfl g_15 d_Numbers_take_28 (fun x_13 ex_13 => ?_)
    replace h := h x_13 ex_13
    exact mp_iret E hr hp hS h d_Numbers_take_29
  · replace h := h.2 g_3
    refine lv_iconst (v := 0) hx hb d_Numbers_take_8 (by decide) ?_
    exact mp_iret E hr hp hS h d_Numbers_take_9
set_option maxHeartbeats 4000000 in
set_option maxRecDepth 100000 in
theorem c_Numbers_take (l : Launch) (G : Gc) (m : Mm) (v0 : Nat) (P : Int32 → Mm → Prop) (h : wp_Numbers_take m v0 P) : Met l y_Numbers_take (Cond.code y_Numbers_take b_Numbers_take 1 (some .int) :: lw_good) rm_Numbers_take (Pre9 G m [rn v0]) (PoI G P) 0 0 (fr G) := by
  refine Met.ofW (cc := b_Numbers_take) (maxL := 1) (ret := (some .int)) (by decide) rfl ?_
  intro p e s mt args below meth c s₁ B hml hv
  obtain ⟨rfl, hp, hC⟩ := hv
  have hts := atoms_spec (ws := Cond.code y_Numbers_take b_Numbers_take 1 (some .int) :: lw_good) B.pre
  have E : En G R_Numbers b_Numbers_take 1 p s mt _ meth c := ⟨B.exec, B.bytes, hml, findClass_of_methodNamed B.named, fun w hw => hts w (List.mem_cons_of_mem _ hw), hC, B.notSynchronized⟩
  have hr := B.returns
  have hl := lv_entry [rn v0] (n := 1) (by simp [lg_sl, rn_cat, cat_int, cat_long, cat_ref, cat_null])
  rw [lg_entry_eq]
  generalize (lg_sl [rn v0] ++ List.replicate (1 - (lg_sl [rn v0]).length) Slot.unset).toArray = ls at hl ⊢
  have hl : lv_has ls 1 [(0, rn v0)] := by simpa [lv_args, rn_cat, cat_int, cat_long, cat_ref, cat_null] using hl
  exact t_Numbers_take_0 E hr m v0 _ _ _ h hp va_S.rf (lv_sub hl [0] rfl)
abbrev rm_Plan_mateOf : Room := { frames := 0, cells := 0, slots := 0, locals := 0 }
set_option maxHeartbeats 4000000 in
set_option maxRecDepth 100000 in
theorem t_Plan_mateOf_12 {G : Gc} {P : Int32 → Mm → Prop} (E : En G R_Plan b_Plan_mateOf 2 p s mt args meth c) (hr : meth.sig.returnType = some .int) (m : Mm) (H : Heap) (locs : List Loc) (ls : Array Slot) (h : wp_Plan_mateOf_12 P m) (hp : pic G m H) (hS : va_S (fr G) s.heap H locs) (hl : lv_has ls 2 []) : W p l e rm_Plan_mateOf s mt args below meth c H locs 0 0 (MQ below (PoI G P) args s 0 0 (fr G)) (F0 mt 12 ls []) := by
  have hx := E.1
  have hb := E.2.1
  unfold wp_Plan_mateOf_12 at h
  refine lv_iconst (v := (-1)) hx hb d_Plan_mateOf_12 (by decide) ?_
  refine lv_goto (tgt := 22) hx hb d_Plan_mateOf_13 (by decide) ?_
  exact mp_iret E hr hp hS h d_Plan_mateOf_22
set_option maxHeartbeats 4000000 in
set_option maxRecDepth 100000 in
theorem t_Plan_mateOf_0 {G : Gc} {P : Int32 → Mm → Prop} (E : En G R_Plan b_Plan_mateOf 2 p s mt args meth c) (hr : meth.sig.returnType = some .int) (m : Mm) (v0 : Nat) (v1 : Int32) (H : Heap) (locs : List Loc) (ls : Array Slot) (h : wp_Plan_mateOf_0 P m v0 v1) (hp : pic G m H) (hS : va_S (fr G) s.heap H locs) (hl : lv_has ls 2 [(0, rn v0), (1, .int v1)]) : W p l e rm_Plan_mateOf s mt args below meth c H locs 0 0 (MQ below (PoI G P) args s 0 0 (fr G)) (F0 mt 0 ls []) := by
  have hx := E.1
  have hb := E.2.1
  unfold wp_Plan_mateOf_0 at h
  refine lv_iload_n hx hb d_Plan_mateOf_0 rfl (lv_at hl 1 rfl) ?_
  refine lv_if_lt (tgt := 12) hx hb d_Plan_mateOf_1 (by decide) (fun g_1 => ?_) (fun g_1 => ?_)
  · replace h := h.1 g_1
    exact t_Plan_mateOf_12 E hr m _ _ _ h hp hS (lv_sub hl [] rfl)
  · replace h := h.2 g_1
    refine lv_iload_n hx hb d_Plan_mateOf_4 rfl (lv_at hl 1 rfl) ?_
    refine rr_aload_n hx hb d_Plan_mateOf_5 rfl (lv_at hl 0 rfl) ?_
    obtain ⟨g_3, h⟩ := h
    refine rg_Plan_length E hp g_3 lk_47 d_Plan_mateOf_6 (fun x_2 ex_2 => ?_)
    replace h := h x_2 ex_2
    refine lv_icmp_lt (tgt := 16) hx hb d_Plan_mateOf_9 (by decide) (fun g_4 => ?_) (fun g_4 => ?_)
    · replace h := h.1 g_4
      refine rr_aload_n hx hb d_Plan_mateOf_16 rfl (lv_at hl 0 rfl) ?_
      obtain ⟨g_6, h⟩ := h
      refine rg_Plan_mates E hp g_6 lk_45 d_Plan_mateOf_17 (fun x_5 ex_5 => ?_)
      replace h := h x_5 ex_5
      refine lv_iload_n hx hb d_Plan_mateOf_20 rfl (lv_at hl 1 rfl) ?_
      obtain ⟨g_8, g_9, h⟩ := h
      refine mp_iald (t0 := 1) E hp g_8 (by decide) rfl rfl g_9 d_Plan_mateOf_21 (fun x_7 ex_7 => ?_)
      replace h := h x_7 ex_7
      exact mp_iret E hr hp hS h d_Plan_mateOf_22
    · replace h := h.2 g_4
      exact t_Plan_mateOf_12 E hr m _ _ _ h hp hS (lv_sub hl [] rfl)
set_option maxHeartbeats 4000000 in
set_option maxRecDepth 100000 in
theorem c_Plan_mateOf (l : Launch) (G : Gc) (m : Mm) (v0 : Nat) (v1 : Int32) (P : Int32 → Mm → Prop) (h : wp_Plan_mateOf m v0 v1 P) : Met l y_Plan_mateOf (Cond.code y_Plan_mateOf b_Plan_mateOf 2 (some .int) :: lw_good) rm_Plan_mateOf (Pre9 G m [rn v0, .int v1]) (PoI G P) 0 0 (fr G) := by
  refine Met.ofW (cc := b_Plan_mateOf) (maxL := 2) (ret := (some .int)) (by decide) rfl ?_
  intro p e s mt args below meth c s₁ B hml hv
  obtain ⟨rfl, hp, hC⟩ := hv
  have hts := atoms_spec (ws := Cond.code y_Plan_mateOf b_Plan_mateOf 2 (some .int) :: lw_good) B.pre
  have E : En G R_Plan b_Plan_mateOf 2 p s mt _ meth c := ⟨B.exec, B.bytes, hml, findClass_of_methodNamed B.named, fun w hw => hts w (List.mem_cons_of_mem _ hw), hC, B.notSynchronized⟩
  have hr := B.returns
  have hl := lv_entry [rn v0, .int v1] (n := 2) (by simp [lg_sl, rn_cat, cat_int, cat_long, cat_ref, cat_null])
  rw [lg_entry_eq]
  generalize (lg_sl [rn v0, .int v1] ++ List.replicate (2 - (lg_sl [rn v0, .int v1]).length) Slot.unset).toArray = ls at hl ⊢
  have hl : lv_has ls 2 [(0, rn v0), (1, .int v1)] := by simpa [lv_args, rn_cat, cat_int, cat_long, cat_ref, cat_null] using hl
  exact t_Plan_mateOf_0 E hr m v0 v1 _ _ _ h hp va_S.rf (lv_sub hl [0, 1] rfl)
abbrev rm_Machine_enterLoop : Room := { frames := 1, cells := 0, slots := 0, locals := 21 }
set_option maxHeartbeats 4000000 in
set_option maxRecDepth 100000 in
theorem t_Machine_enterLoop_0 {G : Gc} {P : Int32 → Mm → Prop} (E : En G R_Machine b_Machine_enterLoop 4 p s mt args meth c) (hr : meth.sig.returnType = some .int) (m : Mm) (v0 : Nat) (v1 : Int32) (v2 : Int32) (H : Heap) (locs : List Loc) (ls : Array Slot) (h : wp_Machine_enterLoop_0 P m v0 v1 v2) (hp : pic G m H) (hS : va_S (fr G) s.heap H locs) (hl : lv_has ls 4 [(0, rn v0), (1, .int v1), (2, .int v2)]) : W p l e rm_Machine_enterLoop s mt args below meth c H locs 0 0 (MQ below (PoI G P) args s 0 0 (fr G)) (F0 mt 0 ls []) := by
  have hx := E.1
  have hb := E.2.1
  unfold wp_Machine_enterLoop_0 at h
  refine rr_aload_n hx hb d_Machine_enterLoop_0 rfl (lv_at hl 0 rfl) ?_
  obtain ⟨g_2, h⟩ := h
  refine rg_Machine_loopCount E hp g_2 lk_78 d_Machine_enterLoop_1 (fun x_1 ex_1 => ?_)
  replace h := h x_1 ex_1
  refine lv_iconst (v := 4) hx hb d_Machine_enterLoop_4 (by decide) ?_
  refine lv_icmp_lt (tgt := 11) hx hb d_Machine_enterLoop_5 (by decide) (fun g_3 => ?_) (fun g_3 => ?_)
  · replace h := h.1 g_3
    refine rr_aload_n hx hb d_Machine_enterLoop_11 rfl (lv_at hl 0 rfl) ?_
    obtain ⟨g_5, h⟩ := h
    refine rg_Machine_plan E hp g_5 lk_76 d_Machine_enterLoop_12 (fun x_4 ex_4 => ?_)
    replace h := h x_4 ex_4
    refine lv_iload_n hx hb d_Machine_enterLoop_15 rfl (lv_at hl 1 rfl) ?_
    obtain ⟨g_8, h⟩ := h
    refine mc_i hS (mc_runV (As := [.int v1]) (rest := []) E (c_Plan_mateOf l G m x_4 v1 _ h) wd_Plan_mateOf ⟨lk_151, lk_152, lk_153⟩ rfl rfl ⟨Nat.le_of_ble_eq_true rfl, Nat.le_of_ble_eq_true rfl⟩ hp hS g_8 (by decide) rfl rfl rfl hl.1 rfl (lv_room (Nat.le_of_ble_eq_true rfl)) d_Machine_enterLoop_16 ⟨Nat.le_of_ble_eq_true rfl, Nat.le_of_ble_eq_true rfl⟩) (fun r_7 m_6 h H locs hp hS => ?_)
    try dsimp only at h
    refine lv_istore_n (lv' := [(3, .int r_7), (0, rn v0), (1, .int v1), (2, .int v2)]) hx hb d_Machine_enterLoop_19 rfl hl (by decide) rfl (fun ls hl => ?_)
    refine lv_iload_n hx hb d_Machine_enterLoop_20 rfl (lv_at hl 0 rfl) ?_
    refine lv_iconst (v := (-1)) hx hb d_Machine_enterLoop_21 (by decide) ?_
    refine lv_icmp_ne (tgt := 28) hx hb d_Machine_enterLoop_22 (by decide) (fun g_9 => ?_) (fun g_9 => ?_)
    · replace h := h.2 g_9
      refine lv_iload_n hx hb d_Machine_enterLoop_28 rfl (lv_at hl 3 rfl) ?_
      refine lv_iconst (v := 1) hx hb d_Machine_enterLoop_29 (by decide) ?_
      refine lv_icmp_ge (tgt := 49) hx hb d_Machine_enterLoop_30 (by decide) (fun g_10 => ?_) (fun g_10 => ?_)
      · replace h := h.1 g_10
        refine rr_aload_n hx hb d_Machine_enterLoop_49 rfl (lv_at hl 1 rfl) ?_
        obtain ⟨g_12, h⟩ := h
        refine rg_Machine_timesLeft E hp g_12 lk_77 d_Machine_enterLoop_50 (fun x_11 ex_11 => ?_)
        replace h := h x_11 ex_11
        refine rr_aload_n hx hb d_Machine_enterLoop_53 rfl (lv_at hl 1 rfl) ?_
        obtain ⟨g_14, h⟩ := h
        refine rg_Machine_loopCount E hp g_14 lk_78 d_Machine_enterLoop_54 (fun x_13 ex_13 => ?_)
        replace h := h x_13 ex_13
        refine lv_iload_n hx hb d_Machine_enterLoop_57 rfl (lv_at hl 3 rfl) ?_
        obtain ⟨g_15, g_16, h⟩ := h
        refine mp_iast (t0 := 1) E hp hS g_15 (by decide) rfl cw_13 rfl g_16 d_Machine_enterLoop_58 (fun m_17 em_17 H locs hp hS => ?_)
        replace h := h m_17 em_17
        refine rr_aload_n hx hb d_Machine_enterLoop_59 rfl (lv_at hl 1 rfl) ?_
        refine lv_dup hx hb d_Machine_enterLoop_60 (rn_cat _) ?_
        obtain ⟨g_19, h⟩ := h
        refine rg_Machine_loopCount E hp g_19 lk_78 d_Machine_enterLoop_61 (fun x_18 ex_18 => ?_)
        replace h := h x_18 ex_18
        refine lv_iconst (v := 1) hx hb d_Machine_enterLoop_64 (by decide) ?_
        refine lv_iadd hx hb d_Machine_enterLoop_65 ?_
        refine lv_topi (fun x_20 ex_20 => ?_)
        replace h := h x_20 ex_20
        obtain ⟨g_21, h⟩ := h
        refine rp_Machine_loopCount E hp hS g_21 lk_78 d_Machine_enterLoop_66 (fun m_22 em_22 H locs hp hS => ?_)
        replace h := h m_22 em_22
        refine lv_iconst (v := 0) hx hb d_Machine_enterLoop_69 (by decide) ?_
        exact mp_iret E hr hp hS h d_Machine_enterLoop_70
      · replace h := h.2 g_10
        refine rr_aload_n hx hb d_Machine_enterLoop_33 rfl (lv_at hl 1 rfl) ?_
        refine rr_aload_n hx hb d_Machine_enterLoop_34 rfl (lv_at hl 1 rfl) ?_
        obtain ⟨g_24, h⟩ := h
        refine rg_Machine_plan E hp g_24 lk_76 d_Machine_enterLoop_35 (fun x_23 ex_23 => ?_)
        replace h := h x_23 ex_23
        refine lv_iload_n hx hb d_Machine_enterLoop_38 rfl (lv_at hl 0 rfl) ?_
        refine lv_iconst (v := 1) hx hb d_Machine_enterLoop_39 (by decide) ?_
        refine lv_iadd hx hb d_Machine_enterLoop_40 ?_
        refine lv_topi (fun x_25 ex_25 => ?_)
        replace h := h x_25 ex_25
        obtain ⟨g_28, h⟩ := h
        refine mc_i hS (mc_runV (As := [.int x_25]) (rest := [rn v0]) E (c_Plan_firstDoneFrom l G m_6 x_23 x_25 _ h) wd_Plan_firstDoneFrom ⟨lk_148, lk_149, lk_150⟩ rfl rfl ⟨Nat.le_of_ble_eq_true rfl, Nat.le_of_ble_eq_true rfl⟩ hp hS g_28 (by decide) rfl rfl rfl hl.1 rfl (lv_room (by simp [rn_cat, cat_int, cat_long, cat_ref, cat_null])) d_Machine_enterLoop_41 ⟨Nat.le_of_ble_eq_true rfl, Nat.le_of_ble_eq_true rfl⟩) (fun r_27 m_26 h H locs hp hS => ?_)
        try dsimp only at h
        obtain ⟨g_29, h⟩ := h
        refine rp_Machine_nextPlace E hp hS g_29 lk_80 d_Machine_enterLoop_44 (fun m_30 em_30 H locs hp hS => ?_)
        replace h := h m_30 em_30
        refine lv_iconst (v := 0) hx hb d_Machine_enterLoop_47 (by decide) ?_
        exact mp_iret E hr hp hS h d_Machine_enterLoop_48
    · replace h := h.1 g_9
      refine lv_bipush (v := 7) hx hb d_Machine_enterLoop_25 (by decide) ?_
      exact mp_iret E hr hp hS h d_Machine_enterLoop_27
  · replace h := h.2 g_3
    refine lv_bipush (v := 6) hx hb d_Machine_enterLoop_8 (by decide) ?_
    exact mp_iret E hr hp hS h d_Machine_enterLoop_10
set_option maxHeartbeats 4000000 in
set_option maxRecDepth 100000 in
theorem c_Machine_enterLoop (l : Launch) (G : Gc) (m : Mm) (v0 : Nat) (v1 : Int32) (v2 : Int32) (P : Int32 → Mm → Prop) (h : wp_Machine_enterLoop m v0 v1 v2 P) : Met l y_Machine_enterLoop (Cond.code y_Machine_enterLoop b_Machine_enterLoop 4 (some .int) :: lw_good) rm_Machine_enterLoop (Pre9 G m [rn v0, .int v1, .int v2]) (PoI G P) 0 0 (fr G) := by
  refine Met.ofW (cc := b_Machine_enterLoop) (maxL := 4) (ret := (some .int)) (by decide) rfl ?_
  intro p e s mt args below meth c s₁ B hml hv
  obtain ⟨rfl, hp, hC⟩ := hv
  have hts := atoms_spec (ws := Cond.code y_Machine_enterLoop b_Machine_enterLoop 4 (some .int) :: lw_good) B.pre
  have E : En G R_Machine b_Machine_enterLoop 4 p s mt _ meth c := ⟨B.exec, B.bytes, hml, findClass_of_methodNamed B.named, fun w hw => hts w (List.mem_cons_of_mem _ hw), hC, B.notSynchronized⟩
  have hr := B.returns
  have hl := lv_entry [rn v0, .int v1, .int v2] (n := 4) (by simp [lg_sl, rn_cat, cat_int, cat_long, cat_ref, cat_null])
  rw [lg_entry_eq]
  generalize (lg_sl [rn v0, .int v1, .int v2] ++ List.replicate (4 - (lg_sl [rn v0, .int v1, .int v2]).length) Slot.unset).toArray = ls at hl ⊢
  have hl : lv_has ls 4 [(0, rn v0), (1, .int v1), (2, .int v2)] := by simpa [lv_args, rn_cat, cat_int, cat_long, cat_ref, cat_null] using hl
  exact t_Machine_enterLoop_0 E hr m v0 v1 v2 _ _ _ h hp va_S.rf (lv_sub hl [0, 1, 2] rfl)
abbrev rm_Machine_comeToLoopEnd : Room := { frames := 1, cells := 0, slots := 0, locals := 21 }
set_option maxHeartbeats 4000000 in
set_option maxRecDepth 100000 in
theorem t_Machine_comeToLoopEnd_0 {G : Gc} {P : Int32 → Mm → Prop} (E : En G R_Machine b_Machine_comeToLoopEnd 3 p s mt args meth c) (hr : meth.sig.returnType = some .int) (m : Mm) (v0 : Nat) (v1 : Int32) (H : Heap) (locs : List Loc) (ls : Array Slot) (h : wp_Machine_comeToLoopEnd_0 P m v0 v1) (hp : pic G m H) (hS : va_S (fr G) s.heap H locs) (hl : lv_has ls 3 [(0, rn v0), (1, .int v1)]) : W p l e rm_Machine_comeToLoopEnd s mt args below meth c H locs 0 0 (MQ below (PoI G P) args s 0 0 (fr G)) (F0 mt 0 ls []) := by
  have hx := E.1
  have hb := E.2.1
  unfold wp_Machine_comeToLoopEnd_0 at h
  refine rr_aload_n hx hb d_Machine_comeToLoopEnd_0 rfl (lv_at hl 0 rfl) ?_
  obtain ⟨g_2, h⟩ := h
  refine rg_Machine_plan E hp g_2 lk_76 d_Machine_comeToLoopEnd_1 (fun x_1 ex_1 => ?_)
  replace h := h x_1 ex_1
  refine lv_iload_n hx hb d_Machine_comeToLoopEnd_4 rfl (lv_at hl 1 rfl) ?_
  obtain ⟨g_5, h⟩ := h
  refine mc_i hS (mc_runV (As := [.int v1]) (rest := []) E (c_Plan_mateOf l G m x_1 v1 _ h) wd_Plan_mateOf ⟨lk_151, lk_152, lk_153⟩ rfl rfl ⟨Nat.le_of_ble_eq_true rfl, Nat.le_of_ble_eq_true rfl⟩ hp hS g_5 (by decide) rfl rfl rfl hl.1 rfl (lv_room (Nat.le_of_ble_eq_true rfl)) d_Machine_comeToLoopEnd_5 ⟨Nat.le_of_ble_eq_true rfl, Nat.le_of_ble_eq_true rfl⟩) (fun r_4 m_3 h H locs hp hS => ?_)
  try dsimp only at h
  refine lv_istore_n (lv' := [(2, .int r_4), (0, rn v0), (1, .int v1)]) hx hb d_Machine_comeToLoopEnd_8 rfl hl (by decide) rfl (fun ls hl => ?_)
  refine lv_iload_n hx hb d_Machine_comeToLoopEnd_9 rfl (lv_at hl 0 rfl) ?_
  refine lv_iconst (v := (-1)) hx hb d_Machine_comeToLoopEnd_10 (by decide) ?_
  refine lv_icmp_eq (tgt := 22) hx hb d_Machine_comeToLoopEnd_11 (by decide) (fun g_6 => ?_) (fun g_6 => ?_)
  · replace h := h.1 g_6
    refine lv_iconst (v := 1) hx hb d_Machine_comeToLoopEnd_22 (by decide) ?_
    exact mp_iret E hr hp hS h d_Machine_comeToLoopEnd_23
  · replace h := h.2 g_6
    refine rr_aload_n hx hb d_Machine_comeToLoopEnd_14 rfl (lv_at hl 1 rfl) ?_
    obtain ⟨g_8, h⟩ := h
    refine rg_Machine_loopCount E hp g_8 lk_78 d_Machine_comeToLoopEnd_15 (fun x_7 ex_7 => ?_)
    replace h := h x_7 ex_7
    refine lv_iconst (v := 1) hx hb d_Machine_comeToLoopEnd_18 (by decide) ?_
    refine lv_icmp_ge (tgt := 24) hx hb d_Machine_comeToLoopEnd_19 (by decide) (fun g_9 => ?_) (fun g_9 => ?_)
    · replace h := h.1 g_9
      refine rr_aload_n hx hb d_Machine_comeToLoopEnd_24 rfl (lv_at hl 1 rfl) ?_
      obtain ⟨g_11, h⟩ := h
      refine rg_Machine_timesLeft E hp g_11 lk_77 d_Machine_comeToLoopEnd_25 (fun x_10 ex_10 => ?_)
      replace h := h x_10 ex_10
      refine rr_aload_n hx hb d_Machine_comeToLoopEnd_28 rfl (lv_at hl 1 rfl) ?_
      obtain ⟨g_13, h⟩ := h
      refine rg_Machine_loopCount E hp g_13 lk_78 d_Machine_comeToLoopEnd_29 (fun x_12 ex_12 => ?_)
      replace h := h x_12 ex_12
      refine lv_iconst (v := 1) hx hb d_Machine_comeToLoopEnd_32 (by decide) ?_
      refine lv_isub hx hb d_Machine_comeToLoopEnd_33 ?_
      refine lv_topi (fun x_14 ex_14 => ?_)
      replace h := h x_14 ex_14
      refine lv_dup2_11 hx hb d_Machine_comeToLoopEnd_34 rfl (rn_cat _) ?_
      obtain ⟨g_16, g_17, h⟩ := h
      refine mp_iald (t0 := 1) E hp g_16 (by decide) rfl rfl g_17 d_Machine_comeToLoopEnd_35 (fun x_15 ex_15 => ?_)
      replace h := h x_15 ex_15
      refine lv_iconst (v := 1) hx hb d_Machine_comeToLoopEnd_36 (by decide) ?_
      refine lv_isub hx hb d_Machine_comeToLoopEnd_37 ?_
      refine lv_topi (fun x_18 ex_18 => ?_)
      replace h := h x_18 ex_18
      obtain ⟨g_19, g_20, h⟩ := h
      refine mp_iast (t0 := 1) E hp hS g_19 (by decide) rfl cw_13 rfl g_20 d_Machine_comeToLoopEnd_38 (fun m_21 em_21 H locs hp hS => ?_)
      replace h := h m_21 em_21
      refine rr_aload_n hx hb d_Machine_comeToLoopEnd_39 rfl (lv_at hl 1 rfl) ?_
      obtain ⟨g_23, h⟩ := h
      refine rg_Machine_timesLeft E hp g_23 lk_77 d_Machine_comeToLoopEnd_40 (fun x_22 ex_22 => ?_)
      replace h := h x_22 ex_22
      refine rr_aload_n hx hb d_Machine_comeToLoopEnd_43 rfl (lv_at hl 1 rfl) ?_
      obtain ⟨g_25, h⟩ := h
      refine rg_Machine_loopCount E hp g_25 lk_78 d_Machine_comeToLoopEnd_44 (fun x_24 ex_24 => ?_)
      replace h := h x_24 ex_24
      refine lv_iconst (v := 1) hx hb d_Machine_comeToLoopEnd_47 (by decide) ?_
      refine lv_isub hx hb d_Machine_comeToLoopEnd_48 ?_
      refine lv_topi (fun x_26 ex_26 => ?_)
      replace h := h x_26 ex_26
      obtain ⟨g_28, g_29, h⟩ := h
      refine mp_iald (t0 := 1) E hp g_28 (by decide) rfl rfl g_29 d_Machine_comeToLoopEnd_49 (fun x_27 ex_27 => ?_)
      replace h := h x_27 ex_27
      refine lv_if_le (tgt := 70) hx hb d_Machine_comeToLoopEnd_50 (by decide) (fun g_30 => ?_) (fun g_30 => ?_)
      · replace h := h.1 g_30
        refine rr_aload_n hx hb d_Machine_comeToLoopEnd_70 rfl (lv_at hl 1 rfl) ?_
        refine lv_dup hx hb d_Machine_comeToLoopEnd_71 (rn_cat _) ?_
        obtain ⟨g_32, h⟩ := h
        refine rg_Machine_loopCount E hp g_32 lk_78 d_Machine_comeToLoopEnd_72 (fun x_31 ex_31 => ?_)
        replace h := h x_31 ex_31
        refine lv_iconst (v := 1) hx hb d_Machine_comeToLoopEnd_75 (by decide) ?_
        refine lv_isub hx hb d_Machine_comeToLoopEnd_76 ?_
        refine lv_topi (fun x_33 ex_33 => ?_)
        replace h := h x_33 ex_33
        obtain ⟨g_34, h⟩ := h
        refine rp_Machine_loopCount E hp hS g_34 lk_78 d_Machine_comeToLoopEnd_77 (fun m_35 em_35 H locs hp hS => ?_)
        replace h := h m_35 em_35
        refine lv_iconst (v := 0) hx hb d_Machine_comeToLoopEnd_80 (by decide) ?_
        exact mp_iret E hr hp hS h d_Machine_comeToLoopEnd_81
      · replace h := h.2 g_30
        refine rr_aload_n hx hb d_Machine_comeToLoopEnd_53 rfl (lv_at hl 1 rfl) ?_
        refine rr_aload_n hx hb d_Machine_comeToLoopEnd_54 rfl (lv_at hl 1 rfl) ?_
        obtain ⟨g_37, h⟩ := h
        refine rg_Machine_plan E hp g_37 lk_76 d_Machine_comeToLoopEnd_55 (fun x_36 ex_36 => ?_)
        replace h := h x_36 ex_36
        refine lv_iload_n hx hb d_Machine_comeToLoopEnd_58 rfl (lv_at hl 0 rfl) ?_
        refine lv_iconst (v := 1) hx hb d_Machine_comeToLoopEnd_59 (by decide) ?_
        refine lv_iadd hx hb d_Machine_comeToLoopEnd_60 ?_
        refine lv_topi (fun x_38 ex_38 => ?_)
        replace h := h x_38 ex_38
        obtain ⟨g_41, h⟩ := h
        refine mc_i hS (mc_runV (As := [.int x_38]) (rest := [rn v0]) E (c_Plan_firstDoneFrom l G m_21 x_36 x_38 _ h) wd_Plan_firstDoneFrom ⟨lk_148, lk_149, lk_150⟩ rfl rfl ⟨Nat.le_of_ble_eq_true rfl, Nat.le_of_ble_eq_true rfl⟩ hp hS g_41 (by decide) rfl rfl rfl hl.1 rfl (lv_room (by simp [rn_cat, cat_int, cat_long, cat_ref, cat_null])) d_Machine_comeToLoopEnd_61 ⟨Nat.le_of_ble_eq_true rfl, Nat.le_of_ble_eq_true rfl⟩) (fun r_40 m_39 h H locs hp hS => ?_)
        try dsimp only at h
        obtain ⟨g_42, h⟩ := h
        refine rp_Machine_nextPlace E hp hS g_42 lk_80 d_Machine_comeToLoopEnd_64 (fun m_43 em_43 H locs hp hS => ?_)
        replace h := h m_43 em_43
        refine lv_goto (tgt := 80) hx hb d_Machine_comeToLoopEnd_67 (by decide) ?_
        refine lv_iconst (v := 0) hx hb d_Machine_comeToLoopEnd_80 (by decide) ?_
        exact mp_iret E hr hp hS h d_Machine_comeToLoopEnd_81
    · replace h := h.2 g_9
      refine lv_iconst (v := 1) hx hb d_Machine_comeToLoopEnd_22 (by decide) ?_
      exact mp_iret E hr hp hS h d_Machine_comeToLoopEnd_23
set_option maxHeartbeats 4000000 in
set_option maxRecDepth 100000 in
theorem c_Machine_comeToLoopEnd (l : Launch) (G : Gc) (m : Mm) (v0 : Nat) (v1 : Int32) (P : Int32 → Mm → Prop) (h : wp_Machine_comeToLoopEnd m v0 v1 P) : Met l y_Machine_comeToLoopEnd (Cond.code y_Machine_comeToLoopEnd b_Machine_comeToLoopEnd 3 (some .int) :: lw_good) rm_Machine_comeToLoopEnd (Pre9 G m [rn v0, .int v1]) (PoI G P) 0 0 (fr G) := by
  refine Met.ofW (cc := b_Machine_comeToLoopEnd) (maxL := 3) (ret := (some .int)) (by decide) rfl ?_
  intro p e s mt args below meth c s₁ B hml hv
  obtain ⟨rfl, hp, hC⟩ := hv
  have hts := atoms_spec (ws := Cond.code y_Machine_comeToLoopEnd b_Machine_comeToLoopEnd 3 (some .int) :: lw_good) B.pre
  have E : En G R_Machine b_Machine_comeToLoopEnd 3 p s mt _ meth c := ⟨B.exec, B.bytes, hml, findClass_of_methodNamed B.named, fun w hw => hts w (List.mem_cons_of_mem _ hw), hC, B.notSynchronized⟩
  have hr := B.returns
  have hl := lv_entry [rn v0, .int v1] (n := 3) (by simp [lg_sl, rn_cat, cat_int, cat_long, cat_ref, cat_null])
  rw [lg_entry_eq]
  generalize (lg_sl [rn v0, .int v1] ++ List.replicate (3 - (lg_sl [rn v0, .int v1]).length) Slot.unset).toArray = ls at hl ⊢
  have hl : lv_has ls 3 [(0, rn v0), (1, .int v1)] := by simpa [lv_args, rn_cat, cat_int, cat_long, cat_ref, cat_null] using hl
  exact t_Machine_comeToLoopEnd_0 E hr m v0 v1 _ _ _ h hp va_S.rf (lv_sub hl [0, 1] rfl)
abbrev rm_Device_copies : Room := { frames := 0, cells := 0, slots := 0, locals := 0 }
set_option maxHeartbeats 4000000 in
set_option maxRecDepth 100000 in
theorem t_Device_copies_0 {G : Gc} {P : Int32 → Mm → Prop} (E : En G R_Device b_Device_copies 1 p s mt args meth c) (hr : meth.sig.returnType = some .int) (m : Mm) (v0 : Nat) (H : Heap) (locs : List Loc) (ls : Array Slot) (h : wp_Device_copies_0 P m v0) (hp : pic G m H) (hS : va_S (fr G) s.heap H locs) (hl : lv_has ls 1 [(0, rn v0)]) : W p l e rm_Device_copies s mt args below meth c H locs 0 0 (MQ below (PoI G P) args s 0 0 (fr G)) (F0 mt 0 ls []) := by
  have hx := E.1
  have hb := E.2.1
  unfold wp_Device_copies_0 at h
  refine rr_aload_n hx hb d_Device_copies_0 rfl (lv_at hl 0 rfl) ?_
  obtain ⟨g_2, h⟩ := h
  refine rg_Device_settings E hp g_2 lk_0 d_Device_copies_1 (fun x_1 ex_1 => ?_)
  replace h := h x_1 ex_1
  refine lv_iconst (v := 1) hx hb d_Device_copies_4 (by decide) ?_
  obtain ⟨g_4, g_5, h⟩ := h
  refine mp_iald (t0 := 1) E hp g_4 (by decide) rfl rfl g_5 d_Device_copies_5 (fun x_3 ex_3 => ?_)
  replace h := h x_3 ex_3
  exact mp_iret E hr hp hS h d_Device_copies_6
set_option maxHeartbeats 4000000 in
set_option maxRecDepth 100000 in
theorem c_Device_copies (l : Launch) (G : Gc) (m : Mm) (v0 : Nat) (P : Int32 → Mm → Prop) (h : wp_Device_copies m v0 P) : Met l y_Device_copies (Cond.code y_Device_copies b_Device_copies 1 (some .int) :: lw_good) rm_Device_copies (Pre9 G m [rn v0]) (PoI G P) 0 0 (fr G) := by
  refine Met.ofW (cc := b_Device_copies) (maxL := 1) (ret := (some .int)) (by decide) rfl ?_
  intro p e s mt args below meth c s₁ B hml hv
  obtain ⟨rfl, hp, hC⟩ := hv
  have hts := atoms_spec (ws := Cond.code y_Device_copies b_Device_copies 1 (some .int) :: lw_good) B.pre
  have E : En G R_Device b_Device_copies 1 p s mt _ meth c := ⟨B.exec, B.bytes, hml, findClass_of_methodNamed B.named, fun w hw => hts w (List.mem_cons_of_mem _ hw), hC, B.notSynchronized⟩
  have hr := B.returns
  have hl := lv_entry [rn v0] (n := 1) (by simp [lg_sl, rn_cat, cat_int, cat_long, cat_ref, cat_null])
  rw [lg_entry_eq]
  generalize (lg_sl [rn v0] ++ List.replicate (1 - (lg_sl [rn v0]).length) Slot.unset).toArray = ls at hl ⊢
  have hl : lv_has ls 1 [(0, rn v0)] := by simpa [lv_args, rn_cat, cat_int, cat_long, cat_ref, cat_null] using hl
  exact t_Device_copies_0 E hr m v0 _ _ _ h hp va_S.rf (lv_sub hl [0] rfl)
abbrev rm_Job_show : Room := { frames := 0, cells := 0, slots := 0, locals := 0 }
set_option maxHeartbeats 4000000 in
set_option maxRecDepth 100000 in
theorem t_Job_show_15 {G : Gc} {P : Int32 → Mm → Prop} (E : En G R_Job b_Job_show 4 p s mt args meth c) (hr : meth.sig.returnType = some .boolean) : ∀ (n : Nat) (m : Mm) (v0 : Nat) (v1 : Int32) (v2 : Int32) (v3 : Int32) (H : Heap) (locs : List Loc) (ls : Array Slot) (_ : wp_Job_show_15 P n m v0 v1 v2 v3) (_ : pic G m H) (_ : va_S (fr G) s.heap H locs) (_ : lv_has ls 4 [(0, rn v0), (1, .int v1), (2, .int v2), (3, .int v3)]), W p l e rm_Job_show s mt args below meth c H locs 0 0 (MQ below (PoI G P) args s 0 0 (fr G)) (F0 mt 15 ls []) := by
  intro n
  induction n with
  | zero => intro m v0 v1 v2 v3 H locs ls h hp hS hl; exact h.elim
  | succ n ih =>
    intro m v0 v1 v2 v3 H locs ls h hp hS hl
    have hx := E.1
    have hb := E.2.1
    unfold wp_Job_show_15 at h
    refine lv_iload_n hx hb d_Job_show_15 rfl (lv_at hl 3 rfl) ?_
    refine lv_iload_n hx hb d_Job_show_16 rfl (lv_at hl 2 rfl) ?_
    refine lv_icmp_ge (tgt := 46) hx hb d_Job_show_17 (by decide) (fun g_1 => ?_) (fun g_1 => ?_)
    · replace h := h.1 g_1
      refine lv_iconst (v := 1) hx hb d_Job_show_46 (by decide) ?_
      exact mp_zret E hr hp hS (by decide) h d_Job_show_47
    · replace h := h.2 g_1
      refine rr_aload_n hx hb d_Job_show_20 rfl (lv_at hl 0 rfl) ?_
      obtain ⟨g_3, h⟩ := h
      refine rg_Job_pages E hp g_3 lk_92 d_Job_show_21 (fun x_2 ex_2 => ?_)
      replace h := h x_2 ex_2
      refine rr_aload_n hx hb d_Job_show_24 rfl (lv_at hl 0 rfl) ?_
      obtain ⟨g_5, h⟩ := h
      refine rg_Job_pageCount E hp g_5 lk_94 d_Job_show_25 (fun x_4 ex_4 => ?_)
      replace h := h x_4 ex_4
      refine lv_iload_n hx hb d_Job_show_28 rfl (lv_at hl 1 rfl) ?_
      obtain ⟨g_6, g_7, h⟩ := h
      refine mp_iast (t0 := 1) E hp hS g_6 (by decide) rfl cw_25 rfl g_7 d_Job_show_29 (fun m_8 em_8 H locs hp hS => ?_)
      replace h := h m_8 em_8
      refine rr_aload_n hx hb d_Job_show_30 rfl (lv_at hl 0 rfl) ?_
      refine lv_dup hx hb d_Job_show_31 (rn_cat _) ?_
      obtain ⟨g_10, h⟩ := h
      refine rg_Job_pageCount E hp g_10 lk_94 d_Job_show_32 (fun x_9 ex_9 => ?_)
      replace h := h x_9 ex_9
      refine lv_iconst (v := 1) hx hb d_Job_show_35 (by decide) ?_
      refine lv_iadd hx hb d_Job_show_36 ?_
      refine lv_topi (fun x_11 ex_11 => ?_)
      replace h := h x_11 ex_11
      obtain ⟨g_12, h⟩ := h
      refine rp_Job_pageCount E hp hS g_12 lk_94 d_Job_show_37 (fun m_13 em_13 H locs hp hS => ?_)
      replace h := h m_13 em_13
      obtain ⟨x_14, ex_14⟩ : ∃ y : Int32, y = v3 + 1 := ⟨_, rfl⟩
      replace h := h x_14 ex_14
      refine lv_iinc (v := x_14) (lv' := [(3, .int x_14), (0, rn v0), (1, .int v1), (2, .int v2)]) hx hb d_Job_show_40 hl (k := 3) rfl (by rw [ex_14]; rfl) (by decide) rfl (fun ls hl => ?_)
      refine lv_goto (tgt := 15) hx hb d_Job_show_43 (by decide) ?_
      exact ih m_13 v0 v1 v2 x_14 _ _ _ h hp hS (lv_sub hl [1, 2, 3, 0] rfl)
set_option maxHeartbeats 4000000 in
set_option maxRecDepth 100000 in
theorem t_Job_show_0 {G : Gc} {P : Int32 → Mm → Prop} (E : En G R_Job b_Job_show 4 p s mt args meth c) (hr : meth.sig.returnType = some .boolean) (m : Mm) (v0 : Nat) (v1 : Int32) (v2 : Int32) (H : Heap) (locs : List Loc) (ls : Array Slot) (h : wp_Job_show_0 P m v0 v1 v2) (hp : pic G m H) (hS : va_S (fr G) s.heap H locs) (hl : lv_has ls 4 [(0, rn v0), (1, .int v1), (2, .int v2)]) : W p l e rm_Job_show s mt args below meth c H locs 0 0 (MQ below (PoI G P) args s 0 0 (fr G)) (F0 mt 0 ls []) := by
  have hx := E.1
  have hb := E.2.1
  unfold wp_Job_show_0 at h
  refine lv_iload_n hx hb d_Job_show_0 rfl (lv_at hl 2 rfl) ?_
  refine lv_bipush (v := 40) hx hb d_Job_show_1 (by decide) ?_
  refine rr_aload_n hx hb d_Job_show_3 rfl (lv_at hl 0 rfl) ?_
  obtain ⟨g_2, h⟩ := h
  refine rg_Job_pageCount E hp g_2 lk_94 d_Job_show_4 (fun x_1 ex_1 => ?_)
  replace h := h x_1 ex_1
  refine lv_isub hx hb d_Job_show_7 ?_
  refine lv_topi (fun x_3 ex_3 => ?_)
  replace h := h x_3 ex_3
  refine lv_icmp_le (tgt := 13) hx hb d_Job_show_8 (by decide) (fun g_4 => ?_) (fun g_4 => ?_)
  · replace h := h.1 g_4
    refine lv_iconst (v := 0) hx hb d_Job_show_13 (by decide) ?_
    refine lv_istore_n (lv' := [(3, .int 0), (0, rn v0), (1, .int v1), (2, .int v2)]) hx hb d_Job_show_14 rfl hl (by decide) rfl (fun ls hl => ?_)
    obtain ⟨n_5, h⟩ := h
    exact t_Job_show_15 E hr n_5 m v0 v1 v2 0 _ _ _ h hp hS (lv_sub hl [1, 2, 3, 0] rfl)
  · replace h := h.2 g_4
    refine lv_iconst (v := 0) hx hb d_Job_show_11 (by decide) ?_
    exact mp_zret E hr hp hS (by decide) h d_Job_show_12
set_option maxHeartbeats 4000000 in
set_option maxRecDepth 100000 in
theorem c_Job_show (l : Launch) (G : Gc) (m : Mm) (v0 : Nat) (v1 : Int32) (v2 : Int32) (P : Int32 → Mm → Prop) (h : wp_Job_show m v0 v1 v2 P) : Met l y_Job_show (Cond.code y_Job_show b_Job_show 4 (some .boolean) :: lw_good) rm_Job_show (Pre9 G m [rn v0, .int v1, .int v2]) (PoI G P) 0 0 (fr G) := by
  refine Met.ofW (cc := b_Job_show) (maxL := 4) (ret := (some .boolean)) (by decide) rfl ?_
  intro p e s mt args below meth c s₁ B hml hv
  obtain ⟨rfl, hp, hC⟩ := hv
  have hts := atoms_spec (ws := Cond.code y_Job_show b_Job_show 4 (some .boolean) :: lw_good) B.pre
  have E : En G R_Job b_Job_show 4 p s mt _ meth c := ⟨B.exec, B.bytes, hml, findClass_of_methodNamed B.named, fun w hw => hts w (List.mem_cons_of_mem _ hw), hC, B.notSynchronized⟩
  have hr := B.returns
  have hl := lv_entry [rn v0, .int v1, .int v2] (n := 4) (by simp [lg_sl, rn_cat, cat_int, cat_long, cat_ref, cat_null])
  rw [lg_entry_eq]
  generalize (lg_sl [rn v0, .int v1, .int v2] ++ List.replicate (4 - (lg_sl [rn v0, .int v1, .int v2]).length) Slot.unset).toArray = ls at hl ⊢
  have hl : lv_has ls 4 [(0, rn v0), (1, .int v1), (2, .int v2)] := by simpa [lv_args, rn_cat, cat_int, cat_long, cat_ref, cat_null] using hl
  exact t_Job_show_0 E hr m v0 v1 v2 _ _ _ h hp va_S.rf (lv_sub hl [0, 1, 2] rfl)
abbrev rm_Machine_showPage : Room := { frames := 1, cells := 0, slots := 0, locals := 23 }
set_option maxHeartbeats 4000000 in
set_option maxRecDepth 100000 in
theorem t_Machine_showPage_0 {G : Gc} {P : Int32 → Mm → Prop} (E : En G R_Machine b_Machine_showPage 2 p s mt args meth c) (hr : meth.sig.returnType = some .int) (m : Mm) (v0 : Nat) (v1 : Nat) (H : Heap) (locs : List Loc) (ls : Array Slot) (h : wp_Machine_showPage_0 P m v0 v1) (hp : pic G m H) (hS : va_S (fr G) s.heap H locs) (hl : lv_has ls 2 [(0, rn v0), (1, rn v1)]) : W p l e rm_Machine_showPage s mt args below meth c H locs 0 0 (MQ below (PoI G P) args s 0 0 (fr G)) (F0 mt 0 ls []) := by
  have hx := E.1
  have hb := E.2.1
  unfold wp_Machine_showPage_0 at h
  refine rr_aload_n hx hb d_Machine_showPage_0 rfl (lv_at hl 1 rfl) ?_
  refine rr_aload_n hx hb d_Machine_showPage_1 rfl (lv_at hl 0 rfl) ?_
  obtain ⟨g_2, h⟩ := h
  refine rg_Machine_marks E hp g_2 lk_79 d_Machine_showPage_2 (fun x_1 ex_1 => ?_)
  replace h := h x_1 ex_1
  refine rr_aload_n hx hb d_Machine_showPage_5 rfl (lv_at hl 0 rfl) ?_
  obtain ⟨g_4, h⟩ := h
  refine rg_Machine_device E hp g_4 lk_52 d_Machine_showPage_6 (fun x_3 ex_3 => ?_)
  replace h := h x_3 ex_3
  obtain ⟨g_7, h⟩ := h
  refine mc_i hS (mc_runV (As := []) (rest := [.int x_1, rn v1]) E (c_Device_copies l G m x_3 _ h) wd_Device_copies ⟨lk_154, lk_155, lk_156⟩ rfl rfl ⟨Nat.le_of_ble_eq_true rfl, Nat.le_of_ble_eq_true rfl⟩ hp hS g_7 (by decide) rfl rfl rfl hl.1 rfl (lv_room (by simp [rn_cat, cat_int, cat_long, cat_ref, cat_null])) d_Machine_showPage_9 ⟨Nat.le_of_ble_eq_true rfl, Nat.le_of_ble_eq_true rfl⟩) (fun r_6 m_5 h H locs hp hS => ?_)
  try dsimp only at h
  obtain ⟨g_10, h⟩ := h
  refine mc_i hS (mc_runV (As := [.int x_1, .int r_6]) (rest := []) E (c_Job_show l G m_5 v1 x_1 r_6 _ h) wd_Job_show ⟨lk_157, lk_158, lk_159⟩ rfl rfl ⟨Nat.le_of_ble_eq_true rfl, Nat.le_of_ble_eq_true rfl⟩ hp hS g_10 (by decide) rfl rfl rfl hl.1 rfl (lv_room (Nat.le_of_ble_eq_true rfl)) d_Machine_showPage_12 ⟨Nat.le_of_ble_eq_true rfl, Nat.le_of_ble_eq_true rfl⟩) (fun r_9 m_8 h H locs hp hS => ?_)
  try dsimp only at h
  refine lv_if_ne (tgt := 21) hx hb d_Machine_showPage_15 (by decide) (fun g_11 => ?_) (fun g_11 => ?_)
  · replace h := h.2 g_11
    refine rr_aload_n hx hb d_Machine_showPage_21 rfl (lv_at hl 0 rfl) ?_
    refine lv_iconst (v := 0) hx hb d_Machine_showPage_22 (by decide) ?_
    obtain ⟨g_12, h⟩ := h
    refine rp_Machine_marks E hp hS g_12 lk_79 d_Machine_showPage_23 (fun m_13 em_13 H locs hp hS => ?_)
    replace h := h m_13 em_13
    refine lv_iconst (v := 0) hx hb d_Machine_showPage_26 (by decide) ?_
    exact mp_iret E hr hp hS h d_Machine_showPage_27
  · replace h := h.1 g_11
    refine lv_bipush (v := 6) hx hb d_Machine_showPage_18 (by decide) ?_
    exact mp_iret E hr hp hS h d_Machine_showPage_20
set_option maxHeartbeats 4000000 in
set_option maxRecDepth 100000 in
theorem c_Machine_showPage (l : Launch) (G : Gc) (m : Mm) (v0 : Nat) (v1 : Nat) (P : Int32 → Mm → Prop) (h : wp_Machine_showPage m v0 v1 P) : Met l y_Machine_showPage (Cond.code y_Machine_showPage b_Machine_showPage 2 (some .int) :: lw_good) rm_Machine_showPage (Pre9 G m [rn v0, rn v1]) (PoI G P) 0 0 (fr G) := by
  refine Met.ofW (cc := b_Machine_showPage) (maxL := 2) (ret := (some .int)) (by decide) rfl ?_
  intro p e s mt args below meth c s₁ B hml hv
  obtain ⟨rfl, hp, hC⟩ := hv
  have hts := atoms_spec (ws := Cond.code y_Machine_showPage b_Machine_showPage 2 (some .int) :: lw_good) B.pre
  have E : En G R_Machine b_Machine_showPage 2 p s mt _ meth c := ⟨B.exec, B.bytes, hml, findClass_of_methodNamed B.named, fun w hw => hts w (List.mem_cons_of_mem _ hw), hC, B.notSynchronized⟩
  have hr := B.returns
  have hl := lv_entry [rn v0, rn v1] (n := 2) (by simp [lg_sl, rn_cat, cat_int, cat_long, cat_ref, cat_null])
  rw [lg_entry_eq]
  generalize (lg_sl [rn v0, rn v1] ++ List.replicate (2 - (lg_sl [rn v0, rn v1]).length) Slot.unset).toArray = ls at hl ⊢
  have hl : lv_has ls 2 [(0, rn v0), (1, rn v1)] := by simpa [lv_args, rn_cat, cat_int, cat_long, cat_ref, cat_null] using hl
  exact t_Machine_showPage_0 E hr m v0 v1 _ _ _ h hp va_S.rf (lv_sub hl [0, 1] rfl)
abbrev rm_Device_change : Room := { frames := 0, cells := 0, slots := 0, locals := 0 }
set_option maxHeartbeats 4000000 in
set_option maxRecDepth 100000 in
theorem t_Device_change_0 {G : Gc} {P : Int32 → Mm → Prop} (E : En G R_Device b_Device_change 3 p s mt args meth c) (hr : meth.sig.returnType = some .boolean) (m : Mm) (v0 : Nat) (v1 : Int32) (v2 : Int32) (H : Heap) (locs : List Loc) (ls : Array Slot) (h : wp_Device_change_0 P m v0 v1 v2) (hp : pic G m H) (hS : va_S (fr G) s.heap H locs) (hl : lv_has ls 3 [(0, rn v0), (1, .int v1), (2, .int v2)]) : W p l e rm_Device_change s mt args below meth c H locs 0 0 (MQ below (PoI G P) args s 0 0 (fr G)) (F0 mt 0 ls []) := by
  have hx := E.1
  have hb := E.2.1
  unfold wp_Device_change_0 at h
  refine lv_iload_n hx hb d_Device_change_0 rfl (lv_at hl 1 rfl) ?_
  refine lv_if_lt (tgt := 9) hx hb d_Device_change_1 (by decide) (fun g_1 => ?_) (fun g_1 => ?_)
  · replace h := h.1 g_1
    refine lv_iconst (v := 0) hx hb d_Device_change_9 (by decide) ?_
    exact mp_zret E hr hp hS (by decide) h d_Device_change_10
  · replace h := h.2 g_1
    refine lv_iload_n hx hb d_Device_change_4 rfl (lv_at hl 1 rfl) ?_
    refine lv_iconst (v := 4) hx hb d_Device_change_5 (by decide) ?_
    refine lv_icmp_lt (tgt := 11) hx hb d_Device_change_6 (by decide) (fun g_2 => ?_) (fun g_2 => ?_)
    · replace h := h.1 g_2
      refine lv_iload_n hx hb d_Device_change_11 rfl (lv_at hl 2 rfl) ?_
      refine rsN_1 E hS (Nw_1 (Cx_nw E.2.2.2.2.2.1)) d_Device_change_12 ?_
      refine lv_iload_n hx hb d_Device_change_15 rfl (lv_at hl 1 rfl) ?_
      obtain ⟨g_5, h⟩ := h
      refine rt_1 E hS g_5 d_Device_change_16 (fun x_3 ex_3 => ?_)
      replace h := h x_3 ex_3
      refine lv_icmp_lt (tgt := 29) hx hb d_Device_change_17 (by decide) (fun g_6 => ?_) (fun g_6 => ?_)
      · replace h := h.1 g_6
        refine lv_iconst (v := 0) hx hb d_Device_change_29 (by decide) ?_
        exact mp_zret E hr hp hS (by decide) h d_Device_change_30
      · replace h := h.2 g_6
        refine lv_iload_n hx hb d_Device_change_20 rfl (lv_at hl 2 rfl) ?_
        refine rsN_2 E hS (Nw_2 (Cx_nw E.2.2.2.2.2.1)) d_Device_change_21 ?_
        refine lv_iload_n hx hb d_Device_change_24 rfl (lv_at hl 1 rfl) ?_
        obtain ⟨g_9, h⟩ := h
        refine rt_2 E hS g_9 d_Device_change_25 (fun x_7 ex_7 => ?_)
        replace h := h x_7 ex_7
        refine lv_icmp_le (tgt := 31) hx hb d_Device_change_26 (by decide) (fun g_10 => ?_) (fun g_10 => ?_)
        · replace h := h.1 g_10
          refine rr_aload_n hx hb d_Device_change_31 rfl (lv_at hl 0 rfl) ?_
          obtain ⟨g_12, h⟩ := h
          refine rg_Device_settings E hp g_12 lk_0 d_Device_change_32 (fun x_11 ex_11 => ?_)
          replace h := h x_11 ex_11
          refine lv_iload_n hx hb d_Device_change_35 rfl (lv_at hl 1 rfl) ?_
          refine lv_iload_n hx hb d_Device_change_36 rfl (lv_at hl 2 rfl) ?_
          obtain ⟨g_13, g_14, h⟩ := h
          refine mp_iast (t0 := 1) E hp hS g_13 (by decide) rfl cw_14 rfl g_14 d_Device_change_37 (fun m_15 em_15 H locs hp hS => ?_)
          replace h := h m_15 em_15
          refine lv_iconst (v := 1) hx hb d_Device_change_38 (by decide) ?_
          exact mp_zret E hr hp hS (by decide) h d_Device_change_39
        · replace h := h.2 g_10
          refine lv_iconst (v := 0) hx hb d_Device_change_29 (by decide) ?_
          exact mp_zret E hr hp hS (by decide) h d_Device_change_30
    · replace h := h.2 g_2
      refine lv_iconst (v := 0) hx hb d_Device_change_9 (by decide) ?_
      exact mp_zret E hr hp hS (by decide) h d_Device_change_10
set_option maxHeartbeats 4000000 in
set_option maxRecDepth 100000 in
theorem c_Device_change (l : Launch) (G : Gc) (m : Mm) (v0 : Nat) (v1 : Int32) (v2 : Int32) (P : Int32 → Mm → Prop) (h : wp_Device_change m v0 v1 v2 P) : Met l y_Device_change (Cond.code y_Device_change b_Device_change 3 (some .boolean) :: lw_good) rm_Device_change (Pre9 G m [rn v0, .int v1, .int v2]) (PoI G P) 0 0 (fr G) := by
  refine Met.ofW (cc := b_Device_change) (maxL := 3) (ret := (some .boolean)) (by decide) rfl ?_
  intro p e s mt args below meth c s₁ B hml hv
  obtain ⟨rfl, hp, hC⟩ := hv
  have hts := atoms_spec (ws := Cond.code y_Device_change b_Device_change 3 (some .boolean) :: lw_good) B.pre
  have E : En G R_Device b_Device_change 3 p s mt _ meth c := ⟨B.exec, B.bytes, hml, findClass_of_methodNamed B.named, fun w hw => hts w (List.mem_cons_of_mem _ hw), hC, B.notSynchronized⟩
  have hr := B.returns
  have hl := lv_entry [rn v0, .int v1, .int v2] (n := 3) (by simp [lg_sl, rn_cat, cat_int, cat_long, cat_ref, cat_null])
  rw [lg_entry_eq]
  generalize (lg_sl [rn v0, .int v1, .int v2] ++ List.replicate (3 - (lg_sl [rn v0, .int v1, .int v2]).length) Slot.unset).toArray = ls at hl ⊢
  have hl : lv_has ls 3 [(0, rn v0), (1, .int v1), (2, .int v2)] := by simpa [lv_args, rn_cat, cat_int, cat_long, cat_ref, cat_null] using hl
  exact t_Device_change_0 E hr m v0 v1 v2 _ _ _ h hp va_S.rf (lv_sub hl [0, 1, 2] rfl)
end WK
