section WK
variable {p : Program} {l : Launch} {e : Env} {s : State} {mt : MethodId} {args : Array Value} {below : List Frame} {meth : Method} {c : Code}
abbrev rm_Machine_doSign : Room := { frames := 4, cells := 0, slots := 0, locals := 94 }
set_option maxHeartbeats 4000000 in
set_option maxRecDepth 100000 in
theorem t_Machine_doSign_106 {G : Gc} {P : Int32 → Mm → Prop} (E : En G R_Machine b_Machine_doSign 8 p s mt args meth c) (hr : meth.sig.returnType = some .int) (m : Mm) (v0 : Nat) (v1 : Nat) (v2 : Int32) (v3 : Int32) (v5 : Int32) (v6 : Int32) (s0 : Int32) (H : Heap) (locs : List Loc) (ls : Array Slot) (h : wp_Machine_doSign_106 P m v0 v1 v2 v3 v5 v6 s0) (hp : pic G m H) (hS : va_S (fr G) s.heap H locs) (hl : lv_has ls 8 [(0, rn v0), (1, rn v1), (2, .int v2), (3, .int v3), (5, .int v5), (6, .int v6)]) : W p l e rm_Machine_doSign s mt args below meth c H locs 0 0 (MQ below (PoI G P) args s 0 0 (fr G)) (F0 mt 106 ls [.int s0]) := by
  have hx := E.1
  have hb := E.2.1
  unfold wp_Machine_doSign_106 at h
  refine lv_istore (lv' := [(7, .int s0), (0, rn v0), (1, rn v1), (2, .int v2), (3, .int v3), (5, .int v5), (6, .int v6)]) hx hb d_Machine_doSign_106 hl (by decide) rfl (fun ls hl => ?_)
  refine lv_iload_n hx hb d_Machine_doSign_108 rfl (lv_at hl 3 rfl) ?_
  by_cases g_1 : v2 = 68
  · replace h := h.1 g_1
    refine lv_lookup (x := v2) (off := 184) (tgt := 293) hx hb d_Machine_doSign_109 (by decide) (by rw [g_1]; decide) (by decide) ?_
    refine rr_aload_n hx hb d_Machine_doSign_293 rfl (lv_at hl 1 rfl) ?_
    obtain ⟨g_3, h⟩ := h
    refine rg_Machine_resources E hp g_3 lk_56 d_Machine_doSign_294 (fun x_2 ex_2 => ?_)
    replace h := h x_2 ex_2
    refine lv_iload hx hb d_Machine_doSign_297 (lv_at hl 0 rfl) ?_
    refine lv_iload hx hb d_Machine_doSign_299 (lv_at hl 6 rfl) ?_
    refine lv_iload hx hb d_Machine_doSign_301 (lv_at hl 5 rfl) ?_
    obtain ⟨g_6, h⟩ := h
    refine mc_i hS (mc_runV (As := [.int s0, .int v6, .int v5]) (rest := []) E (c_Resources_put l G m x_2 s0 v6 v5 _ h) wd_Resources_put ⟨lk_239, lk_240, lk_241⟩ rfl rfl ⟨Nat.le_of_ble_eq_true rfl, Nat.le_of_ble_eq_true rfl⟩ hp hS g_6 (by decide) rfl rfl rfl hl.1 rfl (lv_room (Nat.le_of_ble_eq_true rfl)) d_Machine_doSign_303 ⟨Nat.le_of_ble_eq_true rfl, Nat.le_of_ble_eq_true rfl⟩) (fun r_5 m_4 h H locs hp hS => ?_)
    try dsimp only at h
    refine lv_iconst (v := 2) hx hb d_Machine_doSign_306 (by decide) ?_
    refine mc_i hS (mc_runS (As := [.int r_5, .int 2]) (rest := []) E (c_Machine_errorIfRefused l G m_4 r_5 2 _ h) wd_Machine_errorIfRefused ⟨lk_218, lk_219⟩ rfl rfl ⟨Nat.le_of_ble_eq_true rfl, Nat.le_of_ble_eq_true rfl⟩ hp hS rfl hl.1 rfl (lv_room (Nat.le_of_ble_eq_true rfl)) d_Machine_doSign_307 ⟨Nat.le_of_ble_eq_true rfl, Nat.le_of_ble_eq_true rfl⟩) (fun r_8 m_7 h H locs hp hS => ?_)
    try dsimp only at h
    exact mp_iret E hr hp hS h d_Machine_doSign_310
  · replace h := h.2 g_1
    by_cases g_9 : v2 = 82
    · replace h := h.1 g_9
      refine lv_lookup (x := v2) (off := 167) (tgt := 276) hx hb d_Machine_doSign_109 (by decide) (by rw [g_9]; decide) (by decide) ?_
      refine rr_aload_n hx hb d_Machine_doSign_276 rfl (lv_at hl 1 rfl) ?_
      refine rr_aload_n hx hb d_Machine_doSign_277 rfl (lv_at hl 1 rfl) ?_
      obtain ⟨g_11, h⟩ := h
      refine rg_Machine_resources E hp g_11 lk_56 d_Machine_doSign_278 (fun x_10 ex_10 => ?_)
      replace h := h x_10 ex_10
      refine lv_iload hx hb d_Machine_doSign_281 (lv_at hl 0 rfl) ?_
      refine lv_iload hx hb d_Machine_doSign_283 (lv_at hl 6 rfl) ?_
      obtain ⟨g_14, h⟩ := h
      refine mc_i hS (mc_runV (As := [.int s0, .int v6]) (rest := [rn v0]) E (c_Resources_valueAt l G m x_10 s0 v6 _ h) wd_Resources_valueAt ⟨lk_242, lk_243, lk_244⟩ rfl rfl ⟨Nat.le_of_ble_eq_true rfl, Nat.le_of_ble_eq_true rfl⟩ hp hS g_14 (by decide) rfl rfl rfl hl.1 rfl (lv_room (by simp [rn_cat, cat_int, cat_long, cat_ref, cat_null])) d_Machine_doSign_285 ⟨Nat.le_of_ble_eq_true rfl, Nat.le_of_ble_eq_true rfl⟩) (fun r_13 m_12 h H locs hp hS => ?_)
      try dsimp only at h
      refine lv_iconst (v := 2) hx hb d_Machine_doSign_288 (by decide) ?_
      obtain ⟨g_17, h⟩ := h
      refine mc_i hS (mc_runV (As := [.int r_13, .int 2]) (rest := []) E (c_Machine_layUnlessRefused l G m_12 v0 r_13 2 _ h) wd_Machine_layUnlessRefused ⟨lk_212, lk_213, lk_214⟩ rfl rfl ⟨Nat.le_of_ble_eq_true rfl, Nat.le_of_ble_eq_true rfl⟩ hp hS g_17 (by decide) rfl rfl rfl hl.1 rfl (lv_room (Nat.le_of_ble_eq_true rfl)) d_Machine_doSign_289 ⟨Nat.le_of_ble_eq_true rfl, Nat.le_of_ble_eq_true rfl⟩) (fun r_16 m_15 h H locs hp hS => ?_)
      try dsimp only at h
      exact mp_iret E hr hp hS h d_Machine_doSign_292
    · replace h := h.2 g_9
      by_cases g_18 : v2 = 99
      · replace h := h.1 g_18
        refine lv_lookup (x := v2) (off := 202) (tgt := 311) hx hb d_Machine_doSign_109 (by decide) (by rw [g_18]; decide) (by decide) ?_
        refine rr_aload_n hx hb d_Machine_doSign_311 rfl (lv_at hl 1 rfl) ?_
        refine lv_iload_n hx hb d_Machine_doSign_312 rfl (lv_at hl 3 rfl) ?_
        refine lv_iload hx hb d_Machine_doSign_313 (lv_at hl 0 rfl) ?_
        refine lv_iload hx hb d_Machine_doSign_315 (lv_at hl 6 rfl) ?_
        obtain ⟨g_21, h⟩ := h
        refine mc_i hS (mc_runV (As := [.int v2, .int s0, .int v6]) (rest := []) E (c_Machine_doFileSign l G m v0 v2 s0 v6 _ h) wd_Machine_doFileSign ⟨lk_245, lk_246, lk_247⟩ rfl rfl ⟨Nat.le_of_ble_eq_true rfl, Nat.le_of_ble_eq_true rfl⟩ hp hS g_21 (by decide) rfl rfl rfl hl.1 rfl (lv_room (Nat.le_of_ble_eq_true rfl)) d_Machine_doSign_317 ⟨Nat.le_of_ble_eq_true rfl, Nat.le_of_ble_eq_true rfl⟩) (fun r_20 m_19 h H locs hp hS => ?_)
        try dsimp only at h
        exact mp_iret E hr hp hS h d_Machine_doSign_320
      · replace h := h.2 g_18
        by_cases g_22 : v2 = 102
        · replace h := h.1 g_22
          refine lv_lookup (x := v2) (off := 202) (tgt := 311) hx hb d_Machine_doSign_109 (by decide) (by rw [g_22]; decide) (by decide) ?_
          refine rr_aload_n hx hb d_Machine_doSign_311 rfl (lv_at hl 1 rfl) ?_
          refine lv_iload_n hx hb d_Machine_doSign_312 rfl (lv_at hl 3 rfl) ?_
          refine lv_iload hx hb d_Machine_doSign_313 (lv_at hl 0 rfl) ?_
          refine lv_iload hx hb d_Machine_doSign_315 (lv_at hl 6 rfl) ?_
          obtain ⟨g_25, h⟩ := h
          refine mc_i hS (mc_runV (As := [.int v2, .int s0, .int v6]) (rest := []) E (c_Machine_doFileSign l G m v0 v2 s0 v6 _ h) wd_Machine_doFileSign ⟨lk_245, lk_246, lk_247⟩ rfl rfl ⟨Nat.le_of_ble_eq_true rfl, Nat.le_of_ble_eq_true rfl⟩ hp hS g_25 (by decide) rfl rfl rfl hl.1 rfl (lv_room (Nat.le_of_ble_eq_true rfl)) d_Machine_doSign_317 ⟨Nat.le_of_ble_eq_true rfl, Nat.le_of_ble_eq_true rfl⟩) (fun r_24 m_23 h H locs hp hS => ?_)
          try dsimp only at h
          exact mp_iret E hr hp hS h d_Machine_doSign_320
        · replace h := h.2 g_22
          by_cases g_26 : v2 = 103
          · replace h := h.1 g_26
            refine lv_lookup (x := v2) (off := 158) (tgt := 267) hx hb d_Machine_doSign_109 (by decide) (by rw [g_26]; decide) (by decide) ?_
            refine rr_aload_n hx hb d_Machine_doSign_267 rfl (lv_at hl 1 rfl) ?_
            refine lv_iload hx hb d_Machine_doSign_268 (lv_at hl 0 rfl) ?_
            refine lv_iload hx hb d_Machine_doSign_270 (lv_at hl 6 rfl) ?_
            obtain ⟨g_29, h⟩ := h
            refine mc_i hS (mc_runV (As := [.int s0, .int v6]) (rest := []) E (c_Machine_request l G m v0 s0 v6 _ h) wd_Machine_request ⟨lk_248, lk_249, lk_250⟩ rfl rfl ⟨Nat.le_of_ble_eq_true rfl, Nat.le_of_ble_eq_true rfl⟩ hp hS g_29 (by decide) rfl rfl rfl hl.1 rfl (lv_room (Nat.le_of_ble_eq_true rfl)) d_Machine_doSign_272 ⟨Nat.le_of_ble_eq_true rfl, Nat.le_of_ble_eq_true rfl⟩) (fun r_28 m_27 h H locs hp hS => ?_)
            try dsimp only at h
            exact mp_iret E hr hp hS h d_Machine_doSign_275
          · replace h := h.2 g_26
            by_cases g_30 : v2 = 109
            · replace h := h.1 g_30
              refine lv_lookup (x := v2) (off := 135) (tgt := 244) hx hb d_Machine_doSign_109 (by decide) (by rw [g_30]; decide) (by decide) ?_
              refine rr_aload_n hx hb d_Machine_doSign_244 rfl (lv_at hl 1 rfl) ?_
              refine lv_bipush (v := 31) hx hb d_Machine_doSign_245 (by decide) ?_
              refine rr_aload_n hx hb d_Machine_doSign_247 rfl (lv_at hl 1 rfl) ?_
              obtain ⟨g_32, h⟩ := h
              refine rg_Machine_marks E hp g_32 lk_79 d_Machine_doSign_248 (fun x_31 ex_31 => ?_)
              replace h := h x_31 ex_31
              refine lv_imul hx hb d_Machine_doSign_251 ?_
              refine lv_topi (fun x_33 ex_33 => ?_)
              replace h := h x_33 ex_33
              refine lv_iload hx hb d_Machine_doSign_252 (lv_at hl 0 rfl) ?_
              refine lv_iadd hx hb d_Machine_doSign_254 ?_
              refine lv_topi (fun x_34 ex_34 => ?_)
              replace h := h x_34 ex_34
              obtain ⟨g_35, h⟩ := h
              refine rp_Machine_marks E hp hS g_35 lk_79 d_Machine_doSign_255 (fun m_36 em_36 H locs hp hS => ?_)
              replace h := h m_36 em_36
              refine lv_iconst (v := 0) hx hb d_Machine_doSign_258 (by decide) ?_
              exact mp_iret E hr hp hS h d_Machine_doSign_259
            · replace h := h.2 g_30
              by_cases g_37 : v2 = 111
              · replace h := h.1 g_37
                refine lv_lookup (x := v2) (off := 202) (tgt := 311) hx hb d_Machine_doSign_109 (by decide) (by rw [g_37]; decide) (by decide) ?_
                refine rr_aload_n hx hb d_Machine_doSign_311 rfl (lv_at hl 1 rfl) ?_
                refine lv_iload_n hx hb d_Machine_doSign_312 rfl (lv_at hl 3 rfl) ?_
                refine lv_iload hx hb d_Machine_doSign_313 (lv_at hl 0 rfl) ?_
                refine lv_iload hx hb d_Machine_doSign_315 (lv_at hl 6 rfl) ?_
                obtain ⟨g_40, h⟩ := h
                refine mc_i hS (mc_runV (As := [.int v2, .int s0, .int v6]) (rest := []) E (c_Machine_doFileSign l G m v0 v2 s0 v6 _ h) wd_Machine_doFileSign ⟨lk_245, lk_246, lk_247⟩ rfl rfl ⟨Nat.le_of_ble_eq_true rfl, Nat.le_of_ble_eq_true rfl⟩ hp hS g_40 (by decide) rfl rfl rfl hl.1 rfl (lv_room (Nat.le_of_ble_eq_true rfl)) d_Machine_doSign_317 ⟨Nat.le_of_ble_eq_true rfl, Nat.le_of_ble_eq_true rfl⟩) (fun r_39 m_38 h H locs hp hS => ?_)
                try dsimp only at h
                exact mp_iret E hr hp hS h d_Machine_doSign_320
              · replace h := h.2 g_37
                by_cases g_41 : v2 = 113
                · replace h := h.1 g_41
                  refine lv_lookup (x := v2) (off := 151) (tgt := 260) hx hb d_Machine_doSign_109 (by decide) (by rw [g_41]; decide) (by decide) ?_
                  refine rr_aload_n hx hb d_Machine_doSign_260 rfl (lv_at hl 2 rfl) ?_
                  refine lv_iconst (v := 1) hx hb d_Machine_doSign_261 (by decide) ?_
                  obtain ⟨g_42, h⟩ := h
                  refine rp_Job_outcome E hp hS g_42 lk_251 d_Machine_doSign_262 (fun m_43 em_43 H locs hp hS => ?_)
                  replace h := h m_43 em_43
                  refine lv_iconst (v := 0) hx hb d_Machine_doSign_265 (by decide) ?_
                  exact mp_iret E hr hp hS h d_Machine_doSign_266
                · replace h := h.2 g_41
                  by_cases g_44 : v2 = 114
                  · replace h := h.1 g_44
                    refine lv_lookup (x := v2) (off := 202) (tgt := 311) hx hb d_Machine_doSign_109 (by decide) (by rw [g_44]; decide) (by decide) ?_
                    refine rr_aload_n hx hb d_Machine_doSign_311 rfl (lv_at hl 1 rfl) ?_
                    refine lv_iload_n hx hb d_Machine_doSign_312 rfl (lv_at hl 3 rfl) ?_
                    refine lv_iload hx hb d_Machine_doSign_313 (lv_at hl 0 rfl) ?_
                    refine lv_iload hx hb d_Machine_doSign_315 (lv_at hl 6 rfl) ?_
                    obtain ⟨g_47, h⟩ := h
                    refine mc_i hS (mc_runV (As := [.int v2, .int s0, .int v6]) (rest := []) E (c_Machine_doFileSign l G m v0 v2 s0 v6 _ h) wd_Machine_doFileSign ⟨lk_245, lk_246, lk_247⟩ rfl rfl ⟨Nat.le_of_ble_eq_true rfl, Nat.le_of_ble_eq_true rfl⟩ hp hS g_47 (by decide) rfl rfl rfl hl.1 rfl (lv_room (Nat.le_of_ble_eq_true rfl)) d_Machine_doSign_317 ⟨Nat.le_of_ble_eq_true rfl, Nat.le_of_ble_eq_true rfl⟩) (fun r_46 m_45 h H locs hp hS => ?_)
                    try dsimp only at h
                    exact mp_iret E hr hp hS h d_Machine_doSign_320
                  · replace h := h.2 g_44
                    by_cases g_48 : v2 = 115
                    · replace h := h.1 g_48
                      refine lv_lookup (x := v2) (off := 129) (tgt := 238) hx hb d_Machine_doSign_109 (by decide) (by rw [g_48]; decide) (by decide) ?_
                      refine rr_aload_n hx hb d_Machine_doSign_238 rfl (lv_at hl 1 rfl) ?_
                      refine rr_aload_n hx hb d_Machine_doSign_239 rfl (lv_at hl 2 rfl) ?_
                      obtain ⟨g_51, h⟩ := h
                      refine mc_i hS (mc_runV (As := [rn v1]) (rest := []) E (c_Machine_showPage l G m v0 v1 _ h) wd_Machine_showPage ⟨lk_252, lk_253, lk_254⟩ rfl rfl ⟨Nat.le_of_ble_eq_true rfl, Nat.le_of_ble_eq_true rfl⟩ hp hS g_51 (by decide) rfl rfl rfl hl.1 rfl (lv_room (Nat.le_of_ble_eq_true rfl)) d_Machine_doSign_240 ⟨Nat.le_of_ble_eq_true rfl, Nat.le_of_ble_eq_true rfl⟩) (fun r_50 m_49 h H locs hp hS => ?_)
                      try dsimp only at h
                      exact mp_iret E hr hp hS h d_Machine_doSign_243
                    · replace h := h.2 g_48
                      by_cases g_52 : v2 = 119
                      · replace h := h.1 g_52
                        refine lv_lookup (x := v2) (off := 202) (tgt := 311) hx hb d_Machine_doSign_109 (by decide) (by rw [g_52]; decide) (by decide) ?_
                        refine rr_aload_n hx hb d_Machine_doSign_311 rfl (lv_at hl 1 rfl) ?_
                        refine lv_iload_n hx hb d_Machine_doSign_312 rfl (lv_at hl 3 rfl) ?_
                        refine lv_iload hx hb d_Machine_doSign_313 (lv_at hl 0 rfl) ?_
                        refine lv_iload hx hb d_Machine_doSign_315 (lv_at hl 6 rfl) ?_
                        obtain ⟨g_55, h⟩ := h
                        refine mc_i hS (mc_runV (As := [.int v2, .int s0, .int v6]) (rest := []) E (c_Machine_doFileSign l G m v0 v2 s0 v6 _ h) wd_Machine_doFileSign ⟨lk_245, lk_246, lk_247⟩ rfl rfl ⟨Nat.le_of_ble_eq_true rfl, Nat.le_of_ble_eq_true rfl⟩ hp hS g_55 (by decide) rfl rfl rfl hl.1 rfl (lv_room (Nat.le_of_ble_eq_true rfl)) d_Machine_doSign_317 ⟨Nat.le_of_ble_eq_true rfl, Nat.le_of_ble_eq_true rfl⟩) (fun r_54 m_53 h H locs hp hS => ?_)
                        try dsimp only at h
                        exact mp_iret E hr hp hS h d_Machine_doSign_320
                      · replace h := h.2 g_52
                        by_cases g_56 : v2 = 123
                        · replace h := h.1 g_56
                          refine lv_lookup (x := v2) (off := 115) (tgt := 224) hx hb d_Machine_doSign_109 (by decide) (by rw [g_56]; decide) (by decide) ?_
                          refine rr_aload_n hx hb d_Machine_doSign_224 rfl (lv_at hl 1 rfl) ?_
                          refine lv_iload_n hx hb d_Machine_doSign_225 rfl (lv_at hl 4 rfl) ?_
                          refine lv_iload hx hb d_Machine_doSign_226 (lv_at hl 0 rfl) ?_
                          obtain ⟨g_59, h⟩ := h
                          refine mc_i hS (mc_runV (As := [.int v3, .int s0]) (rest := []) E (c_Machine_enterLoop l G m v0 v3 s0 _ h) wd_Machine_enterLoop ⟨lk_255, lk_256, lk_257⟩ rfl rfl ⟨Nat.le_of_ble_eq_true rfl, Nat.le_of_ble_eq_true rfl⟩ hp hS g_59 (by decide) rfl rfl rfl hl.1 rfl (lv_room (Nat.le_of_ble_eq_true rfl)) d_Machine_doSign_228 ⟨Nat.le_of_ble_eq_true rfl, Nat.le_of_ble_eq_true rfl⟩) (fun r_58 m_57 h H locs hp hS => ?_)
                          try dsimp only at h
                          exact mp_iret E hr hp hS h d_Machine_doSign_231
                        · replace h := h.2 g_56
                          by_cases g_60 : v2 = 125
                          · replace h := h.1 g_60
                            refine lv_lookup (x := v2) (off := 123) (tgt := 232) hx hb d_Machine_doSign_109 (by decide) (by rw [g_60]; decide) (by decide) ?_
                            refine rr_aload_n hx hb d_Machine_doSign_232 rfl (lv_at hl 1 rfl) ?_
                            refine lv_iload_n hx hb d_Machine_doSign_233 rfl (lv_at hl 4 rfl) ?_
                            obtain ⟨g_63, h⟩ := h
                            refine mc_i hS (mc_runV (As := [.int v3]) (rest := []) E (c_Machine_comeToLoopEnd l G m v0 v3 _ h) wd_Machine_comeToLoopEnd ⟨lk_258, lk_259, lk_260⟩ rfl rfl ⟨Nat.le_of_ble_eq_true rfl, Nat.le_of_ble_eq_true rfl⟩ hp hS g_63 (by decide) rfl rfl rfl hl.1 rfl (lv_room (Nat.le_of_ble_eq_true rfl)) d_Machine_doSign_234 ⟨Nat.le_of_ble_eq_true rfl, Nat.le_of_ble_eq_true rfl⟩) (fun r_62 m_61 h H locs hp hS => ?_)
                            try dsimp only at h
                            exact mp_iret E hr hp hS h d_Machine_doSign_237
                          · replace h := h.2 g_60
                            refine lv_lookup (x := v2) (off := 212) (tgt := 321) hx hb d_Machine_doSign_109 (by decide) (by show Op.lookupswitch.offset [(68, 184), (82, 167), (99, 202), (102, 202), (103, 158), (109, 135), (111, 202), (113, 151), (114, 202), (115, 129), (119, 202), (123, 115), (125, 123)] _ _ = _; rw [lv_osw g_1 (by decide), lv_osw g_9 (by decide), lv_osw g_18 (by decide), lv_osw g_22 (by decide), lv_osw g_26 (by decide), lv_osw g_30 (by decide), lv_osw g_37 (by decide), lv_osw g_41 (by decide), lv_osw g_44 (by decide), lv_osw g_48 (by decide), lv_osw g_52 (by decide), lv_osw g_56 (by decide), lv_osw g_60 (by decide)]; rfl) (by decide) ?_
                            refine rr_aload_n hx hb d_Machine_doSign_321 rfl (lv_at hl 1 rfl) ?_
                            refine lv_iload_n hx hb d_Machine_doSign_322 rfl (lv_at hl 3 rfl) ?_
                            refine lv_iload hx hb d_Machine_doSign_323 (lv_at hl 0 rfl) ?_
                            refine lv_iload hx hb d_Machine_doSign_325 (lv_at hl 6 rfl) ?_
                            obtain ⟨g_66, h⟩ := h
                            refine mc_i hS (mc_runV (As := [.int v2, .int s0, .int v6]) (rest := []) E (c_Machine_doStackSign l G m v0 v2 s0 v6 _ h) wd_Machine_doStackSign ⟨lk_261, lk_262, lk_263⟩ rfl rfl ⟨Nat.le_of_ble_eq_true rfl, Nat.le_of_ble_eq_true rfl⟩ hp hS g_66 (by decide) rfl rfl rfl hl.1 rfl (lv_room (Nat.le_of_ble_eq_true rfl)) d_Machine_doSign_327 ⟨Nat.le_of_ble_eq_true rfl, Nat.le_of_ble_eq_true rfl⟩) (fun r_65 m_64 h H locs hp hS => ?_)
                            try dsimp only at h
                            exact mp_iret E hr hp hS h d_Machine_doSign_330
set_option maxHeartbeats 4000000 in
set_option maxRecDepth 100000 in
theorem t_Machine_doSign_88 {G : Gc} {P : Int32 → Mm → Prop} (E : En G R_Machine b_Machine_doSign 8 p s mt args meth c) (hr : meth.sig.returnType = some .int) (m : Mm) (v0 : Nat) (v1 : Nat) (v2 : Int32) (v3 : Int32) (v4 : Int32) (v5 : Int32) (s0 : Int32) (H : Heap) (locs : List Loc) (ls : Array Slot) (h : wp_Machine_doSign_88 P m v0 v1 v2 v3 v4 v5 s0) (hp : pic G m H) (hS : va_S (fr G) s.heap H locs) (hl : lv_has ls 8 [(0, rn v0), (1, rn v1), (2, .int v2), (3, .int v3), (4, .int v4), (5, .int v5)]) : W p l e rm_Machine_doSign s mt args below meth c H locs 0 0 (MQ below (PoI G P) args s 0 0 (fr G)) (F0 mt 88 ls [.int s0]) := by
  have hx := E.1
  have hb := E.2.1
  unfold wp_Machine_doSign_88 at h
  refine lv_istore (lv' := [(6, .int s0), (0, rn v0), (1, rn v1), (2, .int v2), (3, .int v3), (4, .int v4), (5, .int v5)]) hx hb d_Machine_doSign_88 hl (by decide) rfl (fun ls hl => ?_)
  refine lv_iload hx hb d_Machine_doSign_90 (lv_at hl 5 rfl) ?_
  refine lv_if_le (tgt := 105) hx hb d_Machine_doSign_92 (by decide) (fun g_1 => ?_) (fun g_1 => ?_)
  · replace h := h.1 g_1
    refine lv_iconst (v := 0) hx hb d_Machine_doSign_105 (by decide) ?_
    exact t_Machine_doSign_106 E hr m v0 v1 v2 v3 v5 s0 0 _ _ _ h hp hS (lv_sub hl [1, 2, 3, 4, 6, 0] rfl)
  · replace h := h.2 g_1
    refine rr_aload_n hx hb d_Machine_doSign_95 rfl (lv_at hl 1 rfl) ?_
    obtain ⟨g_3, h⟩ := h
    refine rg_Machine_stack E hp g_3 lk_72 d_Machine_doSign_96 (fun x_2 ex_2 => ?_)
    replace h := h x_2 ex_2
    obtain ⟨g_6, h⟩ := h
    refine mc_i hS (mc_runV (As := []) (rest := []) E (c_Numbers_take l G m x_2 _ h) wd_Numbers_take ⟨lk_264, lk_265, lk_266⟩ rfl rfl ⟨Nat.le_of_ble_eq_true rfl, Nat.le_of_ble_eq_true rfl⟩ hp hS g_6 (by decide) rfl rfl rfl hl.1 rfl (lv_room (Nat.le_of_ble_eq_true rfl)) d_Machine_doSign_99 ⟨Nat.le_of_ble_eq_true rfl, Nat.le_of_ble_eq_true rfl⟩) (fun r_5 m_4 h H locs hp hS => ?_)
    try dsimp only at h
    refine lv_goto (tgt := 106) hx hb d_Machine_doSign_102 (by decide) ?_
    exact t_Machine_doSign_106 E hr m_4 v0 v1 v2 v3 v5 s0 r_5 _ _ _ h hp hS (lv_sub hl [1, 2, 3, 4, 6, 0] rfl)
set_option maxHeartbeats 4000000 in
set_option maxRecDepth 100000 in
theorem t_Machine_doSign_69 {G : Gc} {P : Int32 → Mm → Prop} (E : En G R_Machine b_Machine_doSign 8 p s mt args meth c) (hr : meth.sig.returnType = some .int) (m : Mm) (v0 : Nat) (v1 : Nat) (v2 : Int32) (v3 : Int32) (v4 : Int32) (s0 : Int32) (H : Heap) (locs : List Loc) (ls : Array Slot) (h : wp_Machine_doSign_69 P m v0 v1 v2 v3 v4 s0) (hp : pic G m H) (hS : va_S (fr G) s.heap H locs) (hl : lv_has ls 8 [(0, rn v0), (1, rn v1), (2, .int v2), (3, .int v3), (4, .int v4)]) : W p l e rm_Machine_doSign s mt args below meth c H locs 0 0 (MQ below (PoI G P) args s 0 0 (fr G)) (F0 mt 69 ls [.int s0]) := by
  have hx := E.1
  have hb := E.2.1
  unfold wp_Machine_doSign_69 at h
  refine lv_istore (lv' := [(5, .int s0), (0, rn v0), (1, rn v1), (2, .int v2), (3, .int v3), (4, .int v4)]) hx hb d_Machine_doSign_69 hl (by decide) rfl (fun ls hl => ?_)
  refine lv_iload hx hb d_Machine_doSign_71 (lv_at hl 5 rfl) ?_
  refine lv_iconst (v := 1) hx hb d_Machine_doSign_73 (by decide) ?_
  refine lv_icmp_le (tgt := 87) hx hb d_Machine_doSign_74 (by decide) (fun g_1 => ?_) (fun g_1 => ?_)
  · replace h := h.1 g_1
    refine lv_iconst (v := 0) hx hb d_Machine_doSign_87 (by decide) ?_
    exact t_Machine_doSign_88 E hr m v0 v1 v2 v3 v4 s0 0 _ _ _ h hp hS (lv_sub hl [1, 2, 3, 4, 5, 0] rfl)
  · replace h := h.2 g_1
    refine rr_aload_n hx hb d_Machine_doSign_77 rfl (lv_at hl 1 rfl) ?_
    obtain ⟨g_3, h⟩ := h
    refine rg_Machine_stack E hp g_3 lk_72 d_Machine_doSign_78 (fun x_2 ex_2 => ?_)
    replace h := h x_2 ex_2
    obtain ⟨g_6, h⟩ := h
    refine mc_i hS (mc_runV (As := []) (rest := []) E (c_Numbers_take l G m x_2 _ h) wd_Numbers_take ⟨lk_264, lk_265, lk_266⟩ rfl rfl ⟨Nat.le_of_ble_eq_true rfl, Nat.le_of_ble_eq_true rfl⟩ hp hS g_6 (by decide) rfl rfl rfl hl.1 rfl (lv_room (Nat.le_of_ble_eq_true rfl)) d_Machine_doSign_81 ⟨Nat.le_of_ble_eq_true rfl, Nat.le_of_ble_eq_true rfl⟩) (fun r_5 m_4 h H locs hp hS => ?_)
    try dsimp only at h
    refine lv_goto (tgt := 88) hx hb d_Machine_doSign_84 (by decide) ?_
    exact t_Machine_doSign_88 E hr m_4 v0 v1 v2 v3 v4 s0 r_5 _ _ _ h hp hS (lv_sub hl [1, 2, 3, 4, 5, 0] rfl)
set_option maxHeartbeats 4000000 in
set_option maxRecDepth 100000 in
theorem t_Machine_doSign_24 {G : Gc} {P : Int32 → Mm → Prop} (E : En G R_Machine b_Machine_doSign 8 p s mt args meth c) (hr : meth.sig.returnType = some .int) (m : Mm) (v0 : Nat) (v1 : Nat) (v2 : Int32) (v3 : Int32) (H : Heap) (locs : List Loc) (ls : Array Slot) (h : wp_Machine_doSign_24 P m v0 v1 v2 v3) (hp : pic G m H) (hS : va_S (fr G) s.heap H locs) (hl : lv_has ls 8 [(0, rn v0), (1, rn v1), (2, .int v2), (3, .int v3)]) : W p l e rm_Machine_doSign s mt args below meth c H locs 0 0 (MQ below (PoI G P) args s 0 0 (fr G)) (F0 mt 24 ls []) := by
  have hx := E.1
  have hb := E.2.1
  unfold wp_Machine_doSign_24 at h
  refine lv_iload_n hx hb d_Machine_doSign_24 rfl (lv_at hl 2 rfl) ?_
  refine mc_i hS (mc_runS (As := [.int v2]) (rest := []) E (c_Machine_numbersWanted l G m v2 _ h) wd_Machine_numbersWanted ⟨lk_267, lk_268⟩ rfl rfl ⟨Nat.le_of_ble_eq_true rfl, Nat.le_of_ble_eq_true rfl⟩ hp hS rfl hl.1 rfl (lv_room (Nat.le_of_ble_eq_true rfl)) d_Machine_doSign_25 ⟨Nat.le_of_ble_eq_true rfl, Nat.le_of_ble_eq_true rfl⟩) (fun r_2 m_1 h H locs hp hS => ?_)
  try dsimp only at h
  refine lv_istore (lv' := [(4, .int r_2), (0, rn v0), (1, rn v1), (2, .int v2), (3, .int v3)]) hx hb d_Machine_doSign_28 hl (by decide) rfl (fun ls hl => ?_)
  refine lv_iload hx hb d_Machine_doSign_30 (lv_at hl 0 rfl) ?_
  refine lv_iconst (v := (-1)) hx hb d_Machine_doSign_32 (by decide) ?_
  refine lv_icmp_ne (tgt := 38) hx hb d_Machine_doSign_33 (by decide) (fun g_3 => ?_) (fun g_3 => ?_)
  · replace h := h.2 g_3
    refine rr_aload_n hx hb d_Machine_doSign_38 rfl (lv_at hl 1 rfl) ?_
    obtain ⟨g_5, h⟩ := h
    refine rg_Machine_stack E hp g_5 lk_72 d_Machine_doSign_39 (fun x_4 ex_4 => ?_)
    replace h := h x_4 ex_4
    refine lv_iload hx hb d_Machine_doSign_42 (lv_at hl 0 rfl) ?_
    obtain ⟨g_8, h⟩ := h
    refine mc_i hS (mc_runV (As := [.int r_2]) (rest := []) E (c_Numbers_has l G m_1 x_4 r_2 _ h) wd_Numbers_has ⟨lk_269, lk_270, lk_271⟩ rfl rfl ⟨Nat.le_of_ble_eq_true rfl, Nat.le_of_ble_eq_true rfl⟩ hp hS g_8 (by decide) rfl rfl rfl hl.1 rfl (lv_room (Nat.le_of_ble_eq_true rfl)) d_Machine_doSign_44 ⟨Nat.le_of_ble_eq_true rfl, Nat.le_of_ble_eq_true rfl⟩) (fun r_7 m_6 h H locs hp hS => ?_)
    try dsimp only at h
    refine lv_if_ne (tgt := 52) hx hb d_Machine_doSign_47 (by decide) (fun g_9 => ?_) (fun g_9 => ?_)
    · replace h := h.2 g_9
      refine lv_iload hx hb d_Machine_doSign_52 (lv_at hl 0 rfl) ?_
      refine lv_iconst (v := 2) hx hb d_Machine_doSign_54 (by decide) ?_
      refine lv_icmp_le (tgt := 68) hx hb d_Machine_doSign_55 (by decide) (fun g_10 => ?_) (fun g_10 => ?_)
      · replace h := h.1 g_10
        refine lv_iconst (v := 0) hx hb d_Machine_doSign_68 (by decide) ?_
        exact t_Machine_doSign_69 E hr m_6 v0 v1 v2 v3 r_2 0 _ _ _ h hp hS (lv_sub hl [1, 2, 3, 4, 0] rfl)
      · replace h := h.2 g_10
        refine rr_aload_n hx hb d_Machine_doSign_58 rfl (lv_at hl 1 rfl) ?_
        obtain ⟨g_12, h⟩ := h
        refine rg_Machine_stack E hp g_12 lk_72 d_Machine_doSign_59 (fun x_11 ex_11 => ?_)
        replace h := h x_11 ex_11
        obtain ⟨g_15, h⟩ := h
        refine mc_i hS (mc_runV (As := []) (rest := []) E (c_Numbers_take l G m_6 x_11 _ h) wd_Numbers_take ⟨lk_264, lk_265, lk_266⟩ rfl rfl ⟨Nat.le_of_ble_eq_true rfl, Nat.le_of_ble_eq_true rfl⟩ hp hS g_15 (by decide) rfl rfl rfl hl.1 rfl (lv_room (Nat.le_of_ble_eq_true rfl)) d_Machine_doSign_62 ⟨Nat.le_of_ble_eq_true rfl, Nat.le_of_ble_eq_true rfl⟩) (fun r_14 m_13 h H locs hp hS => ?_)
        try dsimp only at h
        refine lv_goto (tgt := 69) hx hb d_Machine_doSign_65 (by decide) ?_
        exact t_Machine_doSign_69 E hr m_13 v0 v1 v2 v3 r_2 r_14 _ _ _ h hp hS (lv_sub hl [1, 2, 3, 4, 0] rfl)
    · replace h := h.1 g_9
      refine lv_iconst (v := 5) hx hb d_Machine_doSign_50 (by decide) ?_
      exact mp_iret E hr hp hS h d_Machine_doSign_51
  · replace h := h.1 g_3
    refine lv_iconst (v := 1) hx hb d_Machine_doSign_36 (by decide) ?_
    exact mp_iret E hr hp hS h d_Machine_doSign_37
set_option maxHeartbeats 4000000 in
set_option maxRecDepth 100000 in
theorem t_Machine_doSign_0 {G : Gc} {P : Int32 → Mm → Prop} (E : En G R_Machine b_Machine_doSign 8 p s mt args meth c) (hr : meth.sig.returnType = some .int) (m : Mm) (v0 : Nat) (v1 : Nat) (v2 : Int32) (v3 : Int32) (H : Heap) (locs : List Loc) (ls : Array Slot) (h : wp_Machine_doSign_0 P m v0 v1 v2 v3) (hp : pic G m H) (hS : va_S (fr G) s.heap H locs) (hl : lv_has ls 8 [(0, rn v0), (1, rn v1), (2, .int v2), (3, .int v3)]) : W p l e rm_Machine_doSign s mt args below meth c H locs 0 0 (MQ below (PoI G P) args s 0 0 (fr G)) (F0 mt 0 ls []) := by
  have hx := E.1
  have hb := E.2.1
  unfold wp_Machine_doSign_0 at h
  refine lv_iload_n hx hb d_Machine_doSign_0 rfl (lv_at hl 2 rfl) ?_
  refine lv_bipush (v := 48) hx hb d_Machine_doSign_1 (by decide) ?_
  refine lv_icmp_lt (tgt := 24) hx hb d_Machine_doSign_3 (by decide) (fun g_1 => ?_) (fun g_1 => ?_)
  · replace h := h.1 g_1
    exact t_Machine_doSign_24 E hr m v0 v1 v2 v3 _ _ _ h hp hS (lv_sub hl [0, 1, 2, 3] rfl)
  · replace h := h.2 g_1
    refine lv_iload_n hx hb d_Machine_doSign_6 rfl (lv_at hl 2 rfl) ?_
    refine lv_bipush (v := 57) hx hb d_Machine_doSign_7 (by decide) ?_
    refine lv_icmp_gt (tgt := 24) hx hb d_Machine_doSign_9 (by decide) (fun g_2 => ?_) (fun g_2 => ?_)
    · replace h := h.1 g_2
      exact t_Machine_doSign_24 E hr m v0 v1 v2 v3 _ _ _ h hp hS (lv_sub hl [0, 1, 2, 3] rfl)
    · replace h := h.2 g_2
      refine rr_aload_n hx hb d_Machine_doSign_12 rfl (lv_at hl 0 rfl) ?_
      obtain ⟨g_4, h⟩ := h
      refine rg_Machine_stack E hp g_4 lk_72 d_Machine_doSign_13 (fun x_3 ex_3 => ?_)
      replace h := h x_3 ex_3
      refine lv_iload_n hx hb d_Machine_doSign_16 rfl (lv_at hl 2 rfl) ?_
      refine lv_bipush (v := 48) hx hb d_Machine_doSign_17 (by decide) ?_
      refine lv_isub hx hb d_Machine_doSign_19 ?_
      refine lv_topi (fun x_5 ex_5 => ?_)
      replace h := h x_5 ex_5
      obtain ⟨g_8, h⟩ := h
      refine mc_i hS (mc_runV (As := [.int x_5]) (rest := []) E (c_Numbers_lay l G m x_3 x_5 _ h) wd_Numbers_lay ⟨lk_168, lk_169, lk_170⟩ rfl rfl ⟨Nat.le_of_ble_eq_true rfl, Nat.le_of_ble_eq_true rfl⟩ hp hS g_8 (by decide) rfl rfl rfl hl.1 rfl (lv_room (Nat.le_of_ble_eq_true rfl)) d_Machine_doSign_20 ⟨Nat.le_of_ble_eq_true rfl, Nat.le_of_ble_eq_true rfl⟩) (fun r_7 m_6 h H locs hp hS => ?_)
      try dsimp only at h
      exact mp_iret E hr hp hS h d_Machine_doSign_23
set_option maxHeartbeats 4000000 in
set_option maxRecDepth 100000 in
theorem c_Machine_doSign (l : Launch) (G : Gc) (m : Mm) (v0 : Nat) (v1 : Nat) (v2 : Int32) (v3 : Int32) (P : Int32 → Mm → Prop) (h : wp_Machine_doSign m v0 v1 v2 v3 P) : Met l y_Machine_doSign (Cond.code y_Machine_doSign b_Machine_doSign 8 (some .int) :: lw_good) rm_Machine_doSign (Pre9 G m [rn v0, rn v1, .int v2, .int v3]) (PoI G P) 0 0 (fr G) := by
  refine Met.ofW (cc := b_Machine_doSign) (maxL := 8) (ret := (some .int)) (by decide) rfl ?_
  intro p e s mt args below meth c s₁ B hml hv
  obtain ⟨rfl, hp, hC⟩ := hv
  have hts := atoms_spec (ws := Cond.code y_Machine_doSign b_Machine_doSign 8 (some .int) :: lw_good) B.pre
  have E : En G R_Machine b_Machine_doSign 8 p s mt _ meth c := ⟨B.exec, B.bytes, hml, findClass_of_methodNamed B.named, fun w hw => hts w (List.mem_cons_of_mem _ hw), hC, B.notSynchronized⟩
  have hr := B.returns
  have hl := lv_entry [rn v0, rn v1, .int v2, .int v3] (n := 8) (by simp [lg_sl, rn_cat, cat_int, cat_long, cat_ref, cat_null])
  rw [lg_entry_eq]
  generalize (lg_sl [rn v0, rn v1, .int v2, .int v3] ++ List.replicate (8 - (lg_sl [rn v0, rn v1, .int v2, .int v3]).length) Slot.unset).toArray = ls at hl ⊢
  have hl : lv_has ls 8 [(0, rn v0), (1, rn v1), (2, .int v2), (3, .int v3)] := by simpa [lv_args, rn_cat, cat_int, cat_long, cat_ref, cat_null] using hl
  exact t_Machine_doSign_0 E hr m v0 v1 v2 v3 _ _ _ h hp va_S.rf (lv_sub hl [0, 1, 2, 3] rfl)
abbrev rm_Job_fail : Room := { frames := 0, cells := 0, slots := 0, locals := 0 }
set_option maxHeartbeats 4000000 in
set_option maxRecDepth 100000 in
theorem t_Job_fail_0 {G : Gc} {P : Mm → Prop} (E : En G R_Job b_Job_fail 3 p s mt args meth c) (hr : meth.sig.returnType = none) (m : Mm) (v0 : Nat) (v1 : Int32) (v2 : Int32) (H : Heap) (locs : List Loc) (ls : Array Slot) (h : wp_Job_fail_0 P m v0 v1 v2) (hp : pic G m H) (hS : va_S (fr G) s.heap H locs) (hl : lv_has ls 3 [(0, rn v0), (1, .int v1), (2, .int v2)]) : W p l e rm_Job_fail s mt args below meth c H locs 0 0 (MQ below (PoV G P) args s 0 0 (fr G)) (F0 mt 0 ls []) := by
  have hx := E.1
  have hb := E.2.1
  unfold wp_Job_fail_0 at h
  refine rr_aload_n hx hb d_Job_fail_0 rfl (lv_at hl 0 rfl) ?_
  refine lv_iconst (v := 2) hx hb d_Job_fail_1 (by decide) ?_
  obtain ⟨g_1, h⟩ := h
  refine rp_Job_outcome E hp hS g_1 lk_95 d_Job_fail_2 (fun m_2 em_2 H locs hp hS => ?_)
  replace h := h m_2 em_2
  refine rr_aload_n hx hb d_Job_fail_5 rfl (lv_at hl 0 rfl) ?_
  refine lv_iload_n hx hb d_Job_fail_6 rfl (lv_at hl 1 rfl) ?_
  obtain ⟨g_3, h⟩ := h
  refine rp_Job_error E hp hS g_3 lk_96 d_Job_fail_7 (fun m_4 em_4 H locs hp hS => ?_)
  replace h := h m_4 em_4
  refine rr_aload_n hx hb d_Job_fail_10 rfl (lv_at hl 0 rfl) ?_
  refine lv_iload_n hx hb d_Job_fail_11 rfl (lv_at hl 2 rfl) ?_
  obtain ⟨g_5, h⟩ := h
  refine rp_Job_errorPlace E hp hS g_5 lk_97 d_Job_fail_12 (fun m_6 em_6 H locs hp hS => ?_)
  replace h := h m_6 em_6
  refine rr_aload_n hx hb d_Job_fail_15 rfl (lv_at hl 0 rfl) ?_
  refine rr_aload_n hx hb d_Job_fail_16 rfl (lv_at hl 0 rfl) ?_
  obtain ⟨g_8, h⟩ := h
  refine rg_Job_length E hp g_8 lk_93 d_Job_fail_17 (fun x_7 ex_7 => ?_)
  replace h := h x_7 ex_7
  refine lv_iload_n hx hb d_Job_fail_20 rfl (lv_at hl 2 rfl) ?_
  refine lv_isub hx hb d_Job_fail_21 ?_
  refine lv_topi (fun x_9 ex_9 => ?_)
  replace h := h x_9 ex_9
  refine lv_iconst (v := 1) hx hb d_Job_fail_22 (by decide) ?_
  refine lv_isub hx hb d_Job_fail_23 ?_
  refine lv_topi (fun x_10 ex_10 => ?_)
  replace h := h x_10 ex_10
  obtain ⟨g_11, h⟩ := h
  refine rp_Job_flushed E hp hS g_11 lk_99 d_Job_fail_24 (fun m_12 em_12 H locs hp hS => ?_)
  replace h := h m_12 em_12
  exact mp_vret E hr hp hS h d_Job_fail_27
set_option maxHeartbeats 4000000 in
set_option maxRecDepth 100000 in
theorem c_Job_fail (l : Launch) (G : Gc) (m : Mm) (v0 : Nat) (v1 : Int32) (v2 : Int32) (P : Mm → Prop) (h : wp_Job_fail m v0 v1 v2 P) : Met l y_Job_fail (Cond.code y_Job_fail b_Job_fail 3 none :: lw_good) rm_Job_fail (Pre9 G m [rn v0, .int v1, .int v2]) (PoV G P) 0 0 (fr G) := by
  refine Met.ofW (cc := b_Job_fail) (maxL := 3) (ret := none) (by decide) rfl ?_
  intro p e s mt args below meth c s₁ B hml hv
  obtain ⟨rfl, hp, hC⟩ := hv
  have hts := atoms_spec (ws := Cond.code y_Job_fail b_Job_fail 3 none :: lw_good) B.pre
  have E : En G R_Job b_Job_fail 3 p s mt _ meth c := ⟨B.exec, B.bytes, hml, findClass_of_methodNamed B.named, fun w hw => hts w (List.mem_cons_of_mem _ hw), hC, B.notSynchronized⟩
  have hr := B.returns
  have hl := lv_entry [rn v0, .int v1, .int v2] (n := 3) (by simp [lg_sl, rn_cat, cat_int, cat_long, cat_ref, cat_null])
  rw [lg_entry_eq]
  generalize (lg_sl [rn v0, .int v1, .int v2] ++ List.replicate (3 - (lg_sl [rn v0, .int v1, .int v2]).length) Slot.unset).toArray = ls at hl ⊢
  have hl : lv_has ls 3 [(0, rn v0), (1, .int v1), (2, .int v2)] := by simpa [lv_args, rn_cat, cat_int, cat_long, cat_ref, cat_null] using hl
  exact t_Job_fail_0 E hr m v0 v1 v2 _ _ _ h hp va_S.rf (lv_sub hl [0, 1, 2] rfl)
abbrev rm_Device_putBack : Room := { frames := 1, cells := 0, slots := 0, locals := 64 }
set_option maxHeartbeats 4000000 in
set_option maxRecDepth 100000 in
theorem t_Device_putBack_0 {G : Gc} {P : Mm → Prop} (E : En G R_Device b_Device_putBack 1 p s mt args meth c) (hr : meth.sig.returnType = none) (m : Mm) (v0 : Nat) (H : Heap) (locs : List Loc) (ls : Array Slot) (h : wp_Device_putBack_0 P m v0) (hp : pic G m H) (hS : va_S (fr G) s.heap H locs) (hl : lv_has ls 1 [(0, rn v0)]) : W p l e rm_Device_putBack s mt args below meth c H locs 0 0 (MQ below (PoV G P) args s 0 0 (fr G)) (F0 mt 0 ls []) := by
  have hx := E.1
  have hb := E.2.1
  unfold wp_Device_putBack_0 at h
  refine rr_aload_n hx hb d_Device_putBack_0 rfl (lv_at hl 0 rfl) ?_
  obtain ⟨g_2, h⟩ := h
  refine rg_Device_kept E hp g_2 lk_4 d_Device_putBack_1 (fun x_1 ex_1 => ?_)
  replace h := h x_1 ex_1
  refine lv_iconst (v := 0) hx hb d_Device_putBack_4 (by decide) ?_
  refine rr_aload_n hx hb d_Device_putBack_5 rfl (lv_at hl 0 rfl) ?_
  obtain ⟨g_4, h⟩ := h
  refine rg_Device_settings E hp g_4 lk_0 d_Device_putBack_6 (fun x_3 ex_3 => ?_)
  replace h := h x_3 ex_3
  refine lv_iconst (v := 0) hx hb d_Device_putBack_9 (by decide) ?_
  refine lv_iconst (v := 4) hx hb d_Device_putBack_10 (by decide) ?_
  obtain ⟨g_6, g_7, g_8, g_9, g_10, g_11, g_12, h⟩ := h
  refine mp_copyi (t0 := 1) E hp hS hl.1 ⟨lk_109, lk_110, lk_111, lk_112⟩ g_6 (by decide) rfl g_7 (by decide) rfl cc_14 rfl rfl g_8 g_9 g_10 g_11 g_12 (by decide) (by simp [rn_cat, cat_int, cat_long, cat_ref, cat_null, nativeFrameWords, rm_Device_putBack]) d_Device_putBack_11 (fun m_5 em_5 H locs hp hS => ?_)
  replace h := h m_5 em_5
  exact mp_vret E hr hp hS h d_Device_putBack_14
set_option maxHeartbeats 4000000 in
set_option maxRecDepth 100000 in
theorem c_Device_putBack (l : Launch) (G : Gc) (m : Mm) (v0 : Nat) (P : Mm → Prop) (h : wp_Device_putBack m v0 P) : Met l y_Device_putBack (Cond.code y_Device_putBack b_Device_putBack 1 none :: lw_good) rm_Device_putBack (Pre9 G m [rn v0]) (PoV G P) 0 0 (fr G) := by
  refine Met.ofW (cc := b_Device_putBack) (maxL := 1) (ret := none) (by decide) rfl ?_
  intro p e s mt args below meth c s₁ B hml hv
  obtain ⟨rfl, hp, hC⟩ := hv
  have hts := atoms_spec (ws := Cond.code y_Device_putBack b_Device_putBack 1 none :: lw_good) B.pre
  have E : En G R_Device b_Device_putBack 1 p s mt _ meth c := ⟨B.exec, B.bytes, hml, findClass_of_methodNamed B.named, fun w hw => hts w (List.mem_cons_of_mem _ hw), hC, B.notSynchronized⟩
  have hr := B.returns
  have hl := lv_entry [rn v0] (n := 1) (by simp [lg_sl, rn_cat, cat_int, cat_long, cat_ref, cat_null])
  rw [lg_entry_eq]
  generalize (lg_sl [rn v0] ++ List.replicate (1 - (lg_sl [rn v0]).length) Slot.unset).toArray = ls at hl ⊢
  have hl : lv_has ls 1 [(0, rn v0)] := by simpa [lv_args, rn_cat, cat_int, cat_long, cat_ref, cat_null] using hl
  exact t_Device_putBack_0 E hr m v0 _ _ _ h hp va_S.rf (lv_sub hl [0] rfl)
abbrev rm_Resources_putBack : Room := { frames := 1, cells := 0, slots := 0, locals := 64 }
set_option maxHeartbeats 4000000 in
set_option maxRecDepth 100000 in
theorem t_Resources_putBack_0 {G : Gc} {P : Mm → Prop} (E : En G R_Resources b_Resources_putBack 1 p s mt args meth c) (hr : meth.sig.returnType = none) (m : Mm) (v0 : Nat) (H : Heap) (locs : List Loc) (ls : Array Slot) (h : wp_Resources_putBack_0 P m v0) (hp : pic G m H) (hS : va_S (fr G) s.heap H locs) (hl : lv_has ls 1 [(0, rn v0)]) : W p l e rm_Resources_putBack s mt args below meth c H locs 0 0 (MQ below (PoV G P) args s 0 0 (fr G)) (F0 mt 0 ls []) := by
  have hx := E.1
  have hb := E.2.1
  unfold wp_Resources_putBack_0 at h
  refine rr_aload_n hx hb d_Resources_putBack_0 rfl (lv_at hl 0 rfl) ?_
  obtain ⟨g_2, h⟩ := h
  refine rg_Resources_kept E hp g_2 lk_7 d_Resources_putBack_1 (fun x_1 ex_1 => ?_)
  replace h := h x_1 ex_1
  refine lv_iconst (v := 0) hx hb d_Resources_putBack_4 (by decide) ?_
  refine rr_aload_n hx hb d_Resources_putBack_5 rfl (lv_at hl 0 rfl) ?_
  obtain ⟨g_4, h⟩ := h
  refine rg_Resources_values E hp g_4 lk_5 d_Resources_putBack_6 (fun x_3 ex_3 => ?_)
  replace h := h x_3 ex_3
  refine lv_iconst (v := 0) hx hb d_Resources_putBack_9 (by decide) ?_
  refine rr_aload_n hx hb d_Resources_putBack_10 rfl (lv_at hl 0 rfl) ?_
  obtain ⟨g_6, h⟩ := h
  refine rg_Resources_values E hp g_6 lk_5 d_Resources_putBack_11 (fun x_5 ex_5 => ?_)
  replace h := h x_5 ex_5
  obtain ⟨g_8, h⟩ := h
  refine mp_alen (t0 := 1) E hp g_8 (by decide) rfl rfl d_Resources_putBack_14 (fun x_7 ex_7 => ?_)
  replace h := h x_7 ex_7
  obtain ⟨g_10, g_11, g_12, g_13, g_14, g_15, g_16, h⟩ := h
  refine mp_copyi (t0 := 1) E hp hS hl.1 ⟨lk_113, lk_110, lk_111, lk_112⟩ g_10 (by decide) rfl g_11 (by decide) rfl cc_16 rfl rfl g_12 g_13 g_14 g_15 g_16 (by decide) (by simp [rn_cat, cat_int, cat_long, cat_ref, cat_null, nativeFrameWords, rm_Resources_putBack]) d_Resources_putBack_15 (fun m_9 em_9 H locs hp hS => ?_)
  replace h := h m_9 em_9
  exact mp_vret E hr hp hS h d_Resources_putBack_18
set_option maxHeartbeats 4000000 in
set_option maxRecDepth 100000 in
theorem c_Resources_putBack (l : Launch) (G : Gc) (m : Mm) (v0 : Nat) (P : Mm → Prop) (h : wp_Resources_putBack m v0 P) : Met l y_Resources_putBack (Cond.code y_Resources_putBack b_Resources_putBack 1 none :: lw_good) rm_Resources_putBack (Pre9 G m [rn v0]) (PoV G P) 0 0 (fr G) := by
  refine Met.ofW (cc := b_Resources_putBack) (maxL := 1) (ret := none) (by decide) rfl ?_
  intro p e s mt args below meth c s₁ B hml hv
  obtain ⟨rfl, hp, hC⟩ := hv
  have hts := atoms_spec (ws := Cond.code y_Resources_putBack b_Resources_putBack 1 none :: lw_good) B.pre
  have E : En G R_Resources b_Resources_putBack 1 p s mt _ meth c := ⟨B.exec, B.bytes, hml, findClass_of_methodNamed B.named, fun w hw => hts w (List.mem_cons_of_mem _ hw), hC, B.notSynchronized⟩
  have hr := B.returns
  have hl := lv_entry [rn v0] (n := 1) (by simp [lg_sl, rn_cat, cat_int, cat_long, cat_ref, cat_null])
  rw [lg_entry_eq]
  generalize (lg_sl [rn v0] ++ List.replicate (1 - (lg_sl [rn v0]).length) Slot.unset).toArray = ls at hl ⊢
  have hl : lv_has ls 1 [(0, rn v0)] := by simpa [lv_args, rn_cat, cat_int, cat_long, cat_ref, cat_null] using hl
  exact t_Resources_putBack_0 E hr m v0 _ _ _ h hp va_S.rf (lv_sub hl [0] rfl)
abbrev rm_Handle_putBackFilters : Room := { frames := 0, cells := 0, slots := 0, locals := 0 }
set_option maxHeartbeats 4000000 in
set_option maxRecDepth 100000 in
theorem t_Handle_putBackFilters_0 {G : Gc} {P : Mm → Prop} (E : En G R_Handle b_Handle_putBackFilters 1 p s mt args meth c) (hr : meth.sig.returnType = none) (m : Mm) (v0 : Nat) (H : Heap) (locs : List Loc) (ls : Array Slot) (h : wp_Handle_putBackFilters_0 P m v0) (hp : pic G m H) (hS : va_S (fr G) s.heap H locs) (hl : lv_has ls 1 [(0, rn v0)]) : W p l e rm_Handle_putBackFilters s mt args below meth c H locs 0 0 (MQ below (PoV G P) args s 0 0 (fr G)) (F0 mt 0 ls []) := by
  have hx := E.1
  have hb := E.2.1
  unfold wp_Handle_putBackFilters_0 at h
  refine rr_aload_n hx hb d_Handle_putBackFilters_0 rfl (lv_at hl 0 rfl) ?_
  refine rr_aload_n hx hb d_Handle_putBackFilters_1 rfl (lv_at hl 0 rfl) ?_
  obtain ⟨g_2, h⟩ := h
  refine rg_Handle_keptFilterCount E hp g_2 lk_21 d_Handle_putBackFilters_2 (fun x_1 ex_1 => ?_)
  replace h := h x_1 ex_1
  obtain ⟨g_3, h⟩ := h
  refine rp_Handle_filterCount E hp hS g_3 lk_20 d_Handle_putBackFilters_5 (fun m_4 em_4 H locs hp hS => ?_)
  replace h := h m_4 em_4
  exact mp_vret E hr hp hS h d_Handle_putBackFilters_8
set_option maxHeartbeats 4000000 in
set_option maxRecDepth 100000 in
theorem c_Handle_putBackFilters (l : Launch) (G : Gc) (m : Mm) (v0 : Nat) (P : Mm → Prop) (h : wp_Handle_putBackFilters m v0 P) : Met l y_Handle_putBackFilters (Cond.code y_Handle_putBackFilters b_Handle_putBackFilters 1 none :: lw_good) rm_Handle_putBackFilters (Pre9 G m [rn v0]) (PoV G P) 0 0 (fr G) := by
  refine Met.ofW (cc := b_Handle_putBackFilters) (maxL := 1) (ret := none) (by decide) rfl ?_
  intro p e s mt args below meth c s₁ B hml hv
  obtain ⟨rfl, hp, hC⟩ := hv
  have hts := atoms_spec (ws := Cond.code y_Handle_putBackFilters b_Handle_putBackFilters 1 none :: lw_good) B.pre
  have E : En G R_Handle b_Handle_putBackFilters 1 p s mt _ meth c := ⟨B.exec, B.bytes, hml, findClass_of_methodNamed B.named, fun w hw => hts w (List.mem_cons_of_mem _ hw), hC, B.notSynchronized⟩
  have hr := B.returns
  have hl := lv_entry [rn v0] (n := 1) (by simp [lg_sl, rn_cat, cat_int, cat_long, cat_ref, cat_null])
  rw [lg_entry_eq]
  generalize (lg_sl [rn v0] ++ List.replicate (1 - (lg_sl [rn v0]).length) Slot.unset).toArray = ls at hl ⊢
  have hl : lv_has ls 1 [(0, rn v0)] := by simpa [lv_args, rn_cat, cat_int, cat_long, cat_ref, cat_null] using hl
  exact t_Handle_putBackFilters_0 E hr m v0 _ _ _ h hp va_S.rf (lv_sub hl [0] rfl)
abbrev rm_FileTree_putBack : Room := { frames := 1, cells := 0, slots := 0, locals := 21 }
set_option maxHeartbeats 4000000 in
set_option maxRecDepth 100000 in
theorem t_FileTree_putBack_40 {G : Gc} {P : Mm → Prop} (E : En G R_FileTree b_FileTree_putBack 3 p s mt args meth c) (hr : meth.sig.returnType = none) {K2 : Mm → Nat → Int32 → Prop} (hK2 : ∀ (m : Mm) (v0 : Nat) (v1 : Int32) (H : Heap) (locs : List Loc) (ls : Array Slot), K2 m v0 v1 → pic G m H → va_S (fr G) s.heap H locs → lv_has ls 3 [(0, rn v0), (1, .int v1)] → W p l e rm_FileTree_putBack s mt args below meth c H locs 0 0 (MQ below (PoV G P) args s 0 0 (fr G)) (F0 mt 2 ls [])) (m : Mm) (v0 : Nat) (v1 : Int32) (H : Heap) (locs : List Loc) (ls : Array Slot) (h : wp_FileTree_putBack_40 K2 P m v0 v1) (hp : pic G m H) (hS : va_S (fr G) s.heap H locs) (hl : lv_has ls 3 [(0, rn v0), (1, .int v1)]) : W p l e rm_FileTree_putBack s mt args below meth c H locs 0 0 (MQ below (PoV G P) args s 0 0 (fr G)) (F0 mt 40 ls []) := by
  have hx := E.1
  have hb := E.2.1
  unfold wp_FileTree_putBack_40 at h
  obtain ⟨x_1, ex_1⟩ : ∃ y : Int32, y = v1 + 1 := ⟨_, rfl⟩
  replace h := h x_1 ex_1
  refine lv_iinc (v := x_1) (lv' := [(1, .int x_1), (0, rn v0)]) hx hb d_FileTree_putBack_40 hl (k := 1) rfl (by rw [ex_1]; rfl) (by decide) (by simp [rn_cat]) (fun ls hl => ?_)
  refine lv_goto (tgt := 2) hx hb d_FileTree_putBack_43 (by decide) ?_
  exact hK2 m v0 x_1 _ _ _ h hp hS (lv_sub hl [1, 0] rfl)
set_option maxHeartbeats 4000000 in
set_option maxRecDepth 100000 in
theorem t_FileTree_putBack_32 {G : Gc} {P : Mm → Prop} (E : En G R_FileTree b_FileTree_putBack 3 p s mt args meth c) (hr : meth.sig.returnType = none) {K2 : Mm → Nat → Int32 → Prop} (hK2 : ∀ (m : Mm) (v0 : Nat) (v1 : Int32) (H : Heap) (locs : List Loc) (ls : Array Slot), K2 m v0 v1 → pic G m H → va_S (fr G) s.heap H locs → lv_has ls 3 [(0, rn v0), (1, .int v1)] → W p l e rm_FileTree_putBack s mt args below meth c H locs 0 0 (MQ below (PoV G P) args s 0 0 (fr G)) (F0 mt 2 ls [])) (m : Mm) (v0 : Nat) (v1 : Int32) (v2 : Nat) (H : Heap) (locs : List Loc) (ls : Array Slot) (h : wp_FileTree_putBack_32 K2 P m v0 v1 v2) (hp : pic G m H) (hS : va_S (fr G) s.heap H locs) (hl : lv_has ls 3 [(0, rn v0), (1, .int v1), (2, rn v2)]) : W p l e rm_FileTree_putBack s mt args below meth c H locs 0 0 (MQ below (PoV G P) args s 0 0 (fr G)) (F0 mt 32 ls []) := by
  have hx := E.1
  have hb := E.2.1
  unfold wp_FileTree_putBack_32 at h
  refine rr_aload_n hx hb d_FileTree_putBack_32 rfl (lv_at hl 2 rfl) ?_
  refine rr_ifnull (tgt := 40) hx hb d_FileTree_putBack_33 (by decide) (fun g_1 => ?_) (fun g_1 => ?_)
  · replace h := h.1 g_1
    exact t_FileTree_putBack_40 E hr hK2 m v0 v1 _ _ _ h hp hS (lv_sub hl [0, 1] rfl)
  · replace h := h.2 g_1
    refine rr_aload_n hx hb d_FileTree_putBack_36 rfl (lv_at hl 2 rfl) ?_
    obtain ⟨g_4, h⟩ := h
    refine mc_v hS (mc_runV (As := []) (rest := []) E (c_Handle_putBackFilters l G m v2 _ h) wd_Handle_putBackFilters ⟨lk_272, lk_273, lk_274⟩ rfl rfl ⟨Nat.le_of_ble_eq_true rfl, Nat.le_of_ble_eq_true rfl⟩ hp hS g_4 (by decide) rfl rfl rfl hl.1 rfl (lv_room (Nat.le_of_ble_eq_true rfl)) d_FileTree_putBack_37 ⟨Nat.le_of_ble_eq_true rfl, Nat.le_of_ble_eq_true rfl⟩) (fun m_2 h H locs hp hS => ?_)
    try dsimp only at h
    exact t_FileTree_putBack_40 E hr hK2 m_2 v0 v1 _ _ _ h hp hS (lv_sub hl [0, 1] rfl)
set_option maxHeartbeats 4000000 in
set_option maxRecDepth 100000 in
theorem t_FileTree_putBack_2 {G : Gc} {P : Mm → Prop} (E : En G R_FileTree b_FileTree_putBack 3 p s mt args meth c) (hr : meth.sig.returnType = none) : ∀ (n : Nat) (m : Mm) (v0 : Nat) (v1 : Int32) (H : Heap) (locs : List Loc) (ls : Array Slot) (_ : wp_FileTree_putBack_2 P n m v0 v1) (_ : pic G m H) (_ : va_S (fr G) s.heap H locs) (_ : lv_has ls 3 [(0, rn v0), (1, .int v1)]), W p l e rm_FileTree_putBack s mt args below meth c H locs 0 0 (MQ below (PoV G P) args s 0 0 (fr G)) (F0 mt 2 ls []) := by
  intro n
  induction n with
  | zero => intro m v0 v1 H locs ls h hp hS hl; exact h.elim
  | succ n ih =>
    intro m v0 v1 H locs ls h hp hS hl
    have hx := E.1
    have hb := E.2.1
    unfold wp_FileTree_putBack_2 at h
    refine lv_iload_n hx hb d_FileTree_putBack_2 rfl (lv_at hl 1 rfl) ?_
    refine lv_bipush (v := 7) hx hb d_FileTree_putBack_3 (by decide) ?_
    refine lv_icmp_gt (tgt := 46) hx hb d_FileTree_putBack_5 (by decide) (fun g_1 => ?_) (fun g_1 => ?_)
    · replace h := h.1 g_1
      exact mp_vret E hr hp hS h d_FileTree_putBack_46
    · replace h := h.2 g_1
      refine rr_aload_n hx hb d_FileTree_putBack_8 rfl (lv_at hl 0 rfl) ?_
      refine lv_iload_n hx hb d_FileTree_putBack_9 rfl (lv_at hl 1 rfl) ?_
      obtain ⟨g_4, h⟩ := h
      refine mc_r hS (mc_runV (As := [.int v1]) (rest := []) E (c_FileTree_handleOrNull l G m v0 v1 _ h) wd_FileTree_handleOrNull ⟨lk_114, lk_115, lk_116⟩ rfl rfl ⟨Nat.le_of_ble_eq_true rfl, Nat.le_of_ble_eq_true rfl⟩ hp hS g_4 (by decide) rfl rfl rfl hl.1 rfl (lv_room (Nat.le_of_ble_eq_true rfl)) d_FileTree_putBack_10 ⟨Nat.le_of_ble_eq_true rfl, Nat.le_of_ble_eq_true rfl⟩) (fun r_3 m_2 h H locs hp hS => ?_)
      try dsimp only at h
      refine rr_astore_n (lv' := [(2, rn r_3), (0, rn v0), (1, .int v1)]) hx hb d_FileTree_putBack_13 rfl hl (by decide) rfl (fun ls hl => ?_)
      refine rr_aload_n hx hb d_FileTree_putBack_14 rfl (lv_at hl 0 rfl) ?_
      refine rr_ifnull (tgt := 32) hx hb d_FileTree_putBack_15 (by decide) (fun g_5 => ?_) (fun g_5 => ?_)
      · replace h := h.1 g_5
        exact t_FileTree_putBack_32 E hr ih m_2 v0 v1 r_3 _ _ _ h hp hS (lv_sub hl [1, 2, 0] rfl)
      · replace h := h.2 g_5
        refine rr_aload_n hx hb d_FileTree_putBack_18 rfl (lv_at hl 0 rfl) ?_
        obtain ⟨g_7, h⟩ := h
        refine rg_Handle_isOfJob E hp g_7 lk_189 d_FileTree_putBack_19 (fun x_6 ex_6 => ?_)
        replace h := h x_6 ex_6
        refine lv_if_eq (tgt := 32) hx hb d_FileTree_putBack_22 (by decide) (fun g_8 => ?_) (fun g_8 => ?_)
        · replace h := h.1 g_8
          exact t_FileTree_putBack_32 E hr ih m_2 v0 v1 r_3 _ _ _ h hp hS (lv_sub hl [1, 2, 0] rfl)
        · replace h := h.2 g_8
          refine rr_aload_n hx hb d_FileTree_putBack_25 rfl (lv_at hl 0 rfl) ?_
          obtain ⟨g_11, h⟩ := h
          refine mc_v hS (mc_runV (As := []) (rest := []) E (c_Handle_detach l G m_2 r_3 _ h) wd_Handle_detach ⟨lk_190, lk_25, lk_26⟩ rfl rfl ⟨Nat.le_of_ble_eq_true rfl, Nat.le_of_ble_eq_true rfl⟩ hp hS g_11 (by decide) rfl rfl rfl hl.1 rfl (lv_room (Nat.le_of_ble_eq_true rfl)) d_FileTree_putBack_26 ⟨Nat.le_of_ble_eq_true rfl, Nat.le_of_ble_eq_true rfl⟩) (fun m_9 h H locs hp hS => ?_)
          try dsimp only at h
          refine lv_goto (tgt := 40) hx hb d_FileTree_putBack_29 (by decide) ?_
          exact t_FileTree_putBack_40 E hr ih m_9 v0 v1 _ _ _ h hp hS (lv_sub hl [1, 2] rfl)
set_option maxHeartbeats 4000000 in
set_option maxRecDepth 100000 in
theorem t_FileTree_putBack_0 {G : Gc} {P : Mm → Prop} (E : En G R_FileTree b_FileTree_putBack 3 p s mt args meth c) (hr : meth.sig.returnType = none) (m : Mm) (v0 : Nat) (H : Heap) (locs : List Loc) (ls : Array Slot) (h : wp_FileTree_putBack_0 P m v0) (hp : pic G m H) (hS : va_S (fr G) s.heap H locs) (hl : lv_has ls 3 [(0, rn v0)]) : W p l e rm_FileTree_putBack s mt args below meth c H locs 0 0 (MQ below (PoV G P) args s 0 0 (fr G)) (F0 mt 0 ls []) := by
  have hx := E.1
  have hb := E.2.1
  unfold wp_FileTree_putBack_0 at h
  refine lv_iconst (v := 1) hx hb d_FileTree_putBack_0 (by decide) ?_
  refine lv_istore_n (lv' := [(1, .int 1), (0, rn v0)]) hx hb d_FileTree_putBack_1 rfl hl (by decide) (by simp [rn_cat]) (fun ls hl => ?_)
  obtain ⟨n_1, h⟩ := h
  exact t_FileTree_putBack_2 E hr n_1 m v0 1 _ _ _ h hp hS (lv_sub hl [1, 0] rfl)
set_option maxHeartbeats 4000000 in
set_option maxRecDepth 100000 in
theorem c_FileTree_putBack (l : Launch) (G : Gc) (m : Mm) (v0 : Nat) (P : Mm → Prop) (h : wp_FileTree_putBack m v0 P) : Met l y_FileTree_putBack (Cond.code y_FileTree_putBack b_FileTree_putBack 3 none :: lw_good) rm_FileTree_putBack (Pre9 G m [rn v0]) (PoV G P) 0 0 (fr G) := by
  refine Met.ofW (cc := b_FileTree_putBack) (maxL := 3) (ret := none) (by decide) rfl ?_
  intro p e s mt args below meth c s₁ B hml hv
  obtain ⟨rfl, hp, hC⟩ := hv
  have hts := atoms_spec (ws := Cond.code y_FileTree_putBack b_FileTree_putBack 3 none :: lw_good) B.pre
  have E : En G R_FileTree b_FileTree_putBack 3 p s mt _ meth c := ⟨B.exec, B.bytes, hml, findClass_of_methodNamed B.named, fun w hw => hts w (List.mem_cons_of_mem _ hw), hC, B.notSynchronized⟩
  have hr := B.returns
  have hl := lv_entry [rn v0] (n := 3) (by simp [lg_sl, rn_cat, cat_int, cat_long, cat_ref, cat_null])
  rw [lg_entry_eq]
  generalize (lg_sl [rn v0] ++ List.replicate (3 - (lg_sl [rn v0]).length) Slot.unset).toArray = ls at hl ⊢
  have hl : lv_has ls 3 [(0, rn v0)] := by simpa [lv_args, rn_cat, cat_int, cat_long, cat_ref, cat_null] using hl
  exact t_FileTree_putBack_0 E hr m v0 _ _ _ h hp va_S.rf (lv_sub hl [0] rfl)
abbrev rm_Machine_finish : Room := { frames := 2, cells := 0, slots := 0, locals := 84 }
set_option maxHeartbeats 4000000 in
set_option maxRecDepth 100000 in
theorem t_Machine_finish_0 {G : Gc} {P : Mm → Prop} (E : En G R_Machine b_Machine_finish 1 p s mt args meth c) (hr : meth.sig.returnType = none) (m : Mm) (v0 : Nat) (H : Heap) (locs : List Loc) (ls : Array Slot) (h : wp_Machine_finish_0 P m v0) (hp : pic G m H) (hS : va_S (fr G) s.heap H locs) (hl : lv_has ls 1 [(0, rn v0)]) : W p l e rm_Machine_finish s mt args below meth c H locs 0 0 (MQ below (PoV G P) args s 0 0 (fr G)) (F0 mt 0 ls []) := by
  have hx := E.1
  have hb := E.2.1
  unfold wp_Machine_finish_0 at h
  refine rr_aload_n hx hb d_Machine_finish_0 rfl (lv_at hl 0 rfl) ?_
  obtain ⟨g_2, h⟩ := h
  refine rg_Machine_device E hp g_2 lk_52 d_Machine_finish_1 (fun x_1 ex_1 => ?_)
  replace h := h x_1 ex_1
  obtain ⟨g_5, h⟩ := h
  refine mc_v hS (mc_runV (As := []) (rest := []) E (c_Device_putBack l G m x_1 _ h) wd_Device_putBack ⟨lk_275, lk_276, lk_277⟩ rfl rfl ⟨Nat.le_of_ble_eq_true rfl, Nat.le_of_ble_eq_true rfl⟩ hp hS g_5 (by decide) rfl rfl rfl hl.1 rfl (lv_room (Nat.le_of_ble_eq_true rfl)) d_Machine_finish_4 ⟨Nat.le_of_ble_eq_true rfl, Nat.le_of_ble_eq_true rfl⟩) (fun m_3 h H locs hp hS => ?_)
  try dsimp only at h
  refine rr_aload_n hx hb d_Machine_finish_7 rfl (lv_at hl 0 rfl) ?_
  obtain ⟨g_7, h⟩ := h
  refine rg_Machine_resources E hp g_7 lk_56 d_Machine_finish_8 (fun x_6 ex_6 => ?_)
  replace h := h x_6 ex_6
  obtain ⟨g_10, h⟩ := h
  refine mc_v hS (mc_runV (As := []) (rest := []) E (c_Resources_putBack l G m_3 x_6 _ h) wd_Resources_putBack ⟨lk_278, lk_279, lk_280⟩ rfl rfl ⟨Nat.le_of_ble_eq_true rfl, Nat.le_of_ble_eq_true rfl⟩ hp hS g_10 (by decide) rfl rfl rfl hl.1 rfl (lv_room (Nat.le_of_ble_eq_true rfl)) d_Machine_finish_11 ⟨Nat.le_of_ble_eq_true rfl, Nat.le_of_ble_eq_true rfl⟩) (fun m_8 h H locs hp hS => ?_)
  try dsimp only at h
  refine rr_aload_n hx hb d_Machine_finish_14 rfl (lv_at hl 0 rfl) ?_
  obtain ⟨g_12, h⟩ := h
  refine rg_Machine_files E hp g_12 lk_60 d_Machine_finish_15 (fun x_11 ex_11 => ?_)
  replace h := h x_11 ex_11
  obtain ⟨g_15, h⟩ := h
  refine mc_v hS (mc_runV (As := []) (rest := []) E (c_FileTree_putBack l G m_8 x_11 _ h) wd_FileTree_putBack ⟨lk_281, lk_282, lk_283⟩ rfl rfl ⟨Nat.le_of_ble_eq_true rfl, Nat.le_of_ble_eq_true rfl⟩ hp hS g_15 (by decide) rfl rfl rfl hl.1 rfl (lv_room (Nat.le_of_ble_eq_true rfl)) d_Machine_finish_18 ⟨Nat.le_of_ble_eq_true rfl, Nat.le_of_ble_eq_true rfl⟩) (fun m_13 h H locs hp hS => ?_)
  try dsimp only at h
  exact mp_vret E hr hp hS h d_Machine_finish_21
set_option maxHeartbeats 4000000 in
set_option maxRecDepth 100000 in
theorem c_Machine_finish (l : Launch) (G : Gc) (m : Mm) (v0 : Nat) (P : Mm → Prop) (h : wp_Machine_finish m v0 P) : Met l y_Machine_finish (Cond.code y_Machine_finish b_Machine_finish 1 none :: lw_good) rm_Machine_finish (Pre9 G m [rn v0]) (PoV G P) 0 0 (fr G) := by
  refine Met.ofW (cc := b_Machine_finish) (maxL := 1) (ret := none) (by decide) rfl ?_
  intro p e s mt args below meth c s₁ B hml hv
  obtain ⟨rfl, hp, hC⟩ := hv
  have hts := atoms_spec (ws := Cond.code y_Machine_finish b_Machine_finish 1 none :: lw_good) B.pre
  have E : En G R_Machine b_Machine_finish 1 p s mt _ meth c := ⟨B.exec, B.bytes, hml, findClass_of_methodNamed B.named, fun w hw => hts w (List.mem_cons_of_mem _ hw), hC, B.notSynchronized⟩
  have hr := B.returns
  have hl := lv_entry [rn v0] (n := 1) (by simp [lg_sl, rn_cat, cat_int, cat_long, cat_ref, cat_null])
  rw [lg_entry_eq]
  generalize (lg_sl [rn v0] ++ List.replicate (1 - (lg_sl [rn v0]).length) Slot.unset).toArray = ls at hl ⊢
  have hl : lv_has ls 1 [(0, rn v0)] := by simpa [lv_args, rn_cat, cat_int, cat_long, cat_ref, cat_null] using hl
  exact t_Machine_finish_0 E hr m v0 _ _ _ h hp va_S.rf (lv_sub hl [0] rfl)
end WK
