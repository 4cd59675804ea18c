/-! THE CLAIM OUT OF ONE WALK OF THE LAW'S BODY. Your part is whole_start (and what it stands on); all else here is the same for every law, but numbers. -/
def R_law : String := "MachineLoopLaw"
def lw_P (b : Addr) (xs : List Int32) (args : Array Value) (s : State) : Prop := args = #[.ref b] ∧ s.IntsAt b xs ∧ xs.length ≤ 2049 ∧ (Jvm.Cond.and given_1 narrow_1).before args s = true
def lw_Q (_ : Array Value) (s : State) (o : Outcome) (t : State) : Prop := o = .returned (some (.int 1)) ∧ Framed s o t [] 600000 7302250
def lw_Z (below : List Frame) (a : Array Value) (s : State) : State → Prop := fun t => ∃ o, t.status = .running ∧ Ended t below o ∧ lw_Q a s o t
/-- the law's own end, with 1 on the stack, nothing written that was there before, its room as the claim has it -/
theorem lw_ret {p : Program} {l : Launch} {e : Env} {s : State} {m : MethodId} {below : List Frame} {meth : Method} {c : Code} {b : Nat} (hx : p.tables.exec = Jvm.exec) (hb : c.code = code) (hr : meth.sig.returnType = ret) (hlocks : meth.locks = false) {pc : Nat} {H : Heap} {ls : Array Slot} (hdg : decode code pc = .ok (.ireturn, 1)) : W p l e room_1 s m #[Value.ref b] below meth c H [] 600000 7302250 (lw_Z below #[Value.ref b] s) (F0 m pc ls [.int 1]) := by
  intro T hT X
  obtain ⟨fs, hret, hrun, hended, hW, hframe⟩ := X.leave (v := some (.int 1)) (hlocks := hlocks) (fun h => by rw [hr] at h; cases h)
  have hmeth' : T.vm.method? m = some meth := X.method'
  refine ⟨T.setFrames fs, ?_, .returned (some (.int 1)), hrun, hended, rfl, ⟨_, rfl⟩, hW, hframe⟩
  jvm_step X.here [X.here.top, hx, hb, hdg, hmeth', hr, ret, narrow_b1]
  (try refine ⟨rfl, ?_⟩); (try refine ⟨rfl, ?_⟩)
  first | (intro acts; rw [hret _ acts rfl rfl rfl]) | rw [hret _ _ rfl rfl rfl]
  exact Steps.refl _
/-- what holds at the law's entry: the machine, the code, the tables' words (any of lw_tbl by 'hts w (by decide +kernel)'), the script of L ints xs at the cell b, what the Statement gives of the start (any of its parts by flat_of_before) -/
def lw_At (p : Program) (s : State) (m : MethodId) (meth : Method) (c : Code) (b L : Nat) (xs : Nat → Int32) : Prop :=
  p.tables.exec = Jvm.exec ∧ c.code = code ∧ meth.sig.returnType = ret ∧ c.maxLocals = 4 ∧ s.vm.findClass R_law = some m.cls ∧ (∀ w ∈ lw_tbl, w.before #[Value.ref b] s = true) ∧ va_X b L xs s s.heap ∧ b < s.heap.size ∧ meth.locks = false ∧ (Jvm.Cond.and given_1 narrow_1).before #[Value.ref b] s = true
theorem mp_lawret {p : Program} {l : Launch} {e : Env} {s : State} {mt : MethodId} {below : List Frame} {meth : Method} {c : Code} {G : Gc} {H : Heap} {locs : List Loc} {cells slots pc mL : Nat} {ls : Array Slot} {own : String} (E : En G own code mL p s mt #[Value.ref (G.2.2.1 99)] meth c) (hr : meth.sig.returnType = ret) (hlo : G.2.2.2.1 = s.heap.size) (hS : va_S (fr G) s.heap H locs) (hc : cells ≤ 600000) (hs : slots ≤ 7302250) {v : Int32} (h : v = 1) (hdg : decode code pc = .ok (.ireturn, 1)) : W p l e room_1 s mt #[Value.ref (G.2.2.1 99)] below meth c H locs cells slots (lw_Z below #[Value.ref (G.2.2.1 99)] s) (F0 mt pc ls [.int v]) := by
  subst h
  refine W.widen hc hs ?_
  refine va_forget (fun q hq => by have := hS.2.2 q hq; rw [← hlo]; exact this) ?_
  exact lw_ret E.1 E.2.1 hr E.2.2.2.2.2.2 hdg
section WK
variable {p : Program} {l : Launch} {e : Env} {s : State} {mt : MethodId} {args : Array Value} {below : List Frame} {meth : Method} {c : Code}
set_option maxHeartbeats 4000000 in
set_option maxRecDepth 100000 in
theorem t_Law_law_602 {G : Gc} {P : Int32 → Mm → Prop} (E : En G R_Law b_Law_law 4 p s mt #[Value.ref (G.2.2.1 99)] meth c) (hr : meth.sig.returnType = ret) (hlo : G.2.2.2.1 = s.heap.size) (hP : ∀ r m, P r m → r = 1) {K30 : Mm → Nat → Nat → Int32 → Prop} (n30 : Nat) (hK30 : ∀ (m : Mm) (v1 : Nat) (v2 : Nat) (v3 : Int32) (H : Heap) (locs : List Loc) (ls : Array Slot) (cs sl : Nat) (_ : cs + (n30 * 3 + 0) ≤ 600000) (_ : sl + (n30 * 249 + 0) ≤ 7302250), K30 m v1 v2 v3 → pic G m H → va_S (fr G) s.heap H locs → lv_has ls 4 [(0, .ref (G.2.2.1 99)), (1, rn v1), (2, rn v2), (3, .int v3)] → W p l e room_1 s mt #[Value.ref (G.2.2.1 99)] below meth c H locs cs sl (lw_Z below #[Value.ref (G.2.2.1 99)] s) (F0 mt 30 ls [])) (m : Mm) (v1 : Nat) (v2 : Nat) (v3 : Int32) (H : Heap) (locs : List Loc) (ls : Array Slot) (cs sl : Nat) (hc : cs + (0 + n30 * 3 + 0) ≤ 600000) (hs : sl + (0 + n30 * 249 + 0) ≤ 7302250) (h : wp_Law_law_602 G.2.2.2.2.1 G.2.2.2.2.2 K30 P m v1 v2 v3) (hp : pic G m H) (hS : va_S (fr G) s.heap H locs) (hl : lv_has ls 4 [(0, .ref (G.2.2.1 99)), (1, rn v1), (2, rn v2), (3, .int v3)]) : W p l e room_1 s mt #[Value.ref (G.2.2.1 99)] below meth c H locs cs sl (lw_Z below #[Value.ref (G.2.2.1 99)] s) (F0 mt 602 ls []) := by
  have hx := E.1
  have hb := E.2.1
  unfold wp_Law_law_602 at h
  obtain ⟨x_1, ex_1⟩ : ∃ y : Int32, y = v3 + 4 := ⟨_, rfl⟩
  replace h := h x_1 ex_1
  refine lv_iinc (v := x_1) (lv' := [(3, .int x_1), (0, .ref (G.2.2.1 99)), (1, rn v1), (2, rn v2)]) hx hb d_Law_law_602 hl (k := 3) rfl (by rw [ex_1]; rfl) (by decide) (by simp [rn_cat]) (fun ls hl => ?_)
  refine lv_goto (tgt := 30) hx hb d_Law_law_605 (by decide) ?_
  exact hK30 m v1 v2 x_1 _ _ _ _ _ (by omega) (by omega) h hp hS (lv_sub hl [1, 2, 3, 0] rfl)
set_option maxHeartbeats 4000000 in
set_option maxRecDepth 100000 in
theorem t_Law_law_538 {G : Gc} {P : Int32 → Mm → Prop} (E : En G R_Law b_Law_law 4 p s mt #[Value.ref (G.2.2.1 99)] meth c) (hr : meth.sig.returnType = ret) (hlo : G.2.2.2.1 = s.heap.size) (hP : ∀ r m, P r m → r = 1) {K30 : Mm → Nat → Nat → Int32 → Prop} (n30 : Nat) (hK30 : ∀ (m : Mm) (v1 : Nat) (v2 : Nat) (v3 : Int32) (H : Heap) (locs : List Loc) (ls : Array Slot) (cs sl : Nat) (_ : cs + (n30 * 3 + 0) ≤ 600000) (_ : sl + (n30 * 249 + 0) ≤ 7302250), K30 m v1 v2 v3 → pic G m H → va_S (fr G) s.heap H locs → lv_has ls 4 [(0, .ref (G.2.2.1 99)), (1, rn v1), (2, rn v2), (3, .int v3)] → W p l e room_1 s mt #[Value.ref (G.2.2.1 99)] below meth c H locs cs sl (lw_Z below #[Value.ref (G.2.2.1 99)] s) (F0 mt 30 ls [])) (m : Mm) (v1 : Nat) (v2 : Nat) (v3 : Int32) (s0 : Int32) (s1 : Nat) (s2 : Int32) (H : Heap) (locs : List Loc) (ls : Array Slot) (cs sl : Nat) (hc : cs + (0 + n30 * 3 + 0) ≤ 600000) (hs : sl + (0 + n30 * 249 + 0) ≤ 7302250) (h : wp_Law_law_538 G.2.2.2.2.1 G.2.2.2.2.2 K30 P m v1 v2 v3 s0 s1 s2) (hp : pic G m H) (hS : va_S (fr G) s.heap H locs) (hl : lv_has ls 4 [(0, .ref (G.2.2.1 99)), (1, rn v1), (2, rn v2), (3, .int v3)]) : W p l e room_1 s mt #[Value.ref (G.2.2.1 99)] below meth c H locs cs sl (lw_Z below #[Value.ref (G.2.2.1 99)] s) (F0 mt 538 ls [.int s0, rn s1, .int s2]) := by
  have hx := E.1
  have hb := E.2.1
  unfold wp_Law_law_538 at h
  obtain ⟨g_3, h⟩ := h
  refine mc_i hS (mc_runV (As := [.int s0]) (rest := [.int s2]) E (c_Mo_startFails l G m s1 s0 _ h) wd_Mo_startFails ⟨lk_446, lk_447, lk_448⟩ rfl rfl ⟨Nat.le_of_ble_eq_true rfl, Nat.le_of_ble_eq_true rfl⟩ hp hS g_3 (by decide) rfl rfl rfl hl.1 rfl (lv_room (Nat.le_of_ble_eq_true rfl)) d_Law_law_538 ⟨by show _ + _ ≤ (600000 : Nat); omega, by show _ + _ ≤ (7302250 : Nat); omega⟩) (fun r_2 m_1 h H locs hp hS => ?_)
  try dsimp only at h
  refine lv_icmp_eq (tgt := 602) hx hb d_Law_law_541 (by decide) (fun g_4 => ?_) (fun g_4 => ?_)
  · replace h := h.1 g_4
    exact t_Law_law_602 E hr hlo hP n30 hK30 m_1 v1 v2 v3 _ _ _ _ _ (by omega) (by omega) h hp hS (lv_sub hl [0, 1, 2, 3] rfl)
  · replace h := h.2 g_4
    refine lv_iconst (v := 0) hx hb d_Law_law_544 (by decide) ?_
    exact mp_lawret E hr hlo hS (by omega) (by omega) (hP _ _ h) d_Law_law_545
set_option maxHeartbeats 4000000 in
set_option maxRecDepth 100000 in
theorem t_Law_law_521 {G : Gc} {P : Int32 → Mm → Prop} (E : En G R_Law b_Law_law 4 p s mt #[Value.ref (G.2.2.1 99)] meth c) (hr : meth.sig.returnType = ret) (hlo : G.2.2.2.1 = s.heap.size) (hP : ∀ r m, P r m → r = 1) {K30 : Mm → Nat → Nat → Int32 → Prop} (n30 : Nat) (hK30 : ∀ (m : Mm) (v1 : Nat) (v2 : Nat) (v3 : Int32) (H : Heap) (locs : List Loc) (ls : Array Slot) (cs sl : Nat) (_ : cs + (n30 * 3 + 0) ≤ 600000) (_ : sl + (n30 * 249 + 0) ≤ 7302250), K30 m v1 v2 v3 → pic G m H → va_S (fr G) s.heap H locs → lv_has ls 4 [(0, .ref (G.2.2.1 99)), (1, rn v1), (2, rn v2), (3, .int v3)] → W p l e room_1 s mt #[Value.ref (G.2.2.1 99)] below meth c H locs cs sl (lw_Z below #[Value.ref (G.2.2.1 99)] s) (F0 mt 30 ls [])) (m : Mm) (v1 : Nat) (v2 : Nat) (v3 : Int32) (s0 : Int32) (s1 : Nat) (H : Heap) (locs : List Loc) (ls : Array Slot) (cs sl : Nat) (hc : cs + (0 + n30 * 3 + 0) ≤ 600000) (hs : sl + (0 + n30 * 249 + 0) ≤ 7302250) (h : wp_Law_law_521 G.2.2.2.2.1 G.2.2.2.2.2 K30 P m v1 v2 v3 s0 s1) (hp : pic G m H) (hS : va_S (fr G) s.heap H locs) (hl : lv_has ls 4 [(0, .ref (G.2.2.1 99)), (1, rn v1), (2, rn v2), (3, .int v3)]) : W p l e room_1 s mt #[Value.ref (G.2.2.1 99)] below meth c H locs cs sl (lw_Z below #[Value.ref (G.2.2.1 99)] s) (F0 mt 521 ls [.int s0, rn s1]) := by
  have hx := E.1
  have hb := E.2.1
  unfold wp_Law_law_521 at h
  obtain ⟨g_3, h⟩ := h
  refine mc_i hS (mc_runV (As := [.int s0]) (rest := []) E (c_ML_startFails l G m s1 s0 _ h) wd_ML_startFails ⟨lk_449, lk_450, lk_451⟩ rfl rfl ⟨Nat.le_of_ble_eq_true rfl, Nat.le_of_ble_eq_true rfl⟩ hp hS g_3 (by decide) rfl rfl rfl hl.1 rfl (lv_room (Nat.le_of_ble_eq_true rfl)) d_Law_law_521 ⟨by show _ + _ ≤ (600000 : Nat); omega, by show _ + _ ≤ (7302250 : Nat); omega⟩) (fun r_2 m_1 h H locs hp hS => ?_)
  try dsimp only at h
  refine rr_aload_n hx hb d_Law_law_524 rfl (lv_at hl 2 rfl) ?_
  refine lv_aload_n hx hb d_Law_law_525 rfl (lv_at hl 0 rfl) ?_
  refine lv_iload_n hx hb d_Law_law_526 rfl (lv_at hl 3 rfl) ?_
  refine lv_iconst (v := 1) hx hb d_Law_law_527 (by decide) ?_
  refine lv_iadd hx hb d_Law_law_528 ?_
  refine lv_topi (fun x_4 ex_4 => ?_)
  replace h := h x_4 ex_4
  obtain ⟨g_7, h⟩ := h
  refine rx_ld E hS g_7 d_Law_law_529 (fun x_5 ex_5 => ?_)
  replace h := h x_5 ex_5
  refine lv_if_eq (tgt := 537) hx hb d_Law_law_530 (by decide) (fun g_8 => ?_) (fun g_8 => ?_)
  · replace h := h.1 g_8
    refine lv_iconst (v := 0) hx hb d_Law_law_537 (by decide) ?_
    exact t_Law_law_538 E hr hlo hP n30 hK30 m_1 v1 v2 v3 0 v2 r_2 _ _ _ _ _ (by omega) (by omega) h hp hS (lv_sub hl [0, 1, 2, 3] rfl)
  · replace h := h.2 g_8
    refine lv_iconst (v := 1) hx hb d_Law_law_533 (by decide) ?_
    refine lv_goto (tgt := 538) hx hb d_Law_law_534 (by decide) ?_
    exact t_Law_law_538 E hr hlo hP n30 hK30 m_1 v1 v2 v3 1 v2 r_2 _ _ _ _ _ (by omega) (by omega) h hp hS (lv_sub hl [0, 1, 2, 3] rfl)
set_option maxHeartbeats 4000000 in
set_option maxRecDepth 100000 in
theorem t_Law_law_30 {G : Gc} {P : Int32 → Mm → Prop} (E : En G R_Law b_Law_law 4 p s mt #[Value.ref (G.2.2.1 99)] meth c) (hr : meth.sig.returnType = ret) (hlo : G.2.2.2.1 = s.heap.size) (hP : ∀ r m, P r m → r = 1) : ∀ (n : Nat) (m : Mm) (v1 : Nat) (v2 : Nat) (v3 : Int32) (H : Heap) (locs : List Loc) (ls : Array Slot) (cs sl : Nat) (_ : cs + (n * 3 + 0) ≤ 600000) (_ : sl + (n * 249 + 0) ≤ 7302250) (_ : wp_Law_law_30 G.2.2.2.2.1 G.2.2.2.2.2 P n m v1 v2 v3) (_ : pic G m H) (_ : va_S (fr G) s.heap H locs) (_ : lv_has ls 4 [(0, .ref (G.2.2.1 99)), (1, rn v1), (2, rn v2), (3, .int v3)]), W p l e room_1 s mt #[Value.ref (G.2.2.1 99)] below meth c H locs cs sl (lw_Z below #[Value.ref (G.2.2.1 99)] s) (F0 mt 30 ls []) := by
  intro n
  induction n with
  | zero => intro m v1 v2 v3 H locs ls cs sl hc hs h hp hS hl; exact h.elim
  | succ n ih =>
    intro m v1 v2 v3 H locs ls cs sl hc hs h hp hS hl
    have hx := E.1
    have hb := E.2.1
    unfold wp_Law_law_30 at h
    refine lv_iload_n hx hb d_Law_law_30 rfl (lv_at hl 3 rfl) ?_
    refine lv_aload_n hx hb d_Law_law_31 rfl (lv_at hl 0 rfl) ?_
    refine rx_len E hS d_Law_law_32 (fun x_1 ex_1 => ?_)
    replace h := h x_1 ex_1
    refine lv_iconst (v := 4) hx hb d_Law_law_33 (by decide) ?_
    refine lv_isub hx hb d_Law_law_34 ?_
    refine lv_topi (fun x_3 ex_3 => ?_)
    replace h := h x_3 ex_3
    refine lv_icmp_gt (tgt := 608) hx hb d_Law_law_35 (by decide) (fun g_4 => ?_) (fun g_4 => ?_)
    · replace h := h.1 g_4
      refine lv_iconst (v := 1) hx hb d_Law_law_608 (by decide) ?_
      exact mp_lawret E hr hlo hS (by omega) (by omega) (hP _ _ h) d_Law_law_609
    · replace h := h.2 g_4
      refine lv_aload_n hx hb d_Law_law_38 rfl (lv_at hl 0 rfl) ?_
      refine lv_iload_n hx hb d_Law_law_39 rfl (lv_at hl 3 rfl) ?_
      obtain ⟨g_7, h⟩ := h
      refine rx_ld E hS g_7 d_Law_law_40 (fun x_5 ex_5 => ?_)
      replace h := h x_5 ex_5
      refine lv_bipush (v := 15) hx hb d_Law_law_41 (by decide) ?_
      refine lv_iand hx hb d_Law_law_43 ?_
      refine lv_topi (fun x_8 ex_8 => ?_)
      replace h := h x_8 ex_8
      by_cases g_9 : x_8 = 0
      · replace h := h.1 g_9
        refine lv_tableIn (x := x_8) (off := 80) (tgt := 124) hx hb d_Law_law_44 (by rw [g_9]; decide) (by rw [g_9]; decide) (by rw [g_9]; decide) (by decide) ?_
        refine rr_aload_n hx hb d_Law_law_124 rfl (lv_at hl 1 rfl) ?_
        obtain ⟨g_12, h⟩ := h
        refine mc_i hS (mc_runV (As := []) (rest := []) E (c_ML_job l G m v1 _ h) wd_ML_job ⟨lk_452, lk_453, lk_454⟩ rfl rfl ⟨Nat.le_of_ble_eq_true rfl, Nat.le_of_ble_eq_true rfl⟩ hp hS g_12 (by decide) rfl rfl rfl hl.1 rfl (lv_room (Nat.le_of_ble_eq_true rfl)) d_Law_law_125 ⟨by show _ + _ ≤ (600000 : Nat); omega, by show _ + _ ≤ (7302250 : Nat); omega⟩) (fun r_11 m_10 h H locs hp hS => ?_)
        try dsimp only at h
        refine rr_aload_n hx hb d_Law_law_128 rfl (lv_at hl 2 rfl) ?_
        obtain ⟨g_15, h⟩ := h
        refine mc_i hS (mc_runV (As := []) (rest := [.int r_11]) E (c_Mo_job l G m_10 v2 _ h) wd_Mo_job ⟨lk_455, lk_456, lk_457⟩ rfl rfl ⟨Nat.le_of_ble_eq_true rfl, Nat.le_of_ble_eq_true rfl⟩ hp hS g_15 (by decide) rfl rfl rfl hl.1 rfl (lv_room (Nat.le_of_ble_eq_true rfl)) d_Law_law_129 ⟨by show _ + _ ≤ (600000 : Nat); omega, by show _ + _ ≤ (7302250 : Nat); omega⟩) (fun r_14 m_13 h H locs hp hS => ?_)
        try dsimp only at h
        refine lv_icmp_eq (tgt := 602) hx hb d_Law_law_132 (by decide) (fun g_16 => ?_) (fun g_16 => ?_)
        · replace h := h.1 g_16
          exact t_Law_law_602 E hr hlo hP n ih m_13 v1 v2 v3 _ _ _ _ _ (by omega) (by omega) h hp hS (lv_sub hl [0, 1, 2, 3] rfl)
        · replace h := h.2 g_16
          refine lv_iconst (v := 0) hx hb d_Law_law_135 (by decide) ?_
          exact mp_lawret E hr hlo hS (by omega) (by omega) (hP _ _ h) d_Law_law_136
      · replace h := h.2 g_9
        by_cases g_17 : x_8 = 1
        · replace h := h.1 g_17
          refine lv_tableIn (x := x_8) (off := 93) (tgt := 137) hx hb d_Law_law_44 (by rw [g_17]; decide) (by rw [g_17]; decide) (by rw [g_17]; decide) (by decide) ?_
          refine rr_aload_n hx hb d_Law_law_137 rfl (lv_at hl 1 rfl) ?_
          refine lv_aload_n hx hb d_Law_law_138 rfl (lv_at hl 0 rfl) ?_
          refine lv_iload_n hx hb d_Law_law_139 rfl (lv_at hl 3 rfl) ?_
          refine lv_iconst (v := 1) hx hb d_Law_law_140 (by decide) ?_
          refine lv_iadd hx hb d_Law_law_141 ?_
          refine lv_topi (fun x_18 ex_18 => ?_)
          replace h := h x_18 ex_18
          obtain ⟨g_21, h⟩ := h
          refine rx_ld E hS g_21 d_Law_law_142 (fun x_19 ex_19 => ?_)
          replace h := h x_19 ex_19
          refine lv_aload_n hx hb d_Law_law_143 rfl (lv_at hl 0 rfl) ?_
          refine lv_iload_n hx hb d_Law_law_144 rfl (lv_at hl 3 rfl) ?_
          refine lv_iconst (v := 2) hx hb d_Law_law_145 (by decide) ?_
          refine lv_iadd hx hb d_Law_law_146 ?_
          refine lv_topi (fun x_22 ex_22 => ?_)
          replace h := h x_22 ex_22
          obtain ⟨g_25, h⟩ := h
          refine rx_ld E hS g_25 d_Law_law_147 (fun x_23 ex_23 => ?_)
          replace h := h x_23 ex_23
          obtain ⟨x_26, ex_26⟩ : ∃ y : Int32, y = x_23.toInt8.toInt32 := ⟨_, rfl⟩
          replace h := h x_26 ex_26
          refine lv_i2b hx hb d_Law_law_148 ex_26.symm ?_
          obtain ⟨g_29, h⟩ := h
          refine mc_i hS (mc_runV (As := [.int x_19, .int x_26]) (rest := []) E (c_ML_add l G m v1 x_19 x_26 _ h) wd_ML_add ⟨lk_458, lk_459, lk_460⟩ rfl rfl ⟨Nat.le_of_ble_eq_true rfl, Nat.le_of_ble_eq_true rfl⟩ hp hS g_29 (by decide) rfl rfl rfl hl.1 rfl (lv_room (Nat.le_of_ble_eq_true rfl)) d_Law_law_149 ⟨by show _ + _ ≤ (600000 : Nat); omega, by show _ + _ ≤ (7302250 : Nat); omega⟩) (fun r_28 m_27 h H locs hp hS => ?_)
          try dsimp only at h
          refine rr_aload_n hx hb d_Law_law_152 rfl (lv_at hl 2 rfl) ?_
          refine lv_aload_n hx hb d_Law_law_153 rfl (lv_at hl 0 rfl) ?_
          refine lv_iload_n hx hb d_Law_law_154 rfl (lv_at hl 3 rfl) ?_
          refine lv_iconst (v := 1) hx hb d_Law_law_155 (by decide) ?_
          refine lv_iadd hx hb d_Law_law_156 ?_
          refine lv_topi (fun x_30 ex_30 => ?_)
          replace h := h x_30 ex_30
          obtain ⟨g_33, h⟩ := h
          refine rx_ld E hS g_33 d_Law_law_157 (fun x_31 ex_31 => ?_)
          replace h := h x_31 ex_31
          refine lv_aload_n hx hb d_Law_law_158 rfl (lv_at hl 0 rfl) ?_
          refine lv_iload_n hx hb d_Law_law_159 rfl (lv_at hl 3 rfl) ?_
          refine lv_iconst (v := 2) hx hb d_Law_law_160 (by decide) ?_
          refine lv_iadd hx hb d_Law_law_161 ?_
          refine lv_topi (fun x_34 ex_34 => ?_)
          replace h := h x_34 ex_34
          obtain ⟨g_37, h⟩ := h
          refine rx_ld E hS g_37 d_Law_law_162 (fun x_35 ex_35 => ?_)
          replace h := h x_35 ex_35
          obtain ⟨x_38, ex_38⟩ : ∃ y : Int32, y = x_35.toInt8.toInt32 := ⟨_, rfl⟩
          replace h := h x_38 ex_38
          refine lv_i2b hx hb d_Law_law_163 ex_38.symm ?_
          obtain ⟨g_41, h⟩ := h
          refine mc_i hS (mc_runV (As := [.int x_31, .int x_38]) (rest := [.int r_28]) E (c_Mo_add l G m_27 v2 x_31 x_38 _ h) wd_Mo_add ⟨lk_461, lk_462, lk_463⟩ rfl rfl ⟨Nat.le_of_ble_eq_true rfl, Nat.le_of_ble_eq_true rfl⟩ hp hS g_41 (by decide) rfl rfl rfl hl.1 rfl (lv_room (Nat.le_of_ble_eq_true rfl)) d_Law_law_164 ⟨by show _ + _ ≤ (600000 : Nat); omega, by show _ + _ ≤ (7302250 : Nat); omega⟩) (fun r_40 m_39 h H locs hp hS => ?_)
          try dsimp only at h
          refine lv_icmp_eq (tgt := 602) hx hb d_Law_law_167 (by decide) (fun g_42 => ?_) (fun g_42 => ?_)
          · replace h := h.1 g_42
            exact t_Law_law_602 E hr hlo hP n ih m_39 v1 v2 v3 _ _ _ _ _ (by omega) (by omega) h hp hS (lv_sub hl [0, 1, 2, 3] rfl)
          · replace h := h.2 g_42
            refine lv_iconst (v := 0) hx hb d_Law_law_170 (by decide) ?_
            exact mp_lawret E hr hlo hS (by omega) (by omega) (hP _ _ h) d_Law_law_171
        · replace h := h.2 g_17
          by_cases g_43 : x_8 = 2
          · replace h := h.1 g_43
            refine lv_tableIn (x := x_8) (off := 128) (tgt := 172) hx hb d_Law_law_44 (by rw [g_43]; decide) (by rw [g_43]; decide) (by rw [g_43]; decide) (by decide) ?_
            refine rr_aload_n hx hb d_Law_law_172 rfl (lv_at hl 1 rfl) ?_
            obtain ⟨g_46, h⟩ := h
            refine mc_i hS (mc_runV (As := []) (rest := []) E (c_ML_run l G m v1 _ h) wd_ML_run ⟨lk_464, lk_465, lk_466⟩ rfl rfl ⟨Nat.le_of_ble_eq_true rfl, Nat.le_of_ble_eq_true rfl⟩ hp hS g_46 (by decide) rfl rfl rfl hl.1 rfl (lv_room (Nat.le_of_ble_eq_true rfl)) d_Law_law_173 ⟨by show _ + _ ≤ (600000 : Nat); omega, by show _ + _ ≤ (7302250 : Nat); omega⟩) (fun r_45 m_44 h H locs hp hS => ?_)
            try dsimp only at h
            refine rr_aload_n hx hb d_Law_law_176 rfl (lv_at hl 2 rfl) ?_
            obtain ⟨g_49, h⟩ := h
            refine mc_i hS (mc_runV (As := []) (rest := [.int r_45]) E (c_Mo_run l G m_44 v2 _ h) wd_Mo_run ⟨lk_467, lk_468, lk_469⟩ rfl rfl ⟨Nat.le_of_ble_eq_true rfl, Nat.le_of_ble_eq_true rfl⟩ hp hS g_49 (by decide) rfl rfl rfl hl.1 rfl (lv_room (Nat.le_of_ble_eq_true rfl)) d_Law_law_177 ⟨by show _ + _ ≤ (600000 : Nat); omega, by show _ + _ ≤ (7302250 : Nat); omega⟩) (fun r_48 m_47 h H locs hp hS => ?_)
            try dsimp only at h
            refine lv_icmp_eq (tgt := 602) hx hb d_Law_law_180 (by decide) (fun g_50 => ?_) (fun g_50 => ?_)
            · replace h := h.1 g_50
              exact t_Law_law_602 E hr hlo hP n ih m_47 v1 v2 v3 _ _ _ _ _ (by omega) (by omega) h hp hS (lv_sub hl [0, 1, 2, 3] rfl)
            · replace h := h.2 g_50
              refine lv_iconst (v := 0) hx hb d_Law_law_183 (by decide) ?_
              exact mp_lawret E hr hlo hS (by omega) (by omega) (hP _ _ h) d_Law_law_184
          · replace h := h.2 g_43
            by_cases g_51 : x_8 = 3
            · replace h := h.1 g_51
              refine lv_tableIn (x := x_8) (off := 141) (tgt := 185) hx hb d_Law_law_44 (by rw [g_51]; decide) (by rw [g_51]; decide) (by rw [g_51]; decide) (by decide) ?_
              refine rr_aload_n hx hb d_Law_law_185 rfl (lv_at hl 1 rfl) ?_
              refine lv_aload_n hx hb d_Law_law_186 rfl (lv_at hl 0 rfl) ?_
              refine lv_iload_n hx hb d_Law_law_187 rfl (lv_at hl 3 rfl) ?_
              refine lv_iconst (v := 1) hx hb d_Law_law_188 (by decide) ?_
              refine lv_iadd hx hb d_Law_law_189 ?_
              refine lv_topi (fun x_52 ex_52 => ?_)
              replace h := h x_52 ex_52
              obtain ⟨g_55, h⟩ := h
              refine rx_ld E hS g_55 d_Law_law_190 (fun x_53 ex_53 => ?_)
              replace h := h x_53 ex_53
              refine lv_aload_n hx hb d_Law_law_191 rfl (lv_at hl 0 rfl) ?_
              refine lv_iload_n hx hb d_Law_law_192 rfl (lv_at hl 3 rfl) ?_
              refine lv_iconst (v := 2) hx hb d_Law_law_193 (by decide) ?_
              refine lv_iadd hx hb d_Law_law_194 ?_
              refine lv_topi (fun x_56 ex_56 => ?_)
              replace h := h x_56 ex_56
              obtain ⟨g_59, h⟩ := h
              refine rx_ld E hS g_59 d_Law_law_195 (fun x_57 ex_57 => ?_)
              replace h := h x_57 ex_57
              obtain ⟨g_62, h⟩ := h
              refine mc_i hS (mc_runV (As := [.int x_53, .int x_57]) (rest := []) E (c_ML_ended l G m v1 x_53 x_57 _ h) wd_ML_ended ⟨lk_470, lk_471, lk_472⟩ rfl rfl ⟨Nat.le_of_ble_eq_true rfl, Nat.le_of_ble_eq_true rfl⟩ hp hS g_62 (by decide) rfl rfl rfl hl.1 rfl (lv_room (Nat.le_of_ble_eq_true rfl)) d_Law_law_196 ⟨by show _ + _ ≤ (600000 : Nat); omega, by show _ + _ ≤ (7302250 : Nat); omega⟩) (fun r_61 m_60 h H locs hp hS => ?_)
              try dsimp only at h
              refine rr_aload_n hx hb d_Law_law_199 rfl (lv_at hl 2 rfl) ?_
              refine lv_aload_n hx hb d_Law_law_200 rfl (lv_at hl 0 rfl) ?_
              refine lv_iload_n hx hb d_Law_law_201 rfl (lv_at hl 3 rfl) ?_
              refine lv_iconst (v := 1) hx hb d_Law_law_202 (by decide) ?_
              refine lv_iadd hx hb d_Law_law_203 ?_
              refine lv_topi (fun x_63 ex_63 => ?_)
              replace h := h x_63 ex_63
              obtain ⟨g_66, h⟩ := h
              refine rx_ld E hS g_66 d_Law_law_204 (fun x_64 ex_64 => ?_)
              replace h := h x_64 ex_64
              refine lv_aload_n hx hb d_Law_law_205 rfl (lv_at hl 0 rfl) ?_
              refine lv_iload_n hx hb d_Law_law_206 rfl (lv_at hl 3 rfl) ?_
              refine lv_iconst (v := 2) hx hb d_Law_law_207 (by decide) ?_
              refine lv_iadd hx hb d_Law_law_208 ?_
              refine lv_topi (fun x_67 ex_67 => ?_)
              replace h := h x_67 ex_67
              obtain ⟨g_70, h⟩ := h
              refine rx_ld E hS g_70 d_Law_law_209 (fun x_68 ex_68 => ?_)
              replace h := h x_68 ex_68
              obtain ⟨g_73, h⟩ := h
              refine mc_i hS (mc_runV (As := [.int x_64, .int x_68]) (rest := [.int r_61]) E (c_Mo_ended l G m_60 v2 x_64 x_68 _ h) wd_Mo_ended ⟨lk_473, lk_474, lk_475⟩ rfl rfl ⟨Nat.le_of_ble_eq_true rfl, Nat.le_of_ble_eq_true rfl⟩ hp hS g_73 (by decide) rfl rfl rfl hl.1 rfl (lv_room (Nat.le_of_ble_eq_true rfl)) d_Law_law_210 ⟨by show _ + _ ≤ (600000 : Nat); omega, by show _ + _ ≤ (7302250 : Nat); omega⟩) (fun r_72 m_71 h H locs hp hS => ?_)
              try dsimp only at h
              refine lv_icmp_eq (tgt := 602) hx hb d_Law_law_213 (by decide) (fun g_74 => ?_) (fun g_74 => ?_)
              · replace h := h.1 g_74
                exact t_Law_law_602 E hr hlo hP n ih m_71 v1 v2 v3 _ _ _ _ _ (by omega) (by omega) h hp hS (lv_sub hl [0, 1, 2, 3] rfl)
              · replace h := h.2 g_74
                refine lv_iconst (v := 0) hx hb d_Law_law_216 (by decide) ?_
                exact mp_lawret E hr hlo hS (by omega) (by omega) (hP _ _ h) d_Law_law_217
            · replace h := h.2 g_51
              by_cases g_75 : x_8 = 4
              · replace h := h.1 g_75
                refine lv_tableIn (x := x_8) (off := 174) (tgt := 218) hx hb d_Law_law_44 (by rw [g_75]; decide) (by rw [g_75]; decide) (by rw [g_75]; decide) (by decide) ?_
                refine rr_aload_n hx hb d_Law_law_218 rfl (lv_at hl 1 rfl) ?_
                refine lv_aload_n hx hb d_Law_law_219 rfl (lv_at hl 0 rfl) ?_
                refine lv_iload_n hx hb d_Law_law_220 rfl (lv_at hl 3 rfl) ?_
                refine lv_iconst (v := 1) hx hb d_Law_law_221 (by decide) ?_
                refine lv_iadd hx hb d_Law_law_222 ?_
                refine lv_topi (fun x_76 ex_76 => ?_)
                replace h := h x_76 ex_76
                obtain ⟨g_79, h⟩ := h
                refine rx_ld E hS g_79 d_Law_law_223 (fun x_77 ex_77 => ?_)
                replace h := h x_77 ex_77
                refine lv_aload_n hx hb d_Law_law_224 rfl (lv_at hl 0 rfl) ?_
                refine lv_iload_n hx hb d_Law_law_225 rfl (lv_at hl 3 rfl) ?_
                refine lv_iconst (v := 2) hx hb d_Law_law_226 (by decide) ?_
                refine lv_iadd hx hb d_Law_law_227 ?_
                refine lv_topi (fun x_80 ex_80 => ?_)
                replace h := h x_80 ex_80
                obtain ⟨g_83, h⟩ := h
                refine rx_ld E hS g_83 d_Law_law_228 (fun x_81 ex_81 => ?_)
                replace h := h x_81 ex_81
                obtain ⟨g_86, h⟩ := h
                refine mc_i hS (mc_runV (As := [.int x_77, .int x_81]) (rest := []) E (c_ML_page l G m v1 x_77 x_81 _ h) wd_ML_page ⟨lk_476, lk_477, lk_478⟩ rfl rfl ⟨Nat.le_of_ble_eq_true rfl, Nat.le_of_ble_eq_true rfl⟩ hp hS g_86 (by decide) rfl rfl rfl hl.1 rfl (lv_room (Nat.le_of_ble_eq_true rfl)) d_Law_law_229 ⟨by show _ + _ ≤ (600000 : Nat); omega, by show _ + _ ≤ (7302250 : Nat); omega⟩) (fun r_85 m_84 h H locs hp hS => ?_)
                try dsimp only at h
                refine rr_aload_n hx hb d_Law_law_232 rfl (lv_at hl 2 rfl) ?_
                refine lv_aload_n hx hb d_Law_law_233 rfl (lv_at hl 0 rfl) ?_
                refine lv_iload_n hx hb d_Law_law_234 rfl (lv_at hl 3 rfl) ?_
                refine lv_iconst (v := 1) hx hb d_Law_law_235 (by decide) ?_
                refine lv_iadd hx hb d_Law_law_236 ?_
                refine lv_topi (fun x_87 ex_87 => ?_)
                replace h := h x_87 ex_87
                obtain ⟨g_90, h⟩ := h
                refine rx_ld E hS g_90 d_Law_law_237 (fun x_88 ex_88 => ?_)
                replace h := h x_88 ex_88
                refine lv_aload_n hx hb d_Law_law_238 rfl (lv_at hl 0 rfl) ?_
                refine lv_iload_n hx hb d_Law_law_239 rfl (lv_at hl 3 rfl) ?_
                refine lv_iconst (v := 2) hx hb d_Law_law_240 (by decide) ?_
                refine lv_iadd hx hb d_Law_law_241 ?_
                refine lv_topi (fun x_91 ex_91 => ?_)
                replace h := h x_91 ex_91
                obtain ⟨g_94, h⟩ := h
                refine rx_ld E hS g_94 d_Law_law_242 (fun x_92 ex_92 => ?_)
                replace h := h x_92 ex_92
                obtain ⟨g_97, h⟩ := h
                refine mc_i hS (mc_runV (As := [.int x_88, .int x_92]) (rest := [.int r_85]) E (c_Mo_page l G m_84 v2 x_88 x_92 _ h) wd_Mo_page ⟨lk_479, lk_480, lk_481⟩ rfl rfl ⟨Nat.le_of_ble_eq_true rfl, Nat.le_of_ble_eq_true rfl⟩ hp hS g_97 (by decide) rfl rfl rfl hl.1 rfl (lv_room (Nat.le_of_ble_eq_true rfl)) d_Law_law_243 ⟨by show _ + _ ≤ (600000 : Nat); omega, by show _ + _ ≤ (7302250 : Nat); omega⟩) (fun r_96 m_95 h H locs hp hS => ?_)
                try dsimp only at h
                refine lv_icmp_eq (tgt := 602) hx hb d_Law_law_246 (by decide) (fun g_98 => ?_) (fun g_98 => ?_)
                · replace h := h.1 g_98
                  exact t_Law_law_602 E hr hlo hP n ih m_95 v1 v2 v3 _ _ _ _ _ (by omega) (by omega) h hp hS (lv_sub hl [0, 1, 2, 3] rfl)
                · replace h := h.2 g_98
                  refine lv_iconst (v := 0) hx hb d_Law_law_249 (by decide) ?_
                  exact mp_lawret E hr hlo hS (by omega) (by omega) (hP _ _ h) d_Law_law_250
              · replace h := h.2 g_75
                by_cases g_99 : x_8 = 5
                · replace h := h.1 g_99
                  refine lv_tableIn (x := x_8) (off := 207) (tgt := 251) hx hb d_Law_law_44 (by rw [g_99]; decide) (by rw [g_99]; decide) (by rw [g_99]; decide) (by decide) ?_
                  refine rr_aload_n hx hb d_Law_law_251 rfl (lv_at hl 1 rfl) ?_
                  refine lv_aload_n hx hb d_Law_law_252 rfl (lv_at hl 0 rfl) ?_
                  refine lv_iload_n hx hb d_Law_law_253 rfl (lv_at hl 3 rfl) ?_
                  refine lv_iconst (v := 1) hx hb d_Law_law_254 (by decide) ?_
                  refine lv_iadd hx hb d_Law_law_255 ?_
                  refine lv_topi (fun x_100 ex_100 => ?_)
                  replace h := h x_100 ex_100
                  obtain ⟨g_103, h⟩ := h
                  refine rx_ld E hS g_103 d_Law_law_256 (fun x_101 ex_101 => ?_)
                  replace h := h x_101 ex_101
                  refine lv_aload_n hx hb d_Law_law_257 rfl (lv_at hl 0 rfl) ?_
                  refine lv_iload_n hx hb d_Law_law_258 rfl (lv_at hl 3 rfl) ?_
                  refine lv_iconst (v := 2) hx hb d_Law_law_259 (by decide) ?_
                  refine lv_iadd hx hb d_Law_law_260 ?_
                  refine lv_topi (fun x_104 ex_104 => ?_)
                  replace h := h x_104 ex_104
                  obtain ⟨g_107, h⟩ := h
                  refine rx_ld E hS g_107 d_Law_law_261 (fun x_105 ex_105 => ?_)
                  replace h := h x_105 ex_105
                  obtain ⟨g_110, h⟩ := h
                  refine mc_i hS (mc_runV (As := [.int x_101, .int x_105]) (rest := []) E (c_ML_device l G m v1 x_101 x_105 _ h) wd_ML_device ⟨lk_482, lk_483, lk_484⟩ rfl rfl ⟨Nat.le_of_ble_eq_true rfl, Nat.le_of_ble_eq_true rfl⟩ hp hS g_110 (by decide) rfl rfl rfl hl.1 rfl (lv_room (Nat.le_of_ble_eq_true rfl)) d_Law_law_262 ⟨by show _ + _ ≤ (600000 : Nat); omega, by show _ + _ ≤ (7302250 : Nat); omega⟩) (fun r_109 m_108 h H locs hp hS => ?_)
                  try dsimp only at h
                  refine rr_aload_n hx hb d_Law_law_265 rfl (lv_at hl 2 rfl) ?_
                  refine lv_aload_n hx hb d_Law_law_266 rfl (lv_at hl 0 rfl) ?_
                  refine lv_iload_n hx hb d_Law_law_267 rfl (lv_at hl 3 rfl) ?_
                  refine lv_iconst (v := 1) hx hb d_Law_law_268 (by decide) ?_
                  refine lv_iadd hx hb d_Law_law_269 ?_
                  refine lv_topi (fun x_111 ex_111 => ?_)
                  replace h := h x_111 ex_111
                  obtain ⟨g_114, h⟩ := h
                  refine rx_ld E hS g_114 d_Law_law_270 (fun x_112 ex_112 => ?_)
                  replace h := h x_112 ex_112
                  refine lv_aload_n hx hb d_Law_law_271 rfl (lv_at hl 0 rfl) ?_
                  refine lv_iload_n hx hb d_Law_law_272 rfl (lv_at hl 3 rfl) ?_
                  refine lv_iconst (v := 2) hx hb d_Law_law_273 (by decide) ?_
                  refine lv_iadd hx hb d_Law_law_274 ?_
                  refine lv_topi (fun x_115 ex_115 => ?_)
                  replace h := h x_115 ex_115
                  obtain ⟨g_118, h⟩ := h
                  refine rx_ld E hS g_118 d_Law_law_275 (fun x_116 ex_116 => ?_)
                  replace h := h x_116 ex_116
                  obtain ⟨g_121, h⟩ := h
                  refine mc_i hS (mc_runV (As := [.int x_112, .int x_116]) (rest := [.int r_109]) E (c_Mo_device l G m_108 v2 x_112 x_116 _ h) wd_Mo_device ⟨lk_485, lk_407, lk_408⟩ rfl rfl ⟨Nat.le_of_ble_eq_true rfl, Nat.le_of_ble_eq_true rfl⟩ hp hS g_121 (by decide) rfl rfl rfl hl.1 rfl (lv_room (Nat.le_of_ble_eq_true rfl)) d_Law_law_276 ⟨by show _ + _ ≤ (600000 : Nat); omega, by show _ + _ ≤ (7302250 : Nat); omega⟩) (fun r_120 m_119 h H locs hp hS => ?_)
                  try dsimp only at h
                  refine lv_icmp_eq (tgt := 602) hx hb d_Law_law_279 (by decide) (fun g_122 => ?_) (fun g_122 => ?_)
                  · replace h := h.1 g_122
                    exact t_Law_law_602 E hr hlo hP n ih m_119 v1 v2 v3 _ _ _ _ _ (by omega) (by omega) h hp hS (lv_sub hl [0, 1, 2, 3] rfl)
                  · replace h := h.2 g_122
                    refine lv_iconst (v := 0) hx hb d_Law_law_282 (by decide) ?_
                    exact mp_lawret E hr hlo hS (by omega) (by omega) (hP _ _ h) d_Law_law_283
                · replace h := h.2 g_99
                  by_cases g_123 : x_8 = 6
                  · replace h := h.1 g_123
                    refine lv_tableIn (x := x_8) (off := 240) (tgt := 284) hx hb d_Law_law_44 (by rw [g_123]; decide) (by rw [g_123]; decide) (by rw [g_123]; decide) (by decide) ?_
                    refine rr_aload_n hx hb d_Law_law_284 rfl (lv_at hl 1 rfl) ?_
                    refine lv_aload_n hx hb d_Law_law_285 rfl (lv_at hl 0 rfl) ?_
                    refine lv_iload_n hx hb d_Law_law_286 rfl (lv_at hl 3 rfl) ?_
                    refine lv_iconst (v := 1) hx hb d_Law_law_287 (by decide) ?_
                    refine lv_iadd hx hb d_Law_law_288 ?_
                    refine lv_topi (fun x_124 ex_124 => ?_)
                    replace h := h x_124 ex_124
                    obtain ⟨g_127, h⟩ := h
                    refine rx_ld E hS g_127 d_Law_law_289 (fun x_125 ex_125 => ?_)
                    replace h := h x_125 ex_125
                    refine lv_aload_n hx hb d_Law_law_290 rfl (lv_at hl 0 rfl) ?_
                    refine lv_iload_n hx hb d_Law_law_291 rfl (lv_at hl 3 rfl) ?_
                    refine lv_iconst (v := 2) hx hb d_Law_law_292 (by decide) ?_
                    refine lv_iadd hx hb d_Law_law_293 ?_
                    refine lv_topi (fun x_128 ex_128 => ?_)
                    replace h := h x_128 ex_128
                    obtain ⟨g_131, h⟩ := h
                    refine rx_ld E hS g_131 d_Law_law_294 (fun x_129 ex_129 => ?_)
                    replace h := h x_129 ex_129
                    refine lv_aload_n hx hb d_Law_law_295 rfl (lv_at hl 0 rfl) ?_
                    refine lv_iload_n hx hb d_Law_law_296 rfl (lv_at hl 3 rfl) ?_
                    refine lv_iconst (v := 3) hx hb d_Law_law_297 (by decide) ?_
                    refine lv_iadd hx hb d_Law_law_298 ?_
                    refine lv_topi (fun x_132 ex_132 => ?_)
                    replace h := h x_132 ex_132
                    obtain ⟨g_135, h⟩ := h
                    refine rx_ld E hS g_135 d_Law_law_299 (fun x_133 ex_133 => ?_)
                    replace h := h x_133 ex_133
                    obtain ⟨g_138, h⟩ := h
                    refine mc_i hS (mc_runV (As := [.int x_125, .int x_129, .int x_133]) (rest := []) E (c_ML_define l G m v1 x_125 x_129 x_133 _ h) wd_ML_define ⟨lk_486, lk_487, lk_488⟩ rfl rfl ⟨Nat.le_of_ble_eq_true rfl, Nat.le_of_ble_eq_true rfl⟩ hp hS g_138 (by decide) rfl rfl rfl hl.1 rfl (lv_room (Nat.le_of_ble_eq_true rfl)) d_Law_law_300 ⟨by show _ + _ ≤ (600000 : Nat); omega, by show _ + _ ≤ (7302250 : Nat); omega⟩) (fun r_137 m_136 h H locs hp hS => ?_)
                    try dsimp only at h
                    refine rr_aload_n hx hb d_Law_law_303 rfl (lv_at hl 2 rfl) ?_
                    refine lv_aload_n hx hb d_Law_law_304 rfl (lv_at hl 0 rfl) ?_
                    refine lv_iload_n hx hb d_Law_law_305 rfl (lv_at hl 3 rfl) ?_
                    refine lv_iconst (v := 1) hx hb d_Law_law_306 (by decide) ?_
                    refine lv_iadd hx hb d_Law_law_307 ?_
                    refine lv_topi (fun x_139 ex_139 => ?_)
                    replace h := h x_139 ex_139
                    obtain ⟨g_142, h⟩ := h
                    refine rx_ld E hS g_142 d_Law_law_308 (fun x_140 ex_140 => ?_)
                    replace h := h x_140 ex_140
                    refine lv_aload_n hx hb d_Law_law_309 rfl (lv_at hl 0 rfl) ?_
                    refine lv_iload_n hx hb d_Law_law_310 rfl (lv_at hl 3 rfl) ?_
                    refine lv_iconst (v := 2) hx hb d_Law_law_311 (by decide) ?_
                    refine lv_iadd hx hb d_Law_law_312 ?_
                    refine lv_topi (fun x_143 ex_143 => ?_)
                    replace h := h x_143 ex_143
                    obtain ⟨g_146, h⟩ := h
                    refine rx_ld E hS g_146 d_Law_law_313 (fun x_144 ex_144 => ?_)
                    replace h := h x_144 ex_144
                    refine lv_aload_n hx hb d_Law_law_314 rfl (lv_at hl 0 rfl) ?_
                    refine lv_iload_n hx hb d_Law_law_315 rfl (lv_at hl 3 rfl) ?_
                    refine lv_iconst (v := 3) hx hb d_Law_law_316 (by decide) ?_
                    refine lv_iadd hx hb d_Law_law_317 ?_
                    refine lv_topi (fun x_147 ex_147 => ?_)
                    replace h := h x_147 ex_147
                    obtain ⟨g_150, h⟩ := h
                    refine rx_ld E hS g_150 d_Law_law_318 (fun x_148 ex_148 => ?_)
                    replace h := h x_148 ex_148
                    obtain ⟨g_153, h⟩ := h
                    refine mc_i hS (mc_runV (As := [.int x_140, .int x_144, .int x_148]) (rest := [.int r_137]) E (c_Mo_define l G m_136 v2 x_140 x_144 x_148 _ h) wd_Mo_define ⟨lk_489, lk_410, lk_411⟩ rfl rfl ⟨Nat.le_of_ble_eq_true rfl, Nat.le_of_ble_eq_true rfl⟩ hp hS g_153 (by decide) rfl rfl rfl hl.1 rfl (lv_room (Nat.le_of_ble_eq_true rfl)) d_Law_law_319 ⟨by show _ + _ ≤ (600000 : Nat); omega, by show _ + _ ≤ (7302250 : Nat); omega⟩) (fun r_152 m_151 h H locs hp hS => ?_)
                    try dsimp only at h
                    refine lv_icmp_eq (tgt := 602) hx hb d_Law_law_322 (by decide) (fun g_154 => ?_) (fun g_154 => ?_)
                    · replace h := h.1 g_154
                      exact t_Law_law_602 E hr hlo hP n ih m_151 v1 v2 v3 _ _ _ _ _ (by omega) (by omega) h hp hS (lv_sub hl [0, 1, 2, 3] rfl)
                    · replace h := h.2 g_154
                      refine lv_iconst (v := 0) hx hb d_Law_law_325 (by decide) ?_
                      exact mp_lawret E hr hlo hS (by omega) (by omega) (hP _ _ h) d_Law_law_326
                  · replace h := h.2 g_123
                    by_cases g_155 : x_8 = 7
                    · replace h := h.1 g_155
                      refine lv_tableIn (x := x_8) (off := 283) (tgt := 327) hx hb d_Law_law_44 (by rw [g_155]; decide) (by rw [g_155]; decide) (by rw [g_155]; decide) (by decide) ?_
                      refine rr_aload_n hx hb d_Law_law_327 rfl (lv_at hl 1 rfl) ?_
                      refine lv_aload_n hx hb d_Law_law_328 rfl (lv_at hl 0 rfl) ?_
                      refine lv_iload_n hx hb d_Law_law_329 rfl (lv_at hl 3 rfl) ?_
                      refine lv_iconst (v := 1) hx hb d_Law_law_330 (by decide) ?_
                      refine lv_iadd hx hb d_Law_law_331 ?_
                      refine lv_topi (fun x_156 ex_156 => ?_)
                      replace h := h x_156 ex_156
                      obtain ⟨g_159, h⟩ := h
                      refine rx_ld E hS g_159 d_Law_law_332 (fun x_157 ex_157 => ?_)
                      replace h := h x_157 ex_157
                      refine lv_aload_n hx hb d_Law_law_333 rfl (lv_at hl 0 rfl) ?_
                      refine lv_iload_n hx hb d_Law_law_334 rfl (lv_at hl 3 rfl) ?_
                      refine lv_iconst (v := 2) hx hb d_Law_law_335 (by decide) ?_
                      refine lv_iadd hx hb d_Law_law_336 ?_
                      refine lv_topi (fun x_160 ex_160 => ?_)
                      replace h := h x_160 ex_160
                      obtain ⟨g_163, h⟩ := h
                      refine rx_ld E hS g_163 d_Law_law_337 (fun x_161 ex_161 => ?_)
                      replace h := h x_161 ex_161
                      obtain ⟨g_166, h⟩ := h
                      refine mc_i hS (mc_runV (As := [.int x_157, .int x_161]) (rest := []) E (c_ML_resource l G m v1 x_157 x_161 _ h) wd_ML_resource ⟨lk_490, lk_491, lk_492⟩ rfl rfl ⟨Nat.le_of_ble_eq_true rfl, Nat.le_of_ble_eq_true rfl⟩ hp hS g_166 (by decide) rfl rfl rfl hl.1 rfl (lv_room (Nat.le_of_ble_eq_true rfl)) d_Law_law_338 ⟨by show _ + _ ≤ (600000 : Nat); omega, by show _ + _ ≤ (7302250 : Nat); omega⟩) (fun r_165 m_164 h H locs hp hS => ?_)
                      try dsimp only at h
                      refine rr_aload_n hx hb d_Law_law_341 rfl (lv_at hl 2 rfl) ?_
                      refine lv_aload_n hx hb d_Law_law_342 rfl (lv_at hl 0 rfl) ?_
                      refine lv_iload_n hx hb d_Law_law_343 rfl (lv_at hl 3 rfl) ?_
                      refine lv_iconst (v := 1) hx hb d_Law_law_344 (by decide) ?_
                      refine lv_iadd hx hb d_Law_law_345 ?_
                      refine lv_topi (fun x_167 ex_167 => ?_)
                      replace h := h x_167 ex_167
                      obtain ⟨g_170, h⟩ := h
                      refine rx_ld E hS g_170 d_Law_law_346 (fun x_168 ex_168 => ?_)
                      replace h := h x_168 ex_168
                      refine lv_aload_n hx hb d_Law_law_347 rfl (lv_at hl 0 rfl) ?_
                      refine lv_iload_n hx hb d_Law_law_348 rfl (lv_at hl 3 rfl) ?_
                      refine lv_iconst (v := 2) hx hb d_Law_law_349 (by decide) ?_
                      refine lv_iadd hx hb d_Law_law_350 ?_
                      refine lv_topi (fun x_171 ex_171 => ?_)
                      replace h := h x_171 ex_171
                      obtain ⟨g_174, h⟩ := h
                      refine rx_ld E hS g_174 d_Law_law_351 (fun x_172 ex_172 => ?_)
                      replace h := h x_172 ex_172
                      obtain ⟨g_177, h⟩ := h
                      refine mc_i hS (mc_runV (As := [.int x_168, .int x_172]) (rest := [.int r_165]) E (c_Mo_resource l G m_164 v2 x_168 x_172 _ h) wd_Mo_resource ⟨lk_493, lk_401, lk_402⟩ rfl rfl ⟨Nat.le_of_ble_eq_true rfl, Nat.le_of_ble_eq_true rfl⟩ hp hS g_177 (by decide) rfl rfl rfl hl.1 rfl (lv_room (Nat.le_of_ble_eq_true rfl)) d_Law_law_352 ⟨by show _ + _ ≤ (600000 : Nat); omega, by show _ + _ ≤ (7302250 : Nat); omega⟩) (fun r_176 m_175 h H locs hp hS => ?_)
                      try dsimp only at h
                      refine lv_icmp_eq (tgt := 602) hx hb d_Law_law_355 (by decide) (fun g_178 => ?_) (fun g_178 => ?_)
                      · replace h := h.1 g_178
                        exact t_Law_law_602 E hr hlo hP n ih m_175 v1 v2 v3 _ _ _ _ _ (by omega) (by omega) h hp hS (lv_sub hl [0, 1, 2, 3] rfl)
                      · replace h := h.2 g_178
                        refine lv_iconst (v := 0) hx hb d_Law_law_358 (by decide) ?_
                        exact mp_lawret E hr hlo hS (by omega) (by omega) (hP _ _ h) d_Law_law_359
                    · replace h := h.2 g_155
                      by_cases g_179 : x_8 = 8
                      · replace h := h.1 g_179
                        refine lv_tableIn (x := x_8) (off := 316) (tgt := 360) hx hb d_Law_law_44 (by rw [g_179]; decide) (by rw [g_179]; decide) (by rw [g_179]; decide) (by decide) ?_
                        refine rr_aload_n hx hb d_Law_law_360 rfl (lv_at hl 1 rfl) ?_
                        refine lv_aload_n hx hb d_Law_law_361 rfl (lv_at hl 0 rfl) ?_
                        refine lv_iload_n hx hb d_Law_law_362 rfl (lv_at hl 3 rfl) ?_
                        refine lv_iconst (v := 1) hx hb d_Law_law_363 (by decide) ?_
                        refine lv_iadd hx hb d_Law_law_364 ?_
                        refine lv_topi (fun x_180 ex_180 => ?_)
                        replace h := h x_180 ex_180
                        obtain ⟨g_183, h⟩ := h
                        refine rx_ld E hS g_183 d_Law_law_365 (fun x_181 ex_181 => ?_)
                        replace h := h x_181 ex_181
                        refine lv_aload_n hx hb d_Law_law_366 rfl (lv_at hl 0 rfl) ?_
                        refine lv_iload_n hx hb d_Law_law_367 rfl (lv_at hl 3 rfl) ?_
                        refine lv_iconst (v := 2) hx hb d_Law_law_368 (by decide) ?_
                        refine lv_iadd hx hb d_Law_law_369 ?_
                        refine lv_topi (fun x_184 ex_184 => ?_)
                        replace h := h x_184 ex_184
                        obtain ⟨g_187, h⟩ := h
                        refine rx_ld E hS g_187 d_Law_law_370 (fun x_185 ex_185 => ?_)
                        replace h := h x_185 ex_185
                        obtain ⟨g_190, h⟩ := h
                        refine mc_i hS (mc_runV (As := [.int x_181, .int x_185]) (rest := []) E (c_ML_file l G m v1 x_181 x_185 _ h) wd_ML_file ⟨lk_494, lk_495, lk_496⟩ rfl rfl ⟨Nat.le_of_ble_eq_true rfl, Nat.le_of_ble_eq_true rfl⟩ hp hS g_190 (by decide) rfl rfl rfl hl.1 rfl (lv_room (Nat.le_of_ble_eq_true rfl)) d_Law_law_371 ⟨by show _ + _ ≤ (600000 : Nat); omega, by show _ + _ ≤ (7302250 : Nat); omega⟩) (fun r_189 m_188 h H locs hp hS => ?_)
                        try dsimp only at h
                        refine rr_aload_n hx hb d_Law_law_374 rfl (lv_at hl 2 rfl) ?_
                        refine lv_aload_n hx hb d_Law_law_375 rfl (lv_at hl 0 rfl) ?_
                        refine lv_iload_n hx hb d_Law_law_376 rfl (lv_at hl 3 rfl) ?_
                        refine lv_iconst (v := 1) hx hb d_Law_law_377 (by decide) ?_
                        refine lv_iadd hx hb d_Law_law_378 ?_
                        refine lv_topi (fun x_191 ex_191 => ?_)
                        replace h := h x_191 ex_191
                        obtain ⟨g_194, h⟩ := h
                        refine rx_ld E hS g_194 d_Law_law_379 (fun x_192 ex_192 => ?_)
                        replace h := h x_192 ex_192
                        refine lv_aload_n hx hb d_Law_law_380 rfl (lv_at hl 0 rfl) ?_
                        refine lv_iload_n hx hb d_Law_law_381 rfl (lv_at hl 3 rfl) ?_
                        refine lv_iconst (v := 2) hx hb d_Law_law_382 (by decide) ?_
                        refine lv_iadd hx hb d_Law_law_383 ?_
                        refine lv_topi (fun x_195 ex_195 => ?_)
                        replace h := h x_195 ex_195
                        obtain ⟨g_198, h⟩ := h
                        refine rx_ld E hS g_198 d_Law_law_384 (fun x_196 ex_196 => ?_)
                        replace h := h x_196 ex_196
                        obtain ⟨g_201, h⟩ := h
                        refine mc_i hS (mc_runV (As := [.int x_192, .int x_196]) (rest := [.int r_189]) E (c_Mo_file l G m_188 v2 x_192 x_196 _ h) wd_Mo_file ⟨lk_497, lk_498, lk_499⟩ rfl rfl ⟨Nat.le_of_ble_eq_true rfl, Nat.le_of_ble_eq_true rfl⟩ hp hS g_201 (by decide) rfl rfl rfl hl.1 rfl (lv_room (Nat.le_of_ble_eq_true rfl)) d_Law_law_385 ⟨by show _ + _ ≤ (600000 : Nat); omega, by show _ + _ ≤ (7302250 : Nat); omega⟩) (fun r_200 m_199 h H locs hp hS => ?_)
                        try dsimp only at h
                        refine lv_icmp_eq (tgt := 602) hx hb d_Law_law_388 (by decide) (fun g_202 => ?_) (fun g_202 => ?_)
                        · replace h := h.1 g_202
                          exact t_Law_law_602 E hr hlo hP n ih m_199 v1 v2 v3 _ _ _ _ _ (by omega) (by omega) h hp hS (lv_sub hl [0, 1, 2, 3] rfl)
                        · replace h := h.2 g_202
                          refine lv_iconst (v := 0) hx hb d_Law_law_391 (by decide) ?_
                          exact mp_lawret E hr hlo hS (by omega) (by omega) (hP _ _ h) d_Law_law_392
                      · replace h := h.2 g_179
                        by_cases g_203 : x_8 = 9
                        · replace h := h.1 g_203
                          refine lv_tableIn (x := x_8) (off := 349) (tgt := 393) hx hb d_Law_law_44 (by rw [g_203]; decide) (by rw [g_203]; decide) (by rw [g_203]; decide) (by decide) ?_
                          refine rr_aload_n hx hb d_Law_law_393 rfl (lv_at hl 1 rfl) ?_
                          refine lv_aload_n hx hb d_Law_law_394 rfl (lv_at hl 0 rfl) ?_
                          refine lv_iload_n hx hb d_Law_law_395 rfl (lv_at hl 3 rfl) ?_
                          refine lv_iconst (v := 1) hx hb d_Law_law_396 (by decide) ?_
                          refine lv_iadd hx hb d_Law_law_397 ?_
                          refine lv_topi (fun x_204 ex_204 => ?_)
                          replace h := h x_204 ex_204
                          obtain ⟨g_207, h⟩ := h
                          refine rx_ld E hS g_207 d_Law_law_398 (fun x_205 ex_205 => ?_)
                          replace h := h x_205 ex_205
                          refine lv_aload_n hx hb d_Law_law_399 rfl (lv_at hl 0 rfl) ?_
                          refine lv_iload_n hx hb d_Law_law_400 rfl (lv_at hl 3 rfl) ?_
                          refine lv_iconst (v := 2) hx hb d_Law_law_401 (by decide) ?_
                          refine lv_iadd hx hb d_Law_law_402 ?_
                          refine lv_topi (fun x_208 ex_208 => ?_)
                          replace h := h x_208 ex_208
                          obtain ⟨g_211, h⟩ := h
                          refine rx_ld E hS g_211 d_Law_law_403 (fun x_209 ex_209 => ?_)
                          replace h := h x_209 ex_209
                          obtain ⟨x_212, ex_212⟩ : ∃ y : Int32, y = x_209.toInt8.toInt32 := ⟨_, rfl⟩
                          replace h := h x_212 ex_212
                          refine lv_i2b hx hb d_Law_law_404 ex_212.symm ?_
                          obtain ⟨g_215, h⟩ := h
                          refine mc_i hS (mc_runV (As := [.int x_205, .int x_212]) (rest := []) E (c_ML_write l G m v1 x_205 x_212 _ h) wd_ML_write ⟨lk_500, lk_501, lk_502⟩ rfl rfl ⟨Nat.le_of_ble_eq_true rfl, Nat.le_of_ble_eq_true rfl⟩ hp hS g_215 (by decide) rfl rfl rfl hl.1 rfl (lv_room (Nat.le_of_ble_eq_true rfl)) d_Law_law_405 ⟨by show _ + _ ≤ (600000 : Nat); omega, by show _ + _ ≤ (7302250 : Nat); omega⟩) (fun r_214 m_213 h H locs hp hS => ?_)
                          try dsimp only at h
                          refine rr_aload_n hx hb d_Law_law_408 rfl (lv_at hl 2 rfl) ?_
                          refine lv_aload_n hx hb d_Law_law_409 rfl (lv_at hl 0 rfl) ?_
                          refine lv_iload_n hx hb d_Law_law_410 rfl (lv_at hl 3 rfl) ?_
                          refine lv_iconst (v := 1) hx hb d_Law_law_411 (by decide) ?_
                          refine lv_iadd hx hb d_Law_law_412 ?_
                          refine lv_topi (fun x_216 ex_216 => ?_)
                          replace h := h x_216 ex_216
                          obtain ⟨g_219, h⟩ := h
                          refine rx_ld E hS g_219 d_Law_law_413 (fun x_217 ex_217 => ?_)
                          replace h := h x_217 ex_217
                          refine lv_aload_n hx hb d_Law_law_414 rfl (lv_at hl 0 rfl) ?_
                          refine lv_iload_n hx hb d_Law_law_415 rfl (lv_at hl 3 rfl) ?_
                          refine lv_iconst (v := 2) hx hb d_Law_law_416 (by decide) ?_
                          refine lv_iadd hx hb d_Law_law_417 ?_
                          refine lv_topi (fun x_220 ex_220 => ?_)
                          replace h := h x_220 ex_220
                          obtain ⟨g_223, h⟩ := h
                          refine rx_ld E hS g_223 d_Law_law_418 (fun x_221 ex_221 => ?_)
                          replace h := h x_221 ex_221
                          obtain ⟨x_224, ex_224⟩ : ∃ y : Int32, y = x_221.toInt8.toInt32 := ⟨_, rfl⟩
                          replace h := h x_224 ex_224
                          refine lv_i2b hx hb d_Law_law_419 ex_224.symm ?_
                          obtain ⟨g_227, h⟩ := h
                          refine mc_i hS (mc_runV (As := [.int x_217, .int x_224]) (rest := [.int r_214]) E (c_Mo_write l G m_213 v2 x_217 x_224 _ h) wd_Mo_write ⟨lk_503, lk_504, lk_505⟩ rfl rfl ⟨Nat.le_of_ble_eq_true rfl, Nat.le_of_ble_eq_true rfl⟩ hp hS g_227 (by decide) rfl rfl rfl hl.1 rfl (lv_room (Nat.le_of_ble_eq_true rfl)) d_Law_law_420 ⟨by show _ + _ ≤ (600000 : Nat); omega, by show _ + _ ≤ (7302250 : Nat); omega⟩) (fun r_226 m_225 h H locs hp hS => ?_)
                          try dsimp only at h
                          refine lv_icmp_eq (tgt := 602) hx hb d_Law_law_423 (by decide) (fun g_228 => ?_) (fun g_228 => ?_)
                          · replace h := h.1 g_228
                            exact t_Law_law_602 E hr hlo hP n ih m_225 v1 v2 v3 _ _ _ _ _ (by omega) (by omega) h hp hS (lv_sub hl [0, 1, 2, 3] rfl)
                          · replace h := h.2 g_228
                            refine lv_iconst (v := 0) hx hb d_Law_law_426 (by decide) ?_
                            exact mp_lawret E hr hlo hS (by omega) (by omega) (hP _ _ h) d_Law_law_427
                        · replace h := h.2 g_203
                          by_cases g_229 : x_8 = 10
                          · replace h := h.1 g_229
                            refine lv_tableIn (x := x_8) (off := 384) (tgt := 428) hx hb d_Law_law_44 (by rw [g_229]; decide) (by rw [g_229]; decide) (by rw [g_229]; decide) (by decide) ?_
                            refine rr_aload_n hx hb d_Law_law_428 rfl (lv_at hl 1 rfl) ?_
                            refine lv_aload_n hx hb d_Law_law_429 rfl (lv_at hl 0 rfl) ?_
                            refine lv_iload_n hx hb d_Law_law_430 rfl (lv_at hl 3 rfl) ?_
                            refine lv_iconst (v := 1) hx hb d_Law_law_431 (by decide) ?_
                            refine lv_iadd hx hb d_Law_law_432 ?_
                            refine lv_topi (fun x_230 ex_230 => ?_)
                            replace h := h x_230 ex_230
                            obtain ⟨g_233, h⟩ := h
                            refine rx_ld E hS g_233 d_Law_law_433 (fun x_231 ex_231 => ?_)
                            replace h := h x_231 ex_231
                            obtain ⟨g_236, h⟩ := h
                            refine mc_i hS (mc_runV (As := [.int x_231]) (rest := []) E (c_ML_read l G m v1 x_231 _ h) wd_ML_read ⟨lk_506, lk_507, lk_508⟩ rfl rfl ⟨Nat.le_of_ble_eq_true rfl, Nat.le_of_ble_eq_true rfl⟩ hp hS g_236 (by decide) rfl rfl rfl hl.1 rfl (lv_room (Nat.le_of_ble_eq_true rfl)) d_Law_law_434 ⟨by show _ + _ ≤ (600000 : Nat); omega, by show _ + _ ≤ (7302250 : Nat); omega⟩) (fun r_235 m_234 h H locs hp hS => ?_)
                            try dsimp only at h
                            refine rr_aload_n hx hb d_Law_law_437 rfl (lv_at hl 2 rfl) ?_
                            refine lv_aload_n hx hb d_Law_law_438 rfl (lv_at hl 0 rfl) ?_
                            refine lv_iload_n hx hb d_Law_law_439 rfl (lv_at hl 3 rfl) ?_
                            refine lv_iconst (v := 1) hx hb d_Law_law_440 (by decide) ?_
                            refine lv_iadd hx hb d_Law_law_441 ?_
                            refine lv_topi (fun x_237 ex_237 => ?_)
                            replace h := h x_237 ex_237
                            obtain ⟨g_240, h⟩ := h
                            refine rx_ld E hS g_240 d_Law_law_442 (fun x_238 ex_238 => ?_)
                            replace h := h x_238 ex_238
                            obtain ⟨g_243, h⟩ := h
                            refine mc_i hS (mc_runV (As := [.int x_238]) (rest := [.int r_235]) E (c_Mo_read l G m_234 v2 x_238 _ h) wd_Mo_read ⟨lk_509, lk_510, lk_511⟩ rfl rfl ⟨Nat.le_of_ble_eq_true rfl, Nat.le_of_ble_eq_true rfl⟩ hp hS g_243 (by decide) rfl rfl rfl hl.1 rfl (lv_room (Nat.le_of_ble_eq_true rfl)) d_Law_law_443 ⟨by show _ + _ ≤ (600000 : Nat); omega, by show _ + _ ≤ (7302250 : Nat); omega⟩) (fun r_242 m_241 h H locs hp hS => ?_)
                            try dsimp only at h
                            refine lv_icmp_eq (tgt := 602) hx hb d_Law_law_446 (by decide) (fun g_244 => ?_) (fun g_244 => ?_)
                            · replace h := h.1 g_244
                              exact t_Law_law_602 E hr hlo hP n ih m_241 v1 v2 v3 _ _ _ _ _ (by omega) (by omega) h hp hS (lv_sub hl [0, 1, 2, 3] rfl)
                            · replace h := h.2 g_244
                              refine lv_iconst (v := 0) hx hb d_Law_law_449 (by decide) ?_
                              exact mp_lawret E hr hlo hS (by omega) (by omega) (hP _ _ h) d_Law_law_450
                          · replace h := h.2 g_229
                            by_cases g_245 : x_8 = 11
                            · replace h := h.1 g_245
                              refine lv_tableIn (x := x_8) (off := 407) (tgt := 451) hx hb d_Law_law_44 (by rw [g_245]; decide) (by rw [g_245]; decide) (by rw [g_245]; decide) (by decide) ?_
                              refine rr_aload_n hx hb d_Law_law_451 rfl (lv_at hl 1 rfl) ?_
                              refine lv_aload_n hx hb d_Law_law_452 rfl (lv_at hl 0 rfl) ?_
                              refine lv_iload_n hx hb d_Law_law_453 rfl (lv_at hl 3 rfl) ?_
                              refine lv_iconst (v := 1) hx hb d_Law_law_454 (by decide) ?_
                              refine lv_iadd hx hb d_Law_law_455 ?_
                              refine lv_topi (fun x_246 ex_246 => ?_)
                              replace h := h x_246 ex_246
                              obtain ⟨g_249, h⟩ := h
                              refine rx_ld E hS g_249 d_Law_law_456 (fun x_247 ex_247 => ?_)
                              replace h := h x_247 ex_247
                              refine lv_aload_n hx hb d_Law_law_457 rfl (lv_at hl 0 rfl) ?_
                              refine lv_iload_n hx hb d_Law_law_458 rfl (lv_at hl 3 rfl) ?_
                              refine lv_iconst (v := 2) hx hb d_Law_law_459 (by decide) ?_
                              refine lv_iadd hx hb d_Law_law_460 ?_
                              refine lv_topi (fun x_250 ex_250 => ?_)
                              replace h := h x_250 ex_250
                              obtain ⟨g_253, h⟩ := h
                              refine rx_ld E hS g_253 d_Law_law_461 (fun x_251 ex_251 => ?_)
                              replace h := h x_251 ex_251
                              obtain ⟨g_256, h⟩ := h
                              refine mc_i hS (mc_runV (As := [.int x_247, .int x_251]) (rest := []) E (c_ML_filter l G m v1 x_247 x_251 _ h) wd_ML_filter ⟨lk_512, lk_513, lk_514⟩ rfl rfl ⟨Nat.le_of_ble_eq_true rfl, Nat.le_of_ble_eq_true rfl⟩ hp hS g_256 (by decide) rfl rfl rfl hl.1 rfl (lv_room (Nat.le_of_ble_eq_true rfl)) d_Law_law_462 ⟨by show _ + _ ≤ (600000 : Nat); omega, by show _ + _ ≤ (7302250 : Nat); omega⟩) (fun r_255 m_254 h H locs hp hS => ?_)
                              try dsimp only at h
                              refine rr_aload_n hx hb d_Law_law_465 rfl (lv_at hl 2 rfl) ?_
                              refine lv_aload_n hx hb d_Law_law_466 rfl (lv_at hl 0 rfl) ?_
                              refine lv_iload_n hx hb d_Law_law_467 rfl (lv_at hl 3 rfl) ?_
                              refine lv_iconst (v := 1) hx hb d_Law_law_468 (by decide) ?_
                              refine lv_iadd hx hb d_Law_law_469 ?_
                              refine lv_topi (fun x_257 ex_257 => ?_)
                              replace h := h x_257 ex_257
                              obtain ⟨g_260, h⟩ := h
                              refine rx_ld E hS g_260 d_Law_law_470 (fun x_258 ex_258 => ?_)
                              replace h := h x_258 ex_258
                              refine lv_aload_n hx hb d_Law_law_471 rfl (lv_at hl 0 rfl) ?_
                              refine lv_iload_n hx hb d_Law_law_472 rfl (lv_at hl 3 rfl) ?_
                              refine lv_iconst (v := 2) hx hb d_Law_law_473 (by decide) ?_
                              refine lv_iadd hx hb d_Law_law_474 ?_
                              refine lv_topi (fun x_261 ex_261 => ?_)
                              replace h := h x_261 ex_261
                              obtain ⟨g_264, h⟩ := h
                              refine rx_ld E hS g_264 d_Law_law_475 (fun x_262 ex_262 => ?_)
                              replace h := h x_262 ex_262
                              obtain ⟨g_267, h⟩ := h
                              refine mc_i hS (mc_runV (As := [.int x_258, .int x_262]) (rest := [.int r_255]) E (c_Mo_filter l G m_254 v2 x_258 x_262 _ h) wd_Mo_filter ⟨lk_515, lk_516, lk_517⟩ rfl rfl ⟨Nat.le_of_ble_eq_true rfl, Nat.le_of_ble_eq_true rfl⟩ hp hS g_267 (by decide) rfl rfl rfl hl.1 rfl (lv_room (Nat.le_of_ble_eq_true rfl)) d_Law_law_476 ⟨by show _ + _ ≤ (600000 : Nat); omega, by show _ + _ ≤ (7302250 : Nat); omega⟩) (fun r_266 m_265 h H locs hp hS => ?_)
                              try dsimp only at h
                              refine lv_icmp_eq (tgt := 602) hx hb d_Law_law_479 (by decide) (fun g_268 => ?_) (fun g_268 => ?_)
                              · replace h := h.1 g_268
                                exact t_Law_law_602 E hr hlo hP n ih m_265 v1 v2 v3 _ _ _ _ _ (by omega) (by omega) h hp hS (lv_sub hl [0, 1, 2, 3] rfl)
                              · replace h := h.2 g_268
                                refine lv_iconst (v := 0) hx hb d_Law_law_482 (by decide) ?_
                                exact mp_lawret E hr hlo hS (by omega) (by omega) (hP _ _ h) d_Law_law_483
                            · replace h := h.2 g_245
                              by_cases g_269 : x_8 = 12
                              · replace h := h.1 g_269
                                refine lv_tableIn (x := x_8) (off := 440) (tgt := 484) hx hb d_Law_law_44 (by rw [g_269]; decide) (by rw [g_269]; decide) (by rw [g_269]; decide) (by decide) ?_
                                refine rr_aload_n hx hb d_Law_law_484 rfl (lv_at hl 1 rfl) ?_
                                refine lv_aload_n hx hb d_Law_law_485 rfl (lv_at hl 0 rfl) ?_
                                refine lv_iload_n hx hb d_Law_law_486 rfl (lv_at hl 3 rfl) ?_
                                refine lv_iconst (v := 1) hx hb d_Law_law_487 (by decide) ?_
                                refine lv_iadd hx hb d_Law_law_488 ?_
                                refine lv_topi (fun x_270 ex_270 => ?_)
                                replace h := h x_270 ex_270
                                obtain ⟨g_273, h⟩ := h
                                refine rx_ld E hS g_273 d_Law_law_489 (fun x_271 ex_271 => ?_)
                                replace h := h x_271 ex_271
                                obtain ⟨g_276, h⟩ := h
                                refine mc_i hS (mc_runV (As := [.int x_271]) (rest := []) E (c_ML_close l G m v1 x_271 _ h) wd_ML_close ⟨lk_518, lk_519, lk_520⟩ rfl rfl ⟨Nat.le_of_ble_eq_true rfl, Nat.le_of_ble_eq_true rfl⟩ hp hS g_276 (by decide) rfl rfl rfl hl.1 rfl (lv_room (Nat.le_of_ble_eq_true rfl)) d_Law_law_490 ⟨by show _ + _ ≤ (600000 : Nat); omega, by show _ + _ ≤ (7302250 : Nat); omega⟩) (fun r_275 m_274 h H locs hp hS => ?_)
                                try dsimp only at h
                                refine rr_aload_n hx hb d_Law_law_493 rfl (lv_at hl 2 rfl) ?_
                                refine lv_aload_n hx hb d_Law_law_494 rfl (lv_at hl 0 rfl) ?_
                                refine lv_iload_n hx hb d_Law_law_495 rfl (lv_at hl 3 rfl) ?_
                                refine lv_iconst (v := 1) hx hb d_Law_law_496 (by decide) ?_
                                refine lv_iadd hx hb d_Law_law_497 ?_
                                refine lv_topi (fun x_277 ex_277 => ?_)
                                replace h := h x_277 ex_277
                                obtain ⟨g_280, h⟩ := h
                                refine rx_ld E hS g_280 d_Law_law_498 (fun x_278 ex_278 => ?_)
                                replace h := h x_278 ex_278
                                obtain ⟨g_283, h⟩ := h
                                refine mc_i hS (mc_runV (As := [.int x_278]) (rest := [.int r_275]) E (c_Mo_close l G m_274 v2 x_278 _ h) wd_Mo_close ⟨lk_521, lk_522, lk_523⟩ rfl rfl ⟨Nat.le_of_ble_eq_true rfl, Nat.le_of_ble_eq_true rfl⟩ hp hS g_283 (by decide) rfl rfl rfl hl.1 rfl (lv_room (Nat.le_of_ble_eq_true rfl)) d_Law_law_499 ⟨by show _ + _ ≤ (600000 : Nat); omega, by show _ + _ ≤ (7302250 : Nat); omega⟩) (fun r_282 m_281 h H locs hp hS => ?_)
                                try dsimp only at h
                                refine lv_icmp_eq (tgt := 602) hx hb d_Law_law_502 (by decide) (fun g_284 => ?_) (fun g_284 => ?_)
                                · replace h := h.1 g_284
                                  exact t_Law_law_602 E hr hlo hP n ih m_281 v1 v2 v3 _ _ _ _ _ (by omega) (by omega) h hp hS (lv_sub hl [0, 1, 2, 3] rfl)
                                · replace h := h.2 g_284
                                  refine lv_iconst (v := 0) hx hb d_Law_law_505 (by decide) ?_
                                  exact mp_lawret E hr hlo hS (by omega) (by omega) (hP _ _ h) d_Law_law_506
                              · replace h := h.2 g_269
                                by_cases g_285 : x_8 = 13
                                · replace h := h.1 g_285
                                  refine lv_tableIn (x := x_8) (off := 463) (tgt := 507) hx hb d_Law_law_44 (by rw [g_285]; decide) (by rw [g_285]; decide) (by rw [g_285]; decide) (by decide) ?_
                                  refine rr_aload_n hx hb d_Law_law_507 rfl (lv_at hl 1 rfl) ?_
                                  refine lv_aload_n hx hb d_Law_law_508 rfl (lv_at hl 0 rfl) ?_
                                  refine lv_iload_n hx hb d_Law_law_509 rfl (lv_at hl 3 rfl) ?_
                                  refine lv_iconst (v := 1) hx hb d_Law_law_510 (by decide) ?_
                                  refine lv_iadd hx hb d_Law_law_511 ?_
                                  refine lv_topi (fun x_286 ex_286 => ?_)
                                  replace h := h x_286 ex_286
                                  obtain ⟨g_289, h⟩ := h
                                  refine rx_ld E hS g_289 d_Law_law_512 (fun x_287 ex_287 => ?_)
                                  replace h := h x_287 ex_287
                                  refine lv_if_eq (tgt := 520) hx hb d_Law_law_513 (by decide) (fun g_290 => ?_) (fun g_290 => ?_)
                                  · replace h := h.1 g_290
                                    refine lv_iconst (v := 0) hx hb d_Law_law_520 (by decide) ?_
                                    exact t_Law_law_521 E hr hlo hP n ih m v1 v2 v3 0 v1 _ _ _ _ _ (by omega) (by omega) h hp hS (lv_sub hl [0, 1, 2, 3] rfl)
                                  · replace h := h.2 g_290
                                    refine lv_iconst (v := 1) hx hb d_Law_law_516 (by decide) ?_
                                    refine lv_goto (tgt := 521) hx hb d_Law_law_517 (by decide) ?_
                                    exact t_Law_law_521 E hr hlo hP n ih m v1 v2 v3 1 v1 _ _ _ _ _ (by omega) (by omega) h hp hS (lv_sub hl [0, 1, 2, 3] rfl)
                                · replace h := h.2 g_285
                                  by_cases g_291 : x_8 = 14
                                  · replace h := h.1 g_291
                                    refine lv_tableIn (x := x_8) (off := 502) (tgt := 546) hx hb d_Law_law_44 (by rw [g_291]; decide) (by rw [g_291]; decide) (by rw [g_291]; decide) (by decide) ?_
                                    refine rr_aload_n hx hb d_Law_law_546 rfl (lv_at hl 1 rfl) ?_
                                    refine lv_aload_n hx hb d_Law_law_547 rfl (lv_at hl 0 rfl) ?_
                                    refine lv_iload_n hx hb d_Law_law_548 rfl (lv_at hl 3 rfl) ?_
                                    refine lv_iconst (v := 1) hx hb d_Law_law_549 (by decide) ?_
                                    refine lv_iadd hx hb d_Law_law_550 ?_
                                    refine lv_topi (fun x_292 ex_292 => ?_)
                                    replace h := h x_292 ex_292
                                    obtain ⟨g_295, h⟩ := h
                                    refine rx_ld E hS g_295 d_Law_law_551 (fun x_293 ex_293 => ?_)
                                    replace h := h x_293 ex_293
                                    obtain ⟨g_298, h⟩ := h
                                    refine mc_i hS (mc_runV (As := [.int x_293]) (rest := []) E (c_ML_output l G m v1 x_293 _ h) wd_ML_output ⟨lk_524, lk_525, lk_526⟩ rfl rfl ⟨Nat.le_of_ble_eq_true rfl, Nat.le_of_ble_eq_true rfl⟩ hp hS g_298 (by decide) rfl rfl rfl hl.1 rfl (lv_room (Nat.le_of_ble_eq_true rfl)) d_Law_law_552 ⟨by show _ + _ ≤ (600000 : Nat); omega, by show _ + _ ≤ (7302250 : Nat); omega⟩) (fun r_297 m_296 h H locs hp hS => ?_)
                                    try dsimp only at h
                                    refine rr_aload_n hx hb d_Law_law_555 rfl (lv_at hl 2 rfl) ?_
                                    refine lv_aload_n hx hb d_Law_law_556 rfl (lv_at hl 0 rfl) ?_
                                    refine lv_iload_n hx hb d_Law_law_557 rfl (lv_at hl 3 rfl) ?_
                                    refine lv_iconst (v := 1) hx hb d_Law_law_558 (by decide) ?_
                                    refine lv_iadd hx hb d_Law_law_559 ?_
                                    refine lv_topi (fun x_299 ex_299 => ?_)
                                    replace h := h x_299 ex_299
                                    obtain ⟨g_302, h⟩ := h
                                    refine rx_ld E hS g_302 d_Law_law_560 (fun x_300 ex_300 => ?_)
                                    replace h := h x_300 ex_300
                                    obtain ⟨g_305, h⟩ := h
                                    refine mc_i hS (mc_runV (As := [.int x_300]) (rest := [.int r_297]) E (c_Mo_output l G m_296 v2 x_300 _ h) wd_Mo_output ⟨lk_527, lk_528, lk_529⟩ rfl rfl ⟨Nat.le_of_ble_eq_true rfl, Nat.le_of_ble_eq_true rfl⟩ hp hS g_305 (by decide) rfl rfl rfl hl.1 rfl (lv_room (Nat.le_of_ble_eq_true rfl)) d_Law_law_561 ⟨by show _ + _ ≤ (600000 : Nat); omega, by show _ + _ ≤ (7302250 : Nat); omega⟩) (fun r_304 m_303 h H locs hp hS => ?_)
                                    try dsimp only at h
                                    refine lv_icmp_eq (tgt := 602) hx hb d_Law_law_564 (by decide) (fun g_306 => ?_) (fun g_306 => ?_)
                                    · replace h := h.1 g_306
                                      exact t_Law_law_602 E hr hlo hP n ih m_303 v1 v2 v3 _ _ _ _ _ (by omega) (by omega) h hp hS (lv_sub hl [0, 1, 2, 3] rfl)
                                    · replace h := h.2 g_306
                                      refine lv_iconst (v := 0) hx hb d_Law_law_567 (by decide) ?_
                                      exact mp_lawret E hr hlo hS (by omega) (by omega) (hP _ _ h) d_Law_law_568
                                  · replace h := h.2 g_291
                                    by_cases g_307 : x_8 = 15
                                    · replace h := h.1 g_307
                                      refine lv_tableIn (x := x_8) (off := 525) (tgt := 569) hx hb d_Law_law_44 (by rw [g_307]; decide) (by rw [g_307]; decide) (by rw [g_307]; decide) (by decide) ?_
                                      refine rr_aload_n hx hb d_Law_law_569 rfl (lv_at hl 1 rfl) ?_
                                      refine lv_aload_n hx hb d_Law_law_570 rfl (lv_at hl 0 rfl) ?_
                                      refine lv_iload_n hx hb d_Law_law_571 rfl (lv_at hl 3 rfl) ?_
                                      refine lv_iconst (v := 1) hx hb d_Law_law_572 (by decide) ?_
                                      refine lv_iadd hx hb d_Law_law_573 ?_
                                      refine lv_topi (fun x_308 ex_308 => ?_)
                                      replace h := h x_308 ex_308
                                      obtain ⟨g_311, h⟩ := h
                                      refine rx_ld E hS g_311 d_Law_law_574 (fun x_309 ex_309 => ?_)
                                      replace h := h x_309 ex_309
                                      refine lv_aload_n hx hb d_Law_law_575 rfl (lv_at hl 0 rfl) ?_
                                      refine lv_iload_n hx hb d_Law_law_576 rfl (lv_at hl 3 rfl) ?_
                                      refine lv_iconst (v := 2) hx hb d_Law_law_577 (by decide) ?_
                                      refine lv_iadd hx hb d_Law_law_578 ?_
                                      refine lv_topi (fun x_312 ex_312 => ?_)
                                      replace h := h x_312 ex_312
                                      obtain ⟨g_315, h⟩ := h
                                      refine rx_ld E hS g_315 d_Law_law_579 (fun x_313 ex_313 => ?_)
                                      replace h := h x_313 ex_313
                                      obtain ⟨g_318, h⟩ := h
                                      refine mc_i hS (mc_runV (As := [.int x_309, .int x_313]) (rest := []) E (c_ML_lies l G m v1 x_309 x_313 _ h) wd_ML_lies ⟨lk_530, lk_531, lk_532⟩ rfl rfl ⟨Nat.le_of_ble_eq_true rfl, Nat.le_of_ble_eq_true rfl⟩ hp hS g_318 (by decide) rfl rfl rfl hl.1 rfl (lv_room (Nat.le_of_ble_eq_true rfl)) d_Law_law_580 ⟨by show _ + _ ≤ (600000 : Nat); omega, by show _ + _ ≤ (7302250 : Nat); omega⟩) (fun r_317 m_316 h H locs hp hS => ?_)
                                      try dsimp only at h
                                      refine rr_aload_n hx hb d_Law_law_583 rfl (lv_at hl 2 rfl) ?_
                                      refine lv_aload_n hx hb d_Law_law_584 rfl (lv_at hl 0 rfl) ?_
                                      refine lv_iload_n hx hb d_Law_law_585 rfl (lv_at hl 3 rfl) ?_
                                      refine lv_iconst (v := 1) hx hb d_Law_law_586 (by decide) ?_
                                      refine lv_iadd hx hb d_Law_law_587 ?_
                                      refine lv_topi (fun x_319 ex_319 => ?_)
                                      replace h := h x_319 ex_319
                                      obtain ⟨g_322, h⟩ := h
                                      refine rx_ld E hS g_322 d_Law_law_588 (fun x_320 ex_320 => ?_)
                                      replace h := h x_320 ex_320
                                      refine lv_aload_n hx hb d_Law_law_589 rfl (lv_at hl 0 rfl) ?_
                                      refine lv_iload_n hx hb d_Law_law_590 rfl (lv_at hl 3 rfl) ?_
                                      refine lv_iconst (v := 2) hx hb d_Law_law_591 (by decide) ?_
                                      refine lv_iadd hx hb d_Law_law_592 ?_
                                      refine lv_topi (fun x_323 ex_323 => ?_)
                                      replace h := h x_323 ex_323
                                      obtain ⟨g_326, h⟩ := h
                                      refine rx_ld E hS g_326 d_Law_law_593 (fun x_324 ex_324 => ?_)
                                      replace h := h x_324 ex_324
                                      obtain ⟨g_329, h⟩ := h
                                      refine mc_i hS (mc_runV (As := [.int x_320, .int x_324]) (rest := [.int r_317]) E (c_Mo_lies l G m_316 v2 x_320 x_324 _ h) wd_Mo_lies ⟨lk_533, lk_534, lk_535⟩ rfl rfl ⟨Nat.le_of_ble_eq_true rfl, Nat.le_of_ble_eq_true rfl⟩ hp hS g_329 (by decide) rfl rfl rfl hl.1 rfl (lv_room (Nat.le_of_ble_eq_true rfl)) d_Law_law_594 ⟨by show _ + _ ≤ (600000 : Nat); omega, by show _ + _ ≤ (7302250 : Nat); omega⟩) (fun r_328 m_327 h H locs hp hS => ?_)
                                      try dsimp only at h
                                      refine lv_icmp_eq (tgt := 602) hx hb d_Law_law_597 (by decide) (fun g_330 => ?_) (fun g_330 => ?_)
                                      · replace h := h.1 g_330
                                        exact t_Law_law_602 E hr hlo hP n ih m_327 v1 v2 v3 _ _ _ _ _ (by omega) (by omega) h hp hS (lv_sub hl [0, 1, 2, 3] rfl)
                                      · replace h := h.2 g_330
                                        refine lv_iconst (v := 0) hx hb d_Law_law_600 (by decide) ?_
                                        exact mp_lawret E hr hlo hS (by omega) (by omega) (hP _ _ h) d_Law_law_601
                                    · replace h := h.2 g_307
                                      have ng_9 := lv_neT g_9 (show (0 : Int32).toInt = 0 from by decide)
                                      have ng_17 := lv_neT g_17 (show (1 : Int32).toInt = 1 from by decide)
                                      have ng_43 := lv_neT g_43 (show (2 : Int32).toInt = 2 from by decide)
                                      have ng_51 := lv_neT g_51 (show (3 : Int32).toInt = 3 from by decide)
                                      have ng_75 := lv_neT g_75 (show (4 : Int32).toInt = 4 from by decide)
                                      have ng_99 := lv_neT g_99 (show (5 : Int32).toInt = 5 from by decide)
                                      have ng_123 := lv_neT g_123 (show (6 : Int32).toInt = 6 from by decide)
                                      have ng_155 := lv_neT g_155 (show (7 : Int32).toInt = 7 from by decide)
                                      have ng_179 := lv_neT g_179 (show (8 : Int32).toInt = 8 from by decide)
                                      have ng_203 := lv_neT g_203 (show (9 : Int32).toInt = 9 from by decide)
                                      have ng_229 := lv_neT g_229 (show (10 : Int32).toInt = 10 from by decide)
                                      have ng_245 := lv_neT g_245 (show (11 : Int32).toInt = 11 from by decide)
                                      have ng_269 := lv_neT g_269 (show (12 : Int32).toInt = 12 from by decide)
                                      have ng_285 := lv_neT g_285 (show (13 : Int32).toInt = 13 from by decide)
                                      have ng_291 := lv_neT g_291 (show (14 : Int32).toInt = 14 from by decide)
                                      have ng_307 := lv_neT g_307 (show (15 : Int32).toInt = 15 from by decide)
                                      refine lv_tableD (x := x_8) (tgt := 602) (real := [0, 1, 2, 3, 4, 5, 6, 7, 8, 9, 10, 11, 12, 13, 14, 15]) hx hb d_Law_law_44 (by decide) (fun q1 q2 => ⟨by simp only [List.size_toArray, List.length_cons, List.length_nil]; omega, by simp only [List.mem_cons, List.not_mem_nil, or_false]; omega⟩) (by decide) ?_
                                      exact t_Law_law_602 E hr hlo hP n ih m v1 v2 v3 _ _ _ _ _ (by omega) (by omega) h hp hS (lv_sub hl [0, 1, 2, 3] rfl)
set_option maxHeartbeats 4000000 in
set_option maxRecDepth 100000 in
theorem t_Law_law_0 {G : Gc} {P : Int32 → Mm → Prop} (E : En G R_Law b_Law_law 4 p s mt #[Value.ref (G.2.2.1 99)] meth c) (hr : meth.sig.returnType = ret) (hlo : G.2.2.2.1 = s.heap.size) (hP : ∀ r m, P r m → r = 1) (m : Mm) (H : Heap) (locs : List Loc) (ls : Array Slot) (cs sl : Nat) (hc : cs + (1622) ≤ 600000) (hs : sl + (140023) ≤ 7302250) (h : wp_Law_law_0 G.2.2.2.2.1 G.2.2.2.2.2 P m) (hp : pic G m H) (hS : va_S (fr G) s.heap H locs) (hl : lv_has ls 4 [(0, .ref (G.2.2.1 99))]) : W p l e room_1 s mt #[Value.ref (G.2.2.1 99)] below meth c H locs cs sl (lw_Z below #[Value.ref (G.2.2.1 99)] s) (F0 mt 0 ls []) := by
  have hx := E.1
  have hb := E.2.1
  unfold wp_Law_law_0 at h
  refine rn_ML E hp hS lk_536 (by show _ + _ ≤ (600000 : Nat); omega) (by show _ + _ ≤ (7302250 : Nat); omega) d_Law_law_0 (fun q_1 g_3 g_4 m_2 em_2 H hp hS => ?_)
  replace h := h q_1 g_3 g_4 m_2 em_2
  refine lv_dup hx hb d_Law_law_3 (rn_cat _) ?_
  refine lv_aload_n hx hb d_Law_law_4 rfl (lv_at hl 0 rfl) ?_
  refine lv_iconst (v := 0) hx hb d_Law_law_5 (by decide) ?_
  refine mc_i hS (mc_runS (As := [.ref (G.2.2.1 99), .int 0]) (rest := [rn q_1, rn q_1]) E (c_Law_cell l G m_2 0 _ h) wd_Law_cell ⟨lk_537, lk_538⟩ rfl rfl ⟨Nat.le_of_ble_eq_true rfl, Nat.le_of_ble_eq_true rfl⟩ hp hS rfl hl.1 rfl (lv_room (by simp [rn_cat, cat_int, cat_long, cat_ref, cat_null])) d_Law_law_6 ⟨by show _ + _ ≤ (600000 : Nat); omega, by show _ + _ ≤ (7302250 : Nat); omega⟩) (fun r_6 m_5 h H locs hp hS => ?_)
  try dsimp only at h
  obtain ⟨x_7, ex_7⟩ : ∃ y : Int64, y = r_6.toInt64 := ⟨_, rfl⟩
  replace h := h x_7 ex_7
  refine lv_i2l hx hb d_Law_law_9 ex_7.symm ?_
  refine mc_v hS (mc_runI (As := [.long x_7]) (rest := [rn q_1]) E (c_ML_init l G m_5 q_1 x_7 _ h) wd_ML_init ⟨lk_539, lk_540⟩ rfl rfl rfl ⟨Nat.le_of_ble_eq_true rfl, Nat.le_of_ble_eq_true rfl⟩ hp hS g_4 rfl hl.1 rfl (lv_room (by simp [rn_cat, cat_int, cat_long, cat_ref, cat_null])) d_Law_law_10 ⟨by show _ + _ ≤ (600000 : Nat); omega, by show _ + _ ≤ (7302250 : Nat); omega⟩) (fun m_8 h H locs hp hS => ?_)
  try dsimp only at h
  refine rr_astore_n (lv' := [(1, rn q_1), (0, .ref (G.2.2.1 99))]) hx hb d_Law_law_13 rfl hl (by decide) rfl (fun ls hl => ?_)
  refine rn_Mo E hp hS lk_541 (by show _ + _ ≤ (600000 : Nat); omega) (by show _ + _ ≤ (7302250 : Nat); omega) d_Law_law_14 (fun q_10 g_12 g_13 m_11 em_11 H hp hS => ?_)
  replace h := h q_10 g_12 g_13 m_11 em_11
  refine lv_dup hx hb d_Law_law_17 (rn_cat _) ?_
  refine lv_aload_n hx hb d_Law_law_18 rfl (lv_at hl 1 rfl) ?_
  refine lv_iconst (v := 0) hx hb d_Law_law_19 (by decide) ?_
  refine mc_i hS (mc_runS (As := [.ref (G.2.2.1 99), .int 0]) (rest := [rn q_10, rn q_10]) E (c_Law_cell l G m_11 0 _ h) wd_Law_cell ⟨lk_537, lk_538⟩ rfl rfl ⟨Nat.le_of_ble_eq_true rfl, Nat.le_of_ble_eq_true rfl⟩ hp hS rfl hl.1 rfl (lv_room (by simp [rn_cat, cat_int, cat_long, cat_ref, cat_null])) d_Law_law_20 ⟨by show _ + _ ≤ (600000 : Nat); omega, by show _ + _ ≤ (7302250 : Nat); omega⟩) (fun r_15 m_14 h H locs hp hS => ?_)
  try dsimp only at h
  obtain ⟨x_16, ex_16⟩ : ∃ y : Int64, y = r_15.toInt64 := ⟨_, rfl⟩
  replace h := h x_16 ex_16
  refine lv_i2l hx hb d_Law_law_23 ex_16.symm ?_
  refine mc_v hS (mc_runI (As := [.long x_16]) (rest := [rn q_10]) E (c_Mo_init l G m_14 q_10 x_16 _ h) wd_Mo_init ⟨lk_542, lk_543⟩ rfl rfl rfl ⟨Nat.le_of_ble_eq_true rfl, Nat.le_of_ble_eq_true rfl⟩ hp hS g_13 rfl hl.1 rfl (lv_room (by simp [rn_cat, cat_int, cat_long, cat_ref, cat_null])) d_Law_law_24 ⟨by show _ + _ ≤ (600000 : Nat); omega, by show _ + _ ≤ (7302250 : Nat); omega⟩) (fun m_17 h H locs hp hS => ?_)
  try dsimp only at h
  refine rr_astore_n (lv' := [(2, rn q_10), (1, rn q_1), (0, .ref (G.2.2.1 99))]) hx hb d_Law_law_27 rfl hl (by decide) (by simp [rn_cat, cat_ref] <;> decide) (fun ls hl => ?_)
  refine lv_iconst (v := 1) hx hb d_Law_law_28 (by decide) ?_
  refine lv_istore_n (lv' := [(3, .int 1), (2, rn q_10), (1, rn q_1), (0, .ref (G.2.2.1 99))]) hx hb d_Law_law_29 rfl hl (by decide) (by simp [rn_cat, cat_ref] <;> decide) (fun ls hl => ?_)
  exact t_Law_law_30 E hr hlo hP 513 m_17 q_1 q_10 1 _ _ _ _ _ (by omega) (by omega) h hp hS (lv_sub hl [3, 2, 1, 0] rfl)
end WK
