/-! PICTURES: the heap holds the memory m -/
def cf (G : Gc) (m : Mm) : Nat → va_E := fun a => cell G.2.1 m (tg m a) a
def pic (G : Gc) (m : Mm) (H : Heap) : Prop := ∃ L : List Nat, (∀ a, a ∈ L ↔ tg m a ≠ 0) ∧ va_P G.1 classes (va_pl L (cf G m)) H ∧ va_D (fr G) (va_pl L (cf G m))
theorem pic_get {G : Gc} {m : Mm} {H : Heap} {a k : Nat} (hp : pic G m H) (ht : tg m a = k) (hk : k ≠ 0) : ∃ (L : List Nat) (j : Nat), (∀ a, a ∈ L ↔ tg m a ≠ 0) ∧ va_P G.1 classes (va_pl L (cf G m)) H ∧ va_D (fr G) (va_pl L (cf G m)) ∧ (va_pl L (cf G m))[j]? = some (a, cell G.2.1 m k a) := by
  obtain ⟨L, hL, hP, hD⟩ := hp
  have hm : a ∈ L := (hL a).mpr (by rw [ht]; exact hk)
  obtain ⟨j, hj⟩ := va_pl_get (X := []) (f := cf G m) hm
  refine ⟨L, j, hL, hP, hD, ?_⟩
  rw [List.nil_append] at hj
  rw [hj]
  simp only [cf, ht]
theorem pic_lo {G : Gc} {m : Mm} {H : Heap} {a : Nat} (hp : pic G m H) (ht : tg m a ≠ 0) : G.2.2.2.1 ≤ a := by
  obtain ⟨L, j, -, -, hD, hj⟩ := pic_get hp rfl ht
  exact hD.2 j _ hj
theorem pic_upd {G : Gc} {m m' : Mm} {L : List Nat} {H1 : Heap} {a j k : Nat} {e' : va_E} (hL : ∀ a, a ∈ L ↔ tg m a ≠ 0) (ha : tg m a = k) (hk : k ≠ 0) (hD : va_D (fr G) (va_pl L (cf G m))) (hj : (va_pl L (cf G m))[j]? = some (a, cell G.2.1 m k a)) (hP1 : va_P G.1 classes ((va_pl L (cf G m)).set j (a, e')) H1) (hD1 : va_D (fr G) ((va_pl L (cf G m)).set j (a, e'))) (htg : ∀ b, tg m' b = tg m b) (he : cell G.2.1 m' k a = e') (ho : ∀ t b, b ≠ a → cell G.2.1 m' t b = cell G.2.1 m t b) : pic G m' H1 := by
  have hs : (va_pl L (cf G m)).set j (a, e') = va_pl L (cf G m') := by
    have h1 := va_pl_set (X := []) (e := e') (A := fr G) hD ((hL a).mpr (by rw [ha]; exact hk)) (k := j) (by rw [List.nil_append, hj]; simp only [cf, ha])
    rw [List.nil_append, List.nil_append] at h1
    rw [h1]
    refine va_pl_congr fun b => ?_
    by_cases hb : b = a
    · subst hb; rw [va_up_self]; simp only [cf, htg, ha, he]
    · rw [va_up_ne _ _ hb]; simp only [cf, htg]; exact (ho _ b hb).symm
  rw [hs] at hP1 hD1
  exact ⟨L, fun b => by rw [htg]; exact hL b, hP1, hD1⟩
theorem pic_push {G : Gc} {m m' : Mm} {L : List Nat} {H1 : Heap} {q k : Nat} {e' : va_E} (hL : ∀ a, a ∈ L ↔ tg m a ≠ 0) (hk : k ≠ 0) (hP1 : va_P G.1 classes (va_pl L (cf G m) ++ [(q, e')]) H1) (hD1 : va_D (fr G) (va_pl L (cf G m) ++ [(q, e')])) (hq : tg m' q = k) (htg : ∀ b, b ≠ q → tg m' b = tg m b) (he : cell G.2.1 m' k q = e') (ho : ∀ t b, b ≠ q → cell G.2.1 m' t b = cell G.2.1 m t b) : pic G m' H1 := by
  have hn : q ∉ L := va_pl_fresh2 (X := []) hD1
  have hs : va_pl L (cf G m) ++ [(q, e')] = va_pl (L ++ [q]) (cf G m') := by
    rw [va_pl_push hn]
    refine va_pl_congr fun b => ?_
    by_cases hb : b = q
    · subst hb; rw [va_up_self]; simp only [cf, hq, he]
    · rw [va_up_ne _ _ hb]; simp only [cf, htg b hb]; exact (ho _ b hb).symm
  rw [hs] at hP1 hD1
  refine ⟨L ++ [q], fun b => ?_, hP1, hD1⟩
  rw [List.mem_append, List.mem_singleton]
  by_cases hb : b = q
  · subst hb; simp [hq, hk]
  · rw [htg b hb, hL b]; simp [hb]
theorem pic_fresh {G : Gc} {m : Mm} {L : List Nat} {q : Nat} {e' : va_E} (hL : ∀ a, a ∈ L ↔ tg m a ≠ 0) (hD1 : va_D (fr G) (va_pl L (cf G m) ++ [(q, e')])) : tg m q = 0 := by
  have hn : q ∉ L := va_pl_fresh2 (X := []) hD1
  exact Decidable.byContradiction fun h => hn ((hL q).mpr h)
/-- a method's surroundings -/
def En (G : Gc) (own : String) (cc : ByteArray) (mL : Nat) (p : Program) (s : State) (m : MethodId) (args : Array Value) (meth : Method) (c : Code) : Prop := p.tables.exec = Jvm.exec ∧ c.code = cc ∧ c.maxLocals = mL ∧ s.vm.findClass own = some m.cls ∧ (∀ w ∈ lw_good, w.before args s = true) ∧ Cx G s ∧ meth.locks = false
def Pre9 (G : Gc) (m0 : Mm) (av : List Value) : Array Value → State → Prop := va_Pc av (fun U => pic G m0 U.heap ∧ Cx G U)
def PoI (G : Gc) (P : Int32 → Mm → Prop) : Array Value → State → Outcome → State → Prop := va_Qi P (fun m' t => pic G m' t.heap) (fr G)
def PoL (G : Gc) (P : Int64 → Mm → Prop) : Array Value → State → Outcome → State → Prop := va_Ql P (fun m' t => pic G m' t.heap) (fr G)
def PoV (G : Gc) (P : Mm → Prop) : Array Value → State → Outcome → State → Prop := va_Qv P (fun m' t => pic G m' t.heap) (fr G)
def PoR (G : Gc) (P : Nat → Mm → Prop) : Array Value → State → Outcome → State → Prop := va_Qq (fun r m' => ∃ x, r = ro x ∧ P x m') (fun m' t => pic G m' t.heap) (fr G)
theorem Pre9.blind (G : Gc) (m0 : Mm) (av : List Value) : FrameBlind (Pre9 G m0 av) := fun a U g mk q => by
  obtain ⟨q0, q1, q2⟩ := q
  exact ⟨q0, q1, Cx.moved (u := U) (U := U.calling g mk a) (Vm.Alike.refl U.vm) (Nat.le_refl _) (fun _ _ _ => rfl) (fun h => NwAll.same rfl h) q2⟩
section MP
variable {p : Program} {l : Launch} {e : Env} {R : Room} {s : State} {mt : MethodId} {args : Array Value} {below : List Frame} {meth : Method} {c : Code} {H : Heap} {locs : List Loc} {cells slots : Nat} {Q : State → Prop} {cc : ByteArray} {pc mL : Nat} {ls : Array Slot} {rest : List Value} {G : Gc} {own : String} {m : Mm} {a k : Nat}
theorem En.pos (E : En G own cc mL p s mt args meth c) (hp : pic G m H) (ht : tg m a = k) (hk : k ≠ 0) : a ≠ 0 := by
  have h1 := pic_lo hp (a := a) (by rw [ht]; exact hk)
  have h2 : 0 < G.2.2.2.1 := E.2.2.2.2.2.1.1
  omega
theorem mp_get (E : En G own cc mL p s mt args meth c) (hp : pic G m H) (ht : tg m a = k) (hk : k ≠ 0) {ci : Nat} {fs : List Value} (hce : cell G.2.1 m k a = .inr (ci, fs)) {C : String} {T : u_T} {N : Nat} (hc : classes[ci]? = some (C, T, N)) (hin : ∀ w ∈ u_ws C T N, w ∈ lw_good) (i : Nat) (hi : i < N) {idx : Nat} (hlink : Cond.fieldLink own idx (T i).1 (T i).2.1 (T i).2.2.1 ∈ lw_good) {v : Value} (hv : fs[i]? = some v) (hdg : decode cc pc = .ok (.getfield idx, 3))
    (kk : W p l e R s mt args below meth c H locs cells slots Q (F0 mt (pc + 3) ls (v :: rest))) : W p l e R s mt args below meth c H locs cells slots Q (F0 mt pc ls (rn a :: rest)) := by
  rw [rn_pos (E.pos hp ht hk)]
  obtain ⟨L, j, hL, hP, hD, hj⟩ := pic_get hp ht hk
  rw [hce] at hj
  exact va_get E.1 E.2.1 E.2.2.2.2.1 hin E.2.2.2.1 E.2.2.2.2.2.1.2.1 hP j hj hc i hi (E.2.2.2.2.1 _ hlink) (fun _ h9 => h9) hv hdg kk
theorem mp_put (E : En G own cc mL p s mt args meth c) (hp : pic G m H) (hS : va_S (fr G) s.heap H locs) (ht : tg m a = k) (hk : k ≠ 0) {ci : Nat} {fs : List Value} (hce : cell G.2.1 m k a = .inr (ci, fs)) {C : String} {T : u_T} {N : Nat} (hc : classes[ci]? = some (C, T, N)) (hin : ∀ w ∈ u_ws C T N, w ∈ lw_good) (ty0 : Nat → FieldType) (hty : ∀ k, k < N → parseFieldDescriptor (T k).2.2.1 = some (ty0 k)) (hnm : ∀ a, a < N → ∀ b, b < N → a ≠ b → (T a).2.1 ≠ (T b).2.1) (i : Nat) (hi : i < N) {idx : Nat} (hlink : Cond.fieldLink own idx (T i).1 (T i).2.1 (T i).2.2.1 ∈ lw_good) (hfin : (T i).2.2.2 = false) {ty : FieldType} {v : Value} (hd : parseFieldDescriptor (T i).2.2.1 = some ty) (hn : narrow ty v = v) (hfit : fits ty v = true) (hl : i < fs.length)
    {m' : Mm} (htg : ∀ b, tg m' b = tg m b) (he : cell G.2.1 m' k a = .inr (ci, fs.set i v)) (ho : ∀ t b, b ≠ a → cell G.2.1 m' t b = cell G.2.1 m t b) (hdg : decode cc pc = .ok (.putfield idx, 3))
    (kk : ∀ (H1 : Heap) (locs1 : List Loc), pic G m' H1 → va_S (fr G) s.heap H1 locs1 → W p l e R s mt args below meth c H1 locs1 cells slots Q (F0 mt (pc + 3) ls rest)) : W p l e R s mt args below meth c H locs cells slots Q (F0 mt pc ls (v :: rn a :: rest)) := by
  rw [rn_pos (E.pos hp ht hk)]
  obtain ⟨L, j, hL, hP, hD, hj⟩ := pic_get hp ht hk
  have hj' := hj
  rw [hce] at hj
  exact va_put E.1 E.2.1 E.2.2.2.2.1 hin ty0 hty hnm E.2.2.2.1 E.2.2.2.2.2.1.2.1 hP hD hS j hj hc i hi (E.2.2.2.2.1 _ hlink) (fun _ h9 => h9) hfin hd hn hfit hl hdg (fun H1 locs1 hP1 hD1 hS1 => kk H1 locs1 (pic_upd hL ht hk hD hj' hP1 hD1 htg he ho) hS1)
theorem mp_putF (E : En G own cc mL p s mt args meth c) (hp : pic G m H) (hS : va_S (fr G) s.heap H locs) (ht : tg m a = k) (hk : k ≠ 0) {ci : Nat} {fs : List Value} (hce : cell G.2.1 m k a = .inr (ci, fs)) {C : String} {T : u_T} {N : Nat} (hc : classes[ci]? = some (C, T, N)) (hin : ∀ w ∈ u_ws C T N, w ∈ lw_good) (ty0 : Nat → FieldType) (hty : ∀ k, k < N → parseFieldDescriptor (T k).2.2.1 = some (ty0 k)) (hnm : ∀ a, a < N → ∀ b, b < N → a ≠ b → (T a).2.1 ≠ (T b).2.1) (i : Nat) (hi : i < N) {idx : Nat} (hlink : Cond.fieldLink own idx (T i).1 (T i).2.1 (T i).2.2.1 ∈ lw_good) (hfin : (T i).2.2.2 = true) (hini : meth.name = "<init>") (hdecl : (T i).1 = own) {ty : FieldType} {v : Value} (hd : parseFieldDescriptor (T i).2.2.1 = some ty) (hn : narrow ty v = v) (hfit : fits ty v = true) (hl : i < fs.length)
    {m' : Mm} (htg : ∀ b, tg m' b = tg m b) (he : cell G.2.1 m' k a = .inr (ci, fs.set i v)) (ho : ∀ t b, b ≠ a → cell G.2.1 m' t b = cell G.2.1 m t b) (hdg : decode cc pc = .ok (.putfield idx, 3))
    (kk : ∀ (H1 : Heap) (locs1 : List Loc), pic G m' H1 → va_S (fr G) s.heap H1 locs1 → W p l e R s mt args below meth c H1 locs1 cells slots Q (F0 mt (pc + 3) ls rest)) : W p l e R s mt args below meth c H locs cells slots Q (F0 mt pc ls (v :: rn a :: rest)) := by
  rw [rn_pos (E.pos hp ht hk)]
  obtain ⟨L, j, hL, hP, hD, hj⟩ := pic_get hp ht hk
  have hj' := hj
  rw [hce] at hj
  exact va_putF E.1 E.2.1 E.2.2.2.2.1 hin ty0 hty hnm E.2.2.2.1 E.2.2.2.2.2.1.2.1 hP hD hS j hj hc i hi (E.2.2.2.2.1 _ hlink) (fun _ h9 => h9) hfin hini hdecl hd hn hfit hl hdg (fun H1 locs1 hP1 hD1 hS1 => kk H1 locs1 (pic_upd hL ht hk hD hj' hP1 hD1 htg he ho) hS1)
theorem mp_new (E : En G own cc mL p s mt args meth c) (hp : pic G m H) (hS : va_S (fr G) s.heap H locs) (hk : k ≠ 0) {ci : Nat} {C : String} {T : u_T} {N : Nat} (hc : classes[ci]? = some (C, T, N)) (hin : ∀ w ∈ u_ws C T N, w ∈ lw_good) (ty0 : Nat → FieldType) (hty : ∀ k, k < N → parseFieldDescriptor (T k).2.2.1 = some (ty0 k)) {idx : Nat} (hcl : Cond.classLink own idx C ∈ lw_good) (hinst : Cond.instantiable C N ∈ lw_good) (hini : Cond.initialized C ∈ lw_good) {fs : List Value} (hfs : ∀ j, j < N → defaultValue (ty0 j) = vp_V fs j) (he : ∀ q, cell G.2.1 (nO m k q) k q = .inr (ci, fs)) (hcells : cells + 1 ≤ R.cells) (hslots : slots + N ≤ R.slots) (hdg : decode cc pc = .ok (.new idx, 3))
    (kk : ∀ (q : Nat), tg m q = 0 → q ≠ 0 → ∀ m' : Mm, m' = nO m k q → ∀ (H1 : Heap), pic G m' H1 → va_S (fr G) s.heap H1 locs → W p l e R s mt args below meth c H1 locs (cells + 1) (slots + N) Q (F0 mt (pc + 3) ls (rn q :: rest))) : W p l e R s mt args below meth c H locs cells slots Q (F0 mt pc ls rest) := by
  obtain ⟨L, hL, hP, hD⟩ := hp
  refine va_new E.1 E.2.1 E.2.2.2.2.1 hin ty0 hty E.2.2.2.1 (E.2.2.2.2.1 _ hcl) (E.2.2.2.2.1 _ hinst) (E.2.2.2.2.1 _ hini) E.2.2.2.2.2.1.2.1 hP hD hS (fun q hq => Nat.le_trans E.2.2.2.2.2.1.2.2.1 hq) hc hfs hcells hslots hdg (fun q H1 hP1 hD1 hS1 => ?_)
  have hq0 : q ≠ 0 := by
    have h1 : G.2.2.2.1 ≤ q := by
      have := hD1.2 L.length (q, .inr (ci, fs)) (by simp [va_pl])
      exact this
    have h2 : 0 < G.2.2.2.1 := E.2.2.2.2.2.1.1
    omega
  have hk' := kk q (pic_fresh hL hD1) hq0 _ rfl H1 (pic_push hL hk hP1 hD1 (by simp [tg, nO, va_up]) (fun b hb => by simp [tg, nO, va_up, hb]) (he q) (fun t b hb => co_nO t hb)) hS1
  rw [rn_pos hq0] at hk'
  exact hk'
theorem mp_iald (E : En G own cc mL p s mt args meth c) (hp : pic G m H) (ht : tg m a = k) (hk : k ≠ 0) {t0 : Nat} (hce : cell G.2.1 m k a = .inl (G.2.1 t0, ln m a, .inl (fun j => aI m k a j))) (hty : (tys G.2.1)[t0]? = some (G.2.1 t0, .int)) {i : Int32} (hin : vp_in i (ln m a)) (hdg : decode cc pc = .ok (.iaload, 1))
    (kk : ∀ x : Int32, x = aI m k a i.toNatClampNeg → W p l e R s mt args below meth c H locs cells slots Q (F0 mt (pc + 1) ls (.int x :: rest))) : W p l e R s mt args below meth c H locs cells slots Q (F0 mt pc ls (.int i :: rn a :: rest)) := by
  rw [rn_pos (E.pos hp ht hk)]
  obtain ⟨L, j, hL, hP, hD, hj⟩ := pic_get hp ht hk
  rw [hce] at hj
  exact va_iald E.1 E.2.1 E.2.2.2.2.2.1.2.1 hP j t0 hj hty hin hdg (kk _ rfl)
theorem mp_bald (E : En G own cc mL p s mt args meth c) (hp : pic G m H) (ht : tg m a = k) (hk : k ≠ 0) {t0 : Nat} (hce : cell G.2.1 m k a = .inl (G.2.1 t0, ln m a, .inl (fun j => aI m k a j))) (hty : (tys G.2.1)[t0]? = some (G.2.1 t0, .byte)) {i : Int32} (hin : vp_in i (ln m a)) (hdg : decode cc pc = .ok (.baload, 1))
    (kk : ∀ x : Int32, x = aI m k a i.toNatClampNeg → W p l e R s mt args below meth c H locs cells slots Q (F0 mt (pc + 1) ls (.int x :: rest))) : W p l e R s mt args below meth c H locs cells slots Q (F0 mt pc ls (.int i :: rn a :: rest)) := by
  rw [rn_pos (E.pos hp ht hk)]
  obtain ⟨L, j, hL, hP, hD, hj⟩ := pic_get hp ht hk
  rw [hce] at hj
  exact va_bald E.1 E.2.1 E.2.2.2.2.2.1.2.1 hP j t0 hj hty hin hdg (kk _ rfl)
theorem mp_zald (E : En G own cc mL p s mt args meth c) (hp : pic G m H) (ht : tg m a = k) (hk : k ≠ 0) {t0 : Nat} (hce : cell G.2.1 m k a = .inl (G.2.1 t0, ln m a, .inl (fun j => aI m k a j))) (hty : (tys G.2.1)[t0]? = some (G.2.1 t0, .boolean)) {i : Int32} (hin : vp_in i (ln m a)) (hdg : decode cc pc = .ok (.baload, 1))
    (kk : ∀ x : Int32, x = aI m k a i.toNatClampNeg → W p l e R s mt args below meth c H locs cells slots Q (F0 mt (pc + 1) ls (.int x :: rest))) : W p l e R s mt args below meth c H locs cells slots Q (F0 mt pc ls (.int i :: rn a :: rest)) := by
  rw [rn_pos (E.pos hp ht hk)]
  obtain ⟨L, j, hL, hP, hD, hj⟩ := pic_get hp ht hk
  rw [hce] at hj
  exact va_zald E.1 E.2.1 E.2.2.2.2.2.1.2.1 hP j t0 hj hty hin hdg (kk _ rfl)
theorem mp_aald (E : En G own cc mL p s mt args meth c) (hp : pic G m H) (ht : tg m a = k) (hk : k ≠ 0) {t0 : Nat} (hce : cell G.2.1 m k a = .inl (G.2.1 t0, ln m a, .inr (.inr (.inr (.inr (fun j => ro (aR m k a j))))))) {C : String} (hty : (tys G.2.1)[t0]? = some (G.2.1 t0, .object C)) {i : Int32} (hin : vp_in i (ln m a)) (hdg : decode cc pc = .ok (.aaload, 1))
    (kk : ∀ x : Nat, x = aR m k a i.toNatClampNeg → W p l e R s mt args below meth c H locs cells slots Q (F0 mt (pc + 1) ls (rn x :: rest))) : W p l e R s mt args below meth c H locs cells slots Q (F0 mt pc ls (.int i :: rn a :: rest)) := by
  rw [rn_pos (E.pos hp ht hk)]
  obtain ⟨L, j, hL, hP, hD, hj⟩ := pic_get hp ht hk
  rw [hce] at hj
  exact va_aldq E.1 E.2.1 E.2.2.2.2.2.1.2.1 hP j t0 hj hty hin hdg (kk _ rfl)
theorem mp_alen (E : En G own cc mL p s mt args meth c) (hp : pic G m H) (ht : tg m a = k) (hk : k ≠ 0) {t0 : Nat} {ty : FieldType} {f : (Nat → Int32) ⊕ (Nat → Int64) ⊕ (Nat → UInt32) ⊕ (Nat → UInt64) ⊕ (Nat → Option Nat)} (hce : cell G.2.1 m k a = .inl (G.2.1 t0, ln m a, f)) (hty : (tys G.2.1)[t0]? = some (G.2.1 t0, ty)) (hdg : decode cc pc = .ok (.arraylength, 1))
    (kk : ∀ x : Int32, x = nI (ln m a) → W p l e R s mt args below meth c H locs cells slots Q (F0 mt (pc + 1) ls (.int x :: rest))) : W p l e R s mt args below meth c H locs cells slots Q (F0 mt pc ls (rn a :: rest)) := by
  rw [rn_pos (E.pos hp ht hk)]
  obtain ⟨L, j, hL, hP, hD, hj⟩ := pic_get hp ht hk
  rw [hce] at hj
  exact va_alen E.1 E.2.1 E.2.2.2.2.2.1.2.1 hP j t0 hj hty rfl hdg (kk _ rfl)
theorem mp_iast (E : En G own cc mL p s mt args meth c) (hp : pic G m H) (hS : va_S (fr G) s.heap H locs) (ht : tg m a = k) (hk : k ≠ 0) {t0 : Nat} (hce : cell G.2.1 m k a = .inl (G.2.1 t0, ln m a, .inl (fun j => aI m k a j))) (hce' : ∀ j v, cell G.2.1 (wI m k a j v) k a = .inl (G.2.1 t0, ln m a, .inl (upd (fun j => aI m k a j) j v))) (hty : (tys G.2.1)[t0]? = some (G.2.1 t0, .int)) {i x : Int32} (hin : vp_in i (ln m a)) (hdg : decode cc pc = .ok (.iastore, 1))
    (kk : ∀ m' : Mm, m' = wI m k a i.toNatClampNeg x → ∀ (H1 : Heap) (locs1 : List Loc), pic G m' H1 → va_S (fr G) s.heap H1 locs1 → W p l e R s mt args below meth c H1 locs1 cells slots Q (F0 mt (pc + 1) ls rest)) : W p l e R s mt args below meth c H locs cells slots Q (F0 mt pc ls (.int x :: .int i :: rn a :: rest)) := by
  rw [rn_pos (E.pos hp ht hk)]
  obtain ⟨L, j, hL, hP, hD, hj⟩ := pic_get hp ht hk
  have hj' := hj
  rw [hce] at hj
  exact va_iast E.1 E.2.1 E.2.2.2.2.2.1.2.1 hP hD hS j t0 hj hty hin hdg (fun H1 locs1 hP1 hD1 hS1 => kk _ rfl H1 locs1 (pic_upd hL ht hk hD hj' hP1 hD1 (fun _ => rfl) (hce' _ _) (fun t b hb => co_wI t hb)) hS1)
theorem mp_bast (E : En G own cc mL p s mt args meth c) (hp : pic G m H) (hS : va_S (fr G) s.heap H locs) (ht : tg m a = k) (hk : k ≠ 0) {t0 : Nat} (hce : cell G.2.1 m k a = .inl (G.2.1 t0, ln m a, .inl (fun j => aI m k a j))) (hce' : ∀ j v, cell G.2.1 (wI m k a j v) k a = .inl (G.2.1 t0, ln m a, .inl (upd (fun j => aI m k a j) j v))) (hty : (tys G.2.1)[t0]? = some (G.2.1 t0, .byte)) {i x : Int32} (hin : vp_in i (ln m a)) (hdg : decode cc pc = .ok (.bastore, 1))
    (kk : ∀ m' : Mm, m' = wI m k a i.toNatClampNeg x.toInt8.toInt32 → ∀ (H1 : Heap) (locs1 : List Loc), pic G m' H1 → va_S (fr G) s.heap H1 locs1 → W p l e R s mt args below meth c H1 locs1 cells slots Q (F0 mt (pc + 1) ls rest)) : W p l e R s mt args below meth c H locs cells slots Q (F0 mt pc ls (.int x :: .int i :: rn a :: rest)) := by
  rw [rn_pos (E.pos hp ht hk)]
  obtain ⟨L, j, hL, hP, hD, hj⟩ := pic_get hp ht hk
  have hj' := hj
  rw [hce] at hj
  exact va_bast E.1 E.2.1 E.2.2.2.2.2.1.2.1 hP hD hS j t0 hj hty hin hdg (fun H1 locs1 hP1 hD1 hS1 => kk _ rfl H1 locs1 (pic_upd hL ht hk hD hj' hP1 hD1 (fun _ => rfl) ((hce' _ _).trans (by rw [vp_nar_byte])) (fun t b hb => co_wI t hb)) hS1)
theorem mp_zast (E : En G own cc mL p s mt args meth c) (hp : pic G m H) (hS : va_S (fr G) s.heap H locs) (ht : tg m a = k) (hk : k ≠ 0) {t0 : Nat} (hce : cell G.2.1 m k a = .inl (G.2.1 t0, ln m a, .inl (fun j => aI m k a j))) (hce' : ∀ j v, cell G.2.1 (wI m k a j v) k a = .inl (G.2.1 t0, ln m a, .inl (upd (fun j => aI m k a j) j v))) (hty : (tys G.2.1)[t0]? = some (G.2.1 t0, .boolean)) {i x : Int32} (hin : vp_in i (ln m a)) (hdg : decode cc pc = .ok (.bastore, 1))
    (kk : ∀ m' : Mm, m' = wI m k a i.toNatClampNeg (vp_nar .boolean x) → ∀ (H1 : Heap) (locs1 : List Loc), pic G m' H1 → va_S (fr G) s.heap H1 locs1 → W p l e R s mt args below meth c H1 locs1 cells slots Q (F0 mt (pc + 1) ls rest)) : W p l e R s mt args below meth c H locs cells slots Q (F0 mt pc ls (.int x :: .int i :: rn a :: rest)) := by
  rw [rn_pos (E.pos hp ht hk)]
  obtain ⟨L, j, hL, hP, hD, hj⟩ := pic_get hp ht hk
  have hj' := hj
  rw [hce] at hj
  exact va_zast E.1 E.2.1 E.2.2.2.2.2.1.2.1 hP hD hS j t0 hj hty hin hdg (fun H1 locs1 hP1 hD1 hS1 => kk _ rfl H1 locs1 (pic_upd hL ht hk hD hj' hP1 hD1 (fun _ => rfl) (hce' _ _) (fun t b hb => co_wI t hb)) hS1)
theorem rx_ld (E : En G own cc mL p s mt args meth c) (hS : va_S (fr G) s.heap H locs) {i : Int32} (hin : vp_in i G.2.2.2.2.1) (hdg : decode cc pc = .ok (.iaload, 1))
    (kk : ∀ x : Int32, x = G.2.2.2.2.2 i.toNatClampNeg → W p l e R s mt args below meth c H locs cells slots Q (F0 mt (pc + 1) ls (.int x :: rest))) : W p l e R s mt args below meth c H locs cells slots Q (F0 mt pc ls (.int i :: .ref (G.2.2.1 99) :: rest)) :=
  va_sld E.1 E.2.1 (Cx_x E.2.2.2.2.2.1) (Nat.lt_of_lt_of_le (Cx_xl E.2.2.2.2.2.1) E.2.2.2.2.2.1.2.2.1) (Nat.not_le.mpr (Cx_xl E.2.2.2.2.2.1)) hS hin hdg (kk _ rfl)
theorem rx_len (E : En G own cc mL p s mt args meth c) (hS : va_S (fr G) s.heap H locs) (hdg : decode cc pc = .ok (.arraylength, 1))
    (kk : ∀ x : Int32, x = nI G.2.2.2.2.1 → W p l e R s mt args below meth c H locs cells slots Q (F0 mt (pc + 1) ls (.int x :: rest))) : W p l e R s mt args below meth c H locs cells slots Q (F0 mt pc ls (.ref (G.2.2.1 99) :: rest)) :=
  va_slen E.1 E.2.1 (Cx_x E.2.2.2.2.2.1) (Nat.lt_of_lt_of_le (Cx_xl E.2.2.2.2.2.1) E.2.2.2.2.2.1.2.2.1) (Nat.not_le.mpr (Cx_xl E.2.2.2.2.2.1)) hS hdg (kk _ rfl)
theorem rx_aload_n (E : En G own cc mL p s mt args meth c) {k : Fin 4} {i x : Nat} (hdg : decode cc pc = .ok (.aload_n k, 1)) (hi : (k : Nat) = i) (hl : ls[i]? = some (.val (.ref x)))
    (kk : W p l e R s mt args below meth c H locs cells slots Q (F0 mt (pc + 1) ls (.ref x :: rest))) : W p l e R s mt args below meth c H locs cells slots Q (F0 mt pc ls rest) := lv_aload_n E.1 E.2.1 hdg hi hl kk
theorem mp_aast (E : En G own cc mL p s mt args meth c) (hp : pic G m H) (hS : va_S (fr G) s.heap H locs) (ht : tg m a = k) (hk : k ≠ 0) {t0 : Nat} (hce : cell G.2.1 m k a = .inl (G.2.1 t0, ln m a, .inr (.inr (.inr (.inr (fun j => ro (aR m k a j))))))) (hce' : ∀ j v, cell G.2.1 (wR m k a j v) k a = .inl (G.2.1 t0, ln m a, .inr (.inr (.inr (.inr (va_up (fun j => ro (aR m k a j)) j (ro v))))))) {r : vw_C} (hty : (tys G.2.1)[t0]? = some (G.2.1 t0, .object r.1)) {v kv ci : Nat} {vs : List Value} (htv : tg m v = kv) (hkv : kv ≠ 0) (hcv : cell G.2.1 m kv v = .inr (ci, vs)) (hc : classes[ci]? = some r) {i : Int32} (hin : vp_in i (ln m a)) (hdg : decode cc pc = .ok (.aastore, 1))
    (kk : ∀ m' : Mm, m' = wR m k a i.toNatClampNeg v → ∀ (H1 : Heap) (locs1 : List Loc), pic G m' H1 → va_S (fr G) s.heap H1 locs1 → W p l e R s mt args below meth c H1 locs1 cells slots Q (F0 mt (pc + 1) ls rest)) : W p l e R s mt args below meth c H locs cells slots Q (F0 mt pc ls (rn v :: .int i :: rn a :: rest)) := by
  rw [rn_pos (E.pos hp ht hk), rn_pos (E.pos hp htv hkv)]
  have hv0 := E.pos hp htv hkv
  obtain ⟨L, hL, hP, hD⟩ := id hp
  have hma : a ∈ L := (hL a).mpr (by rw [ht]; exact hk)
  have hmv : v ∈ L := (hL v).mpr (by rw [htv]; exact hkv)
  obtain ⟨j, hj⟩ := va_pl_get (X := []) (f := cf G m) hma
  obtain ⟨jv, hjv⟩ := va_pl_get (X := []) (f := cf G m) hmv
  rw [List.nil_append] at hj hjv
  have hj' : (va_pl L (cf G m))[j]? = some (a, cell G.2.1 m k a) := by rw [hj]; simp only [cf, ht]
  have hjv' : (va_pl L (cf G m))[jv]? = some (v, cell G.2.1 m kv v) := by rw [hjv]; simp only [cf, htv]
  have hj2 := hj'
  rw [hce] at hj2
  rw [hcv] at hjv'
  exact va_astq E.1 E.2.1 E.2.2.2.2.2.1.2.1 hP hD hS j t0 jv ci hj2 hty hjv' hc hin hdg (fun H1 locs1 hP1 hD1 hS1 => kk _ rfl H1 locs1 (pic_upd hL ht hk hD hj' hP1 hD1 (fun _ => rfl) ((hce' _ _).trans (by rw [ro_pos hv0])) (fun t b hb => co_wR t hb)) hS1)
theorem mp_newa (E : En G own cc mL p s mt args meth c) (hp : pic G m H) (hS : va_S (fr G) s.heap H locs) (hk : k ≠ 0) {atype : ArrayType} {ty : FieldType} (hat : newarray.typeOf atype = ty) (harr : Cond.arrayClass (newarray.typeOf atype) ∈ lw_good) {t0 : Nat} (hfc : ∀ cA : ClassId, s.vm.findClass ("[" ++ ty.toString) = some cA → cA = G.2.1 t0) (he : ∀ q n', cell G.2.1 (nA m k q n') k q = .inl (G.2.1 t0, n', .inl (fun _ => 0))) (hdv : defaultValue ty = .int 0) (hra : ∀ cA, va_RA s cA ty → s.vm.findClass ("[" ++ ty.toString) = some cA)
    {n : Int32} {N' : Nat} (hn : ¬ n < 0) (hN : n.toNatClampNeg = N') (hbytes : N' * componentBytes ty ≤ 536870912) (hcells : cells + 1 ≤ R.cells) (hslots : slots + N' ≤ R.slots) (hdg : decode cc pc = .ok (.newarray atype, 2))
    (kk : ∀ (q : Nat), tg m q = 0 → q ≠ 0 → ∀ m' : Mm, m' = nA m k q N' → ∀ (H1 : Heap), pic G m' H1 → va_S (fr G) s.heap H1 locs → W p l e R s mt args below meth c H1 locs (cells + 1) (slots + N') Q (F0 mt (pc + 2) ls (rn q :: rest))) : W p l e R s mt args below meth c H locs cells slots Q (F0 mt pc ls (.int n :: rest)) := by
  obtain ⟨L, hL, hP, hD⟩ := hp
  refine va_newa (a0 := (N', .inl (fun _ => 0))) E.1 E.2.1 (E.2.2.2.2.1 _ harr) hat E.2.2.2.2.2.1.2.1 hP hD hS (fun q hq => Nat.le_trans E.2.2.2.2.2.1.2.2.1 hq) (fun cA => by rw [hdv]; rfl) hn hN hbytes hcells hslots hdg (fun q cA H1 hK1 hP1 hD1 hS1 => ?_)
  have hcA : cA = G.2.1 t0 := hfc cA (hra cA (hK1.2 (tys G.2.1).length (cA, ty) (by simp)).2)
  subst hcA
  have hq0 : q ≠ 0 := by
    have h1 : G.2.2.2.1 ≤ q := by
      have := hD1.2 L.length (q, .inl (G.2.1 t0, N', .inl (fun _ => 0))) (by simp [va_pl])
      exact this
    have h2 : 0 < G.2.2.2.1 := E.2.2.2.2.2.1.1
    omega
  have hk' := kk q (pic_fresh hL hD1) hq0 _ rfl H1 (pic_push hL hk hP1 hD1 (by simp [tg, nA, va_up]) (fun b hb => by simp [tg, nA, va_up, hb]) (he q _) (fun t b hb => co_nA t hb)) hS1
  rw [rn_pos hq0] at hk'
  exact hk'
theorem mp_newq (E : En G own cc mL p s mt args meth c) (hp : pic G m H) (hS : va_S (fr G) s.heap H locs) (hk : k ≠ 0) {C : String} {idx : Nat} (hcl : Cond.classLink own idx C ∈ lw_good) (hao : va_AO C s) {t0 : Nat} (hfc : ∀ cA : ClassId, va_RA s cA (.object C) → cA = G.2.1 t0) (he : ∀ q n', cell G.2.1 (nA m k q n') k q = .inl (G.2.1 t0, n', .inr (.inr (.inr (.inr (fun _ => none))))))
    {n : Int32} {N' : Nat} (hn : ¬ n < 0) (hN : n.toNatClampNeg = N') (hbytes : N' * 4 ≤ 536870912) (hcells : cells + 1 ≤ R.cells) (hslots : slots + N' ≤ R.slots) (hdg : decode cc pc = .ok (.anewarray idx, 3))
    (kk : ∀ (q : Nat), tg m q = 0 → q ≠ 0 → ∀ m' : Mm, m' = nA m k q N' → ∀ (H1 : Heap), pic G m' H1 → va_S (fr G) s.heap H1 locs → W p l e R s mt args below meth c H1 locs (cells + 1) (slots + N') Q (F0 mt (pc + 3) ls (rn q :: rest))) : W p l e R s mt args below meth c H locs cells slots Q (F0 mt pc ls (.int n :: rest)) := by
  obtain ⟨L, hL, hP, hD⟩ := hp
  refine va_newq E.1 E.2.1 E.2.2.2.1 (E.2.2.2.2.1 _ hcl) hao E.2.2.2.2.2.1.2.1 hP hD hS (fun q hq => Nat.le_trans E.2.2.2.2.2.1.2.2.1 hq) hn hN hbytes hcells hslots hdg (fun q cA H1 hK1 hP1 hD1 hS1 => ?_)
  have hcA : cA = G.2.1 t0 := hfc cA (hK1.2 (tys G.2.1).length (cA, .object C) (by simp)).2
  subst hcA
  have hq0 : q ≠ 0 := by
    have h1 : G.2.2.2.1 ≤ q := by
      have := hD1.2 L.length (q, .inl (G.2.1 t0, N', .inr (.inr (.inr (.inr (fun _ => none)))))) (by simp [va_pl])
      exact this
    have h2 : 0 < G.2.2.2.1 := E.2.2.2.2.2.1.1
    omega
  have hk' := kk q (pic_fresh hL hD1) hq0 _ rfl H1 (pic_push hL hk hP1 hD1 (by simp [tg, nA, va_up]) (fun b hb => by simp [tg, nA, va_up, hb]) (he q _) (fun t b hb => co_nA t hb)) hS1
  rw [rn_pos hq0] at hk'
  exact hk'
theorem mp_copyi (E : En G own cc mL p s mt args meth c) (hp : pic G m H) (hS : va_S (fr G) s.heap H locs) (hsz : ls.size = mL) {idx : Nat} (hl : Cond.methodLink own idx arraycopyName ∈ lw_good ∧ Cond.native arraycopyName ∈ lw_good ∧ Cond.static arraycopyName ∈ lw_good ∧ Cond.initialized "java/lang/System" ∈ lw_good) {a0 a1 k0 k1 t0 : Nat} (ht0 : tg m a0 = k0) (hk0 : k0 ≠ 0) (hce0 : cell G.2.1 m k0 a0 = .inl (G.2.1 t0, ln m a0, .inl (fun j => aI m k0 a0 j))) (ht1 : tg m a1 = k1) (hk1 : k1 ≠ 0) (hce1 : cell G.2.1 m k1 a1 = .inl (G.2.1 t0, ln m a1, .inl (fun j => aI m k1 a1 j))) (hcc : ∀ f, cell G.2.1 (wC m k1 a1 f) k1 a1 = .inl (G.2.1 t0, ln m a1, .inl f)) (hty : (tys G.2.1)[t0]? = some (G.2.1 t0, .int)) (hprim : refKind .int = false)
    {sp dp n : Int32} (h1 : ¬ sp < 0) (h2 : ¬ dp < 0) (h3 : ¬ n < 0) (h4 : sp.toNatClampNeg + n.toNatClampNeg ≤ ln m a0) (h5 : dp.toNatClampNeg + n.toNatClampNeg ≤ ln m a1) (hframes : 1 ≤ R.frames) (hlocals : (rest.map fun v => v.category).sum + (nativeFrameWords "java/lang/System" "arraycopy" 5 + 11) ≤ R.locals) (hdg : decode cc pc = .ok (.invokestatic idx, 3))
    (kk : ∀ m' : Mm, m' = wC m k1 a1 (va_cpy (fun j => aI m k0 a0 j) (fun j => aI m k1 a1 j) sp.toNatClampNeg dp.toNatClampNeg n.toNatClampNeg) → ∀ (H1 : Heap) (locs1 : List Loc), pic G m' H1 → va_S (fr G) s.heap H1 locs1 → W p l e R s mt args below meth c H1 locs1 cells slots Q (F0 mt (pc + 3) ls rest)) : W p l e R s mt args below meth c H locs cells slots Q (F0 mt pc ls (.int n :: .int dp :: rn a1 :: .int sp :: rn a0 :: rest)) := by
  rw [rn_pos (E.pos hp ht0 hk0), rn_pos (E.pos hp ht1 hk1)]
  obtain ⟨L, hL, hP, hD⟩ := id hp
  have hm0 : a0 ∈ L := (hL a0).mpr (by rw [ht0]; exact hk0)
  have hm1 : a1 ∈ L := (hL a1).mpr (by rw [ht1]; exact hk1)
  obtain ⟨j, hj⟩ := va_pl_get (X := []) (f := cf G m) hm0
  obtain ⟨j1, hj1⟩ := va_pl_get (X := []) (f := cf G m) hm1
  rw [List.nil_append] at hj hj1
  have hj' : (va_pl L (cf G m))[j]? = some (a0, cell G.2.1 m k0 a0) := by rw [hj]; simp only [cf, ht0]
  have hj1' : (va_pl L (cf G m))[j1]? = some (a1, cell G.2.1 m k1 a1) := by rw [hj1]; simp only [cf, ht1]
  have hj2 := hj1'
  rw [hce0] at hj'
  rw [hce1] at hj1'
  exact va_copyi E.1 E.2.1 (E.2.2.1.trans hsz.symm) E.2.2.2.1 (E.2.2.2.2.1 _ hl.1) (E.2.2.2.2.1 _ hl.2.1) (E.2.2.2.2.1 _ hl.2.2.1) (E.2.2.2.2.1 _ hl.2.2.2) E.2.2.2.2.2.1.2.1 hP hD hS j j1 t0 t0 hj' hj1' hty hty hprim h1 h2 h3 h4 h5 (fun _ _ => rfl) hframes hlocals hdg (fun H1 locs1 hP1 hD1 hS1 => kk _ rfl H1 locs1 (pic_upd hL ht1 hk1 hD hj2 hP1 hD1 (fun _ => rfl) (hcc _) (fun t b hb => co_wC t hb)) hS1)
/-- a return -/
theorem mp_iret (E : En G own cc mL p s mt args meth c) (hr : meth.sig.returnType = some .int) (hp : pic G m H) (hS : va_S (fr G) s.heap H locs) {P : Int32 → Mm → Prop} {v : Int32} (h : P v m) (hdg : decode cc pc = .ok (.ireturn, 1)) : W p l e R s mt args below meth c H locs cells slots (MQ below (PoI G P) args s cells slots (fr G)) (F0 mt pc ls [.int v]) :=
  W.iret (Qc := PoI G P) E.1 E.2.1 hr (fun t ht hW => ⟨⟨v, m, rfl, h, by show pic G m t.heap; rw [ht]; exact hp⟩, hS.F ht⟩) hS.2.2 hdg E.2.2.2.2.2.2
theorem mp_zret (E : En G own cc mL p s mt args meth c) {ty : FieldType} (hr : meth.sig.returnType = some ty) (hp : pic G m H) (hS : va_S (fr G) s.heap H locs) {P : Int32 → Mm → Prop} {v : Int32} (hn : narrow ty (.int v) = .int v) (h : P v m) (hdg : decode cc pc = .ok (.ireturn, 1)) : W p l e R s mt args below meth c H locs cells slots (MQ below (PoI G P) args s cells slots (fr G)) (F0 mt pc ls [.int v]) :=
  W.zret (Qc := PoI G P) E.1 E.2.1 hr hn (fun t ht hW => ⟨⟨v, m, rfl, h, by show pic G m t.heap; rw [ht]; exact hp⟩, hS.F ht⟩) hS.2.2 hdg E.2.2.2.2.2.2
theorem mp_vret (E : En G own cc mL p s mt args meth c) (hr : meth.sig.returnType = none) (hp : pic G m H) (hS : va_S (fr G) s.heap H locs) {P : Mm → Prop} (h : P m) (hdg : decode cc pc = .ok (.return_, 1)) : W p l e R s mt args below meth c H locs cells slots (MQ below (PoV G P) args s cells slots (fr G)) (F0 mt pc ls []) :=
  W.vret (Qc := PoV G P) E.1 E.2.1 hr (fun t ht hW => ⟨⟨m, rfl, h, by show pic G m t.heap; rw [ht]; exact hp⟩, hS.F ht⟩) hS.2.2 hdg E.2.2.2.2.2.2
theorem mp_aret (E : En G own cc mL p s mt args meth c) {rt : FieldType} (hr : meth.sig.returnType = some rt) (hrt : (∃ n, rt = .object n) ∨ ∃ t, rt = .array t) (hp : pic G m H) (hS : va_S (fr G) s.heap H locs) {P : Nat → Mm → Prop} {v : Nat} (h : P v m) (hdg : decode cc pc = .ok (.areturn, 1)) : W p l e R s mt args below meth c H locs cells slots (MQ below (PoR G P) args s cells slots (fr G)) (F0 mt pc ls [rn v]) :=
  W.aret (Qc := PoR G P) E.1 E.2.1 hr hrt (va_rf_or (ro v)) (fun t ht hW => ⟨⟨ro v, m, rfl, ⟨v, rfl, h⟩, by show pic G m t.heap; rw [ht]; exact hp⟩, hS.F ht⟩) hS.2.2 hdg E.2.2.2.2.2.2
end MP
/-! CALLS -/
theorem good_in : GoodIn lw_good lw_good := fun w h => ⟨h, good_of_word (List.mem_filter.mp h).2⟩
theorem good_cons {w : Cond} (hw : w ∈ lw_good) {ws : List Cond} (h : GoodIn lw_good ws) : GoodIn lw_good (w :: ws) := fun v hv => by
  rcases List.mem_cons.mp hv with rfl | hv
  · exact good_in _ hw
  · exact h v hv
/-- what the tables say of a callee: its code, its class -/
def Wd (y : MethodName) (bytes : ByteArray) (maxL : Nat) (ret : Option FieldType) (n : Nat) : Prop := Cond.code y bytes maxL ret ∈ lw_good ∧ Cond.initialized y.cls ∈ lw_good ∧ y.cls ≠ "java/lang/invoke/MethodHandle" ∧ y.cls ≠ "java/lang/invoke/VarHandle" ∧ (parseMethodDescriptor y.desc).map (fun d => d.parameters.length) = some n
section MC
variable {p : Program} {l : Launch} {e : Env} {R : Room} {s : State} {mt : MethodId} {args : Array Value} {below : List Frame} {meth : Method} {c : Code} {H : Heap} {locs : List Loc} {cells slots : Nat} {Q : State → Prop} {cc : ByteArray} {pc mL : Nat} {ls : Array Slot} {rest st0 : List Value} {G : Gc} {own : String} {m : Mm} {b k : Nat}
variable {y : MethodName} {bytes : ByteArray} {maxL idx n mc ms : Nat} {ret : Option FieldType} {rm : Room} {As : List Value}
theorem En.pre (E : En G own cc mL p s mt args meth c) (hp : pic G m H) (hS : va_S (fr G) s.heap H locs) {av : List Value} (U : State) (hU : U.heap = H) (hW : s.WarmedH U.vm) : Pre9 G m av av.toArray U :=
  ⟨rfl, by rw [hU]; exact hp, Cx.moved hW.alike (by rw [hU]; exact hS.1) (fun q h1 h2 => by rw [hU]; exact hS.2.1 q h1 h2) (fun h => NwAll.warm hW h) E.2.2.2.2.2.1⟩
theorem mc_cb (E : En G own cc mL p s mt args meth c) (hw : Wd y bytes maxL ret n) (hl : Cond.methodLink own idx y ∈ lw_good) (hrc : rm.cells = mc) (hrs : rm.slots = ms) (hR : rm.frames + 1 ≤ R.frames ∧ 8 + (maxL + 11) + rm.locals ≤ R.locals) : CallB R s args own idx y bytes maxL ret (Cond.code y bytes maxL ret :: lw_good) rm mc ms n :=
  callB_of n E.2.2.2.2.1 (good_cons hw.1 good_in) rfl hrc hrs (E.2.2.2.2.1 _ hw.2.1) (E.2.2.2.2.1 _ hl) hw.2.2 hR
theorem mc_runV {Qc : Array Value → State → Outcome → State → Prop} (E : En G own cc mL p s mt args meth c) (hM : Met l y (Cond.code y bytes maxL ret :: lw_good) rm (Pre9 G m (rn b :: As)) Qc mc ms (fr G)) (hw : Wd y bytes maxL ret n) (hl : Cond.methodLink own idx y ∈ lw_good ∧ Cond.instanceMethod y ∈ lw_good ∧ Cond.selects y.cls y y ∈ lw_good) (hrc : rm.cells = mc) (hrs : rm.slots = ms) (hR : rm.frames + 1 ≤ R.frames ∧ 8 + (maxL + 11) + rm.locals ≤ R.locals)
    (hp : pic G m H) (hS : va_S (fr G) s.heap H locs) (ht : tg m b = k) (hk : k ≠ 0) {ci : Nat} {fs : List Value} (hce : cell G.2.1 m k b = .inr (ci, fs)) {T : u_T} {N : Nat} (hc : classes[ci]? = some (y.cls, T, N)) (hn : As.length = n) (hsize : ls.size = mL) (hst : st0 = As.reverse ++ rn b :: rest) (hW : 2 * (F0 mt pc ls st0).monitorRoom + (rest.map fun v => v.category).sum ≤ 8) (hdg : decode cc pc = .ok (.invokevirtual idx, 3)) (hf : cells + mc ≤ R.cells ∧ slots + ms ≤ R.slots) :
    va_Run p l e R s mt args below meth c H locs cells slots mc ms (F0 mt pc ls st0) rest (Qc (rn b :: As).toArray) (fr G) := by
  have hb0 : rn b = .ref b := rn_pos (E.pos hp ht hk)
  obtain ⟨L, j, hL, hP, hD, hj⟩ := pic_get hp ht hk
  rw [hce] at hj
  have hrec := va_recv E.2.2.2.2.2.1.2.1 hP hc hj
  rw [hb0] at hM hst ⊢
  refine va_runV (C := y.cls) (b := b) (As := As) (rest := rest) ⟨E.1, E.2.1, E.2.2.1, E.2.2.2.1, E.2.2.2.2.1⟩ hM ⟨mc_cb E hw hl.1 hrc hrs hR, E.2.2.2.2.1 _ hl.2.1, E.2.2.2.2.1 _ hl.2.2⟩ ⟨Pre9.blind G m _, hrec, fun U hU hW => E.pre hp hS U hU hW⟩ rfl hn hsize hst hW hdg hf
theorem mc_runS {Qc : Array Value → State → Outcome → State → Prop} (E : En G own cc mL p s mt args meth c) (hM : Met l y (Cond.code y bytes maxL ret :: lw_good) rm (Pre9 G m As) Qc mc ms (fr G)) (hw : Wd y bytes maxL ret n) (hl : Cond.methodLink own idx y ∈ lw_good ∧ Cond.static y ∈ lw_good) (hrc : rm.cells = mc) (hrs : rm.slots = ms) (hR : rm.frames + 1 ≤ R.frames ∧ 8 + (maxL + 11) + rm.locals ≤ R.locals)
    (hp : pic G m H) (hS : va_S (fr G) s.heap H locs) (hn : As.length = n) (hsize : ls.size = mL) (hst : st0 = As.reverse ++ rest) (hW : 2 * (F0 mt pc ls st0).monitorRoom + (rest.map fun v => v.category).sum ≤ 8) (hdg : decode cc pc = .ok (.invokestatic idx, 3)) (hf : cells + mc ≤ R.cells ∧ slots + ms ≤ R.slots) :
    va_Run p l e R s mt args below meth c H locs cells slots mc ms (F0 mt pc ls st0) rest (Qc As.toArray) (fr G) :=
  va_runS (As := As) (rest := rest) ⟨E.1, E.2.1, E.2.2.1, E.2.2.2.1, E.2.2.2.2.1⟩ hM ⟨mc_cb E hw hl.1 hrc hrs hR, E.2.2.2.2.1 _ hl.2⟩ ⟨Pre9.blind G m _, fun U hU hW => E.pre hp hS U hU hW⟩ rfl hn hsize hst hW hdg hf
theorem mc_runI {Qc : Array Value → State → Outcome → State → Prop} (E : En G own cc mL p s mt args meth c) (hM : Met l y (Cond.code y bytes maxL none :: lw_good) rm (Pre9 G m (rn b :: As)) Qc mc ms (fr G)) (hw : Wd y bytes maxL none n) (hl : Cond.methodLink own idx y ∈ lw_good ∧ Cond.instanceMethod y ∈ lw_good) (hy : y.name = "<init>") (hrc : rm.cells = mc) (hrs : rm.slots = ms) (hR : rm.frames + 1 ≤ R.frames ∧ 8 + (maxL + 11) + rm.locals ≤ R.locals)
    (hp : pic G m H) (hS : va_S (fr G) s.heap H locs) (hb0 : b ≠ 0) (hn : As.length = n) (hsize : ls.size = mL) (hst : st0 = As.reverse ++ rn b :: rest) (hW : 2 * (F0 mt pc ls st0).monitorRoom + (rest.map fun v => v.category).sum ≤ 8) (hdg : decode cc pc = .ok (.invokespecial idx, 3)) (hf : cells + mc ≤ R.cells ∧ slots + ms ≤ R.slots) :
    va_Run p l e R s mt args below meth c H locs cells slots mc ms (F0 mt pc ls st0) rest (Qc (rn b :: As).toArray) (fr G) := by
  rw [rn_pos hb0] at hM hst ⊢
  exact va_runI (b := b) (As := As) (rest := rest) ⟨E.1, E.2.1, E.2.2.1, E.2.2.2.1, E.2.2.2.2.1⟩ hM ⟨mc_cb E hw hl.1 hrc hrs hR, hy, E.2.2.2.2.1 _ hl.2⟩ ⟨Pre9.blind G m _, fun U hU hW => E.pre hp hS U hU hW⟩ rfl hn hsize hst hW hdg hf
/-- behind a call -/
theorem mc_i {P : Int32 → Mm → Prop} {a : Array Value} (hS : va_S (fr G) s.heap H locs) (hr : va_Run p l e R s mt args below meth c H locs cells slots mc ms (F0 mt pc ls st0) rest (PoI G P a) (fr G))
    (kk : ∀ (r : Int32) (m' : Mm), P r m' → ∀ (H1 : Heap) (locs1 : List Loc), pic G m' H1 → va_S (fr G) s.heap H1 locs1 → W p l e R s mt args below meth c H1 locs1 (cells + mc) (slots + ms) Q (F0 mt (pc + 3) ls (.int r :: rest))) : W p l e R s mt args below meth c H locs cells slots Q (F0 mt pc ls st0) :=
  va_calli hr hS (fun _ _ h => h) (fun _ h => h) (fun r u t H1 locs1 ht _ hw hB _ _ hS1 => kk r u hw H1 locs1 (by rw [← ht]; exact hB) hS1)
theorem mc_v {P : Mm → Prop} {a : Array Value} (hS : va_S (fr G) s.heap H locs) (hr : va_Run p l e R s mt args below meth c H locs cells slots mc ms (F0 mt pc ls st0) rest (PoV G P a) (fr G))
    (kk : ∀ (m' : Mm), P m' → ∀ (H1 : Heap) (locs1 : List Loc), pic G m' H1 → va_S (fr G) s.heap H1 locs1 → W p l e R s mt args below meth c H1 locs1 (cells + mc) (slots + ms) Q (F0 mt (pc + 3) ls rest)) : W p l e R s mt args below meth c H locs cells slots Q (F0 mt pc ls st0) :=
  va_callv hr hS (fun _ _ h => h) (fun _ h => h) (fun u t H1 locs1 ht _ hw hB _ _ hS1 => kk u hw H1 locs1 (by rw [← ht]; exact hB) hS1)
theorem mc_r {P : Nat → Mm → Prop} {a : Array Value} (hS : va_S (fr G) s.heap H locs) (hr : va_Run p l e R s mt args below meth c H locs cells slots mc ms (F0 mt pc ls st0) rest (PoR G P a) (fr G))
    (kk : ∀ (x : Nat) (m' : Mm), P x m' → ∀ (H1 : Heap) (locs1 : List Loc), pic G m' H1 → va_S (fr G) s.heap H1 locs1 → W p l e R s mt args below meth c H1 locs1 (cells + mc) (slots + ms) Q (F0 mt (pc + 3) ls (rn x :: rest))) : W p l e R s mt args below meth c H locs cells slots Q (F0 mt pc ls st0) :=
  va_callq hr hS (fun _ _ h => h) (fun _ h => h) (fun r u t H1 locs1 ht _ hw hB _ _ hS1 => by
    obtain ⟨x, rfl, hP⟩ := hw
    exact kk x u hP H1 locs1 (by rw [← ht]; exact hB) hS1)
/-- Object.<init> -/
theorem mc_obj (E : En G own cc mL p s mt args meth c) (hl : Cond.methodLink own idx Lib.objectInit ∈ lw_good ∧ Cond.instanceMethod Lib.objectInit ∈ lw_good ∧ Cond.code Lib.objectInit ⟨#[0xb1]⟩ 1 none ∈ lw_good) (hb0 : b ≠ 0) (hsize : ls.size = mL) (hdg : decode cc pc = .ok (.invokespecial idx, 3)) (hframes : 1 ≤ R.frames) (hlocals : 2 * (F0 mt pc ls (rn b :: rest)).monitorRoom + (rest.map fun v => v.category).sum + 12 ≤ R.locals)
    (kk : W p l e R s mt args below meth c H locs cells slots Q (F0 mt (pc + 3) ls rest)) : W p l e R s mt args below meth c H locs cells slots Q (F0 mt pc ls (rn b :: rest)) := by
  have hlocals' := hlocals
  rw [rn_pos hb0] at hlocals' ⊢
  exact W.objInit E.1 E.2.1 E.2.2.2.1 (E.2.2.2.2.1 _ hl.1) (E.2.2.2.2.1 _ hl.2.1) (E.2.2.2.2.1 _ hl.2.2) rfl (hsize.trans E.2.2.1.symm) rfl hdg hframes hlocals' kk
end MC

