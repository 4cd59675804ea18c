/-! MEMORY: a picture of all cells by kind and address. Kinds: 1.. objects by class, then arrays by region. A reference is its address, 0 is null. -/
abbrev Mm : Type := (Nat → Nat) × (Nat → Nat → Nat → Int32) × (Nat → Nat → Nat → Nat) × (Nat → Nat → Nat → Int32) × (Nat → Nat → Nat → Nat) × (Nat → Nat)
def tg (m : Mm) (a : Nat) : Nat := m.1 a
def gI (m : Mm) (k i a : Nat) : Int32 := m.2.1 k i a
def gR (m : Mm) (k i a : Nat) : Nat := m.2.2.1 k i a
def aI (m : Mm) (k a j : Nat) : Int32 := m.2.2.2.1 k a j
def aR (m : Mm) (k a j : Nat) : Nat := m.2.2.2.2.1 k a j
def ln (m : Mm) (a : Nat) : Nat := m.2.2.2.2.2 a
def sI (m : Mm) (k i a : Nat) (v : Int32) : Mm := (m.1, (fun k' i' a' => if k' = k ∧ i' = i ∧ a' = a then v else m.2.1 k' i' a'), m.2.2)
def sR (m : Mm) (k i a v : Nat) : Mm := (m.1, m.2.1, (fun k' i' a' => if k' = k ∧ i' = i ∧ a' = a then v else m.2.2.1 k' i' a'), m.2.2.2)
def wI (m : Mm) (k a j : Nat) (v : Int32) : Mm := (m.1, m.2.1, m.2.2.1, (fun k' a' j' => if k' = k ∧ a' = a ∧ j' = j then v else m.2.2.2.1 k' a' j'), m.2.2.2.2)
def wR (m : Mm) (k a j v : Nat) : Mm := (m.1, m.2.1, m.2.2.1, m.2.2.2.1, (fun k' a' j' => if k' = k ∧ a' = a ∧ j' = j then v else m.2.2.2.2.1 k' a' j'), m.2.2.2.2.2)
def wC (m : Mm) (k a : Nat) (f : Nat → Int32) : Mm := (m.1, m.2.1, m.2.2.1, (fun k' a' j' => if k' = k ∧ a' = a then f j' else m.2.2.2.1 k' a' j'), m.2.2.2.2)
def nO (m : Mm) (k q : Nat) : Mm := (va_up m.1 q k, (fun k' i' a' => if a' = q then 0 else m.2.1 k' i' a'), (fun k' i' a' => if a' = q then 0 else m.2.2.1 k' i' a'), m.2.2.2)
def nA (m : Mm) (k q n : Nat) : Mm := (va_up m.1 q k, m.2.1, m.2.2.1, (fun k' a' j' => if a' = q then 0 else m.2.2.2.1 k' a' j'), (fun k' a' j' => if a' = q then 0 else m.2.2.2.2.1 k' a' j'), va_up m.2.2.2.2.2 q n)
def ro (x : Nat) : Option Nat := if x = 0 then none else some x
def rn (x : Nat) : Value := va_rf (ro x)
theorem rn_pos {x : Nat} (h : x ≠ 0) : rn x = .ref x := by simp [rn, ro, h, va_rf]
theorem rn_0 : rn 0 = .null := rfl
theorem rn_cat (x : Nat) : (rn x).category = 1 := by
  by_cases h : x = 0
  · subst h; rfl
  · rw [rn_pos h]; rfl
theorem ro_inj {x y : Nat} : ro x = ro y ↔ x = y := by
  unfold ro
  by_cases h : x = 0 <;> by_cases h2 : y = 0 <;> simp [h, h2]
  omega
theorem ro_pos {x : Nat} (h : x ≠ 0) : ro x = some x := by simp [ro, h]
/-! rows of references on the stack -/
section RR
variable {p : Program} {l : Launch} {e : Env} {R : Room} {s : State} {m : MethodId} {args : Array Value} {below : List Frame} {meth : Method} {c : Code} {H : Heap} {locs : List Loc} {cells slots : Nat} {Q : State → Prop} {cc : ByteArray} {pc : Nat} {ls : Array Slot} {rest : List Value}
theorem rr_aload_n (hx : p.tables.exec = Jvm.exec) (hb : c.code = cc) {k : Fin 4} {i x : Nat} (hdg : decode cc pc = .ok (.aload_n k, 1)) (hi : (k : Nat) = i) (hl : ls[i]? = some (.val (rn x)))
    (kk : W p l e R s m args below meth c H locs cells slots Q (F0 m (pc + 1) ls (rn x :: rest))) : W p l e R s m args below meth c H locs cells slots Q (F0 m pc ls rest) := by
  by_cases h : x = 0
  · subst h; exact lv_aload_nN hx hb hdg hi hl kk
  · rw [rn_pos h] at hl kk; exact lv_aload_n hx hb hdg hi hl kk
theorem rr_aload (hx : p.tables.exec = Jvm.exec) (hb : c.code = cc) {i x : Nat} (hdg : decode cc pc = .ok (.aload i, 2)) (hl : ls[i]? = some (.val (rn x)))
    (kk : W p l e R s m args below meth c H locs cells slots Q (F0 m (pc + 2) ls (rn x :: rest))) : W p l e R s m args below meth c H locs cells slots Q (F0 m pc ls rest) := by
  by_cases h : x = 0
  · subst h; exact lv_aloadN hx hb hdg hl kk
  · rw [rn_pos h] at hl kk; exact lv_aload hx hb hdg hl kk
theorem rr_astore_n (hx : p.tables.exec = Jvm.exec) (hb : c.code = cc) {k : Fin 4} {i nL x : Nat} {lv lv' : List (Nat × Value)} (hdg : decode cc pc = .ok (.astore_n k, 1)) (hi : (k : Nat) = i) (h : lv_has ls nL lv) (hn : i < nL) (hl : (i, rn x) :: lv.filter (fun q => !(q.1 == i) && !(q.1 + 1 == i && q.2.category == 2)) = lv')
    (kk : ∀ ls' : Array Slot, lv_has ls' nL lv' → W p l e R s m args below meth c H locs cells slots Q (F0 m (pc + 1) ls' rest)) : W p l e R s m args below meth c H locs cells slots Q (F0 m pc ls (rn x :: rest)) := by
  by_cases h0 : x = 0
  · subst h0; exact lv_astore_nN hx hb hdg hi h hn hl kk
  · rw [rn_pos h0] at hl ⊢; exact lv_astore_n hx hb hdg hi h hn hl kk
theorem rr_astore (hx : p.tables.exec = Jvm.exec) (hb : c.code = cc) {i nL x : Nat} {lv lv' : List (Nat × Value)} (hdg : decode cc pc = .ok (.astore i, 2)) (h : lv_has ls nL lv) (hn : i < nL) (hl : (i, rn x) :: lv.filter (fun q => !(q.1 == i) && !(q.1 + 1 == i && q.2.category == 2)) = lv')
    (kk : ∀ ls' : Array Slot, lv_has ls' nL lv' → W p l e R s m args below meth c H locs cells slots Q (F0 m (pc + 2) ls' rest)) : W p l e R s m args below meth c H locs cells slots Q (F0 m pc ls (rn x :: rest)) := by
  by_cases h0 : x = 0
  · subst h0; exact lv_astoreN hx hb hdg h hn hl kk
  · rw [rn_pos h0] at hl ⊢; exact lv_astore hx hb hdg h hn hl kk
theorem rr_null (hx : p.tables.exec = Jvm.exec) (hb : c.code = cc) (hdg : decode cc pc = .ok (.aconst_null, 1)) (kk : W p l e R s m args below meth c H locs cells slots Q (F0 m (pc + 1) ls (rn 0 :: rest))) : W p l e R s m args below meth c H locs cells slots Q (F0 m pc ls rest) := lv_null hx hb hdg kk
theorem rr_ifnull (hx : p.tables.exec = Jvm.exec) (hb : c.code = cc) {x : Nat} {off : Int} {tgt : Nat} (hdg : decode cc pc = .ok (.ifnull off, 3)) (ht : (pc : Int) + off = (tgt : Int))
    (kt : x = 0 → W p l e R s m args below meth c H locs cells slots Q (F0 m tgt ls rest)) (kf : ¬ x = 0 → W p l e R s m args below meth c H locs cells slots Q (F0 m (pc + 3) ls rest)) : W p l e R s m args below meth c H locs cells slots Q (F0 m pc ls (rn x :: rest)) := by
  by_cases h : x = 0
  · have k := kt h; subst h; exact lv_ifnullN hx hb hdg ht k
  · rw [rn_pos h]; exact lv_ifnull hx hb hdg (kf h)
theorem rr_ifnonnull (hx : p.tables.exec = Jvm.exec) (hb : c.code = cc) {x : Nat} {off : Int} {tgt : Nat} (hdg : decode cc pc = .ok (.ifnonnull off, 3)) (ht : (pc : Int) + off = (tgt : Int))
    (kt : ¬ x = 0 → W p l e R s m args below meth c H locs cells slots Q (F0 m tgt ls rest)) (kf : x = 0 → W p l e R s m args below meth c H locs cells slots Q (F0 m (pc + 3) ls rest)) : W p l e R s m args below meth c H locs cells slots Q (F0 m pc ls (rn x :: rest)) := by
  by_cases h : x = 0
  · have k := kf h; subst h; exact lv_ifnonnullN hx hb hdg k
  · rw [rn_pos h]; exact lv_ifnonnull hx hb hdg ht (kt h)
theorem rr_acmp_eq (hx : p.tables.exec = Jvm.exec) (hb : c.code = cc) {x y : Nat} {off : Int} {tgt : Nat} (hdg : decode cc pc = .ok (.if_acmp .eq off, 3)) (ht : (pc : Int) + off = (tgt : Int))
    (kt : x = y → W p l e R s m args below meth c H locs cells slots Q (F0 m tgt ls rest)) (kf : ¬ x = y → W p l e R s m args below meth c H locs cells slots Q (F0 m (pc + 3) ls rest)) : W p l e R s m args below meth c H locs cells slots Q (F0 m pc ls (rn y :: rn x :: rest)) :=
  lv_acmp_eq hx hb hdg ht (fun h => kt (ro_inj.mp h)) (fun h => kf (fun q => h (ro_inj.mpr q)))
theorem rr_acmp_ne (hx : p.tables.exec = Jvm.exec) (hb : c.code = cc) {x y : Nat} {off : Int} {tgt : Nat} (hdg : decode cc pc = .ok (.if_acmp .ne off, 3)) (ht : (pc : Int) + off = (tgt : Int))
    (kt : ¬ x = y → W p l e R s m args below meth c H locs cells slots Q (F0 m tgt ls rest)) (kf : x = y → W p l e R s m args below meth c H locs cells slots Q (F0 m (pc + 3) ls rest)) : W p l e R s m args below meth c H locs cells slots Q (F0 m pc ls (rn y :: rn x :: rest)) :=
  lv_acmp_ne hx hb hdg ht (fun h => kt (fun q => h (ro_inj.mpr q))) (fun h => kf (ro_inj.mp h))
end RR
abbrev Gc : Type := va_G × (Nat → ClassId) × (Nat → Nat) × Nat × Nat × (Nat → Int32)
abbrev fr (G : Gc) : Nat → Prop := fun q => G.2.2.2.1 ≤ q
theorem nar_rn (C : String) (x : Nat) : narrow (.object C) (rn x) = rn x := by
  by_cases h : x = 0
  · subst h; rfl
  · rw [rn_pos h]; rfl
theorem fit_rn (C : String) (x : Nat) : fits (.object C) (rn x) = true := by
  by_cases h : x = 0
  · subst h; rfl
  · rw [rn_pos h]; rfl
theorem nar_ra (t : FieldType) (x : Nat) : narrow (.array t) (rn x) = rn x := by
  by_cases h : x = 0
  · subst h; rfl
  · rw [rn_pos h]; rfl
theorem fit_ra (t : FieldType) (x : Nat) : fits (.array t) (rn x) = true := by
  by_cases h : x = 0
  · subst h; rfl
  · rw [rn_pos h]; rfl
theorem lv_tableD {p : Program} {l : Launch} {e : Env} {R : Room} {s : State} {m : MethodId} {args : Array Value} {below : List Frame} {meth : Method} {c : Code} {H : Heap} {locs : List Loc} {cells slots : Nat} {Q : State → Prop} {cc : ByteArray} {pc : Nat} {ls : Array Slot} {rest : List Value} (hx : p.tables.exec = Jvm.exec) (hb : c.code = cc) {dflt lo hi : Int} {offs : Array Int} {len : Nat} {x : Int32} {tgt : Nat} {real : List Nat} (hdg : decode cc pc = .ok (.tableswitch dflt lo hi offs, len)) (hall : ∀ n, n < offs.size → n ∉ real → offs[n]? = some dflt) (hn : ¬ x.toInt < lo → ¬ hi < x.toInt → (x.toInt - lo).toNat < offs.size ∧ (x.toInt - lo).toNat ∉ real) (ht : (pc : Int) + dflt = (tgt : Int))
    (k : W p l e R s m args below meth c H locs cells slots Q (F0 m tgt ls rest)) : W p l e R s m args below meth c H locs cells slots Q (F0 m pc ls (.int x :: rest)) := by
  by_cases h1 : x.toInt < lo
  · exact lv_tableOut hx hb hdg (Or.inl h1) ht k
  · by_cases h2 : hi < x.toInt
    · exact lv_tableOut hx hb hdg (Or.inr h2) ht k
    · obtain ⟨a, b⟩ := hn h1 h2
      exact lv_tableIn hx hb hdg h1 h2 (hall _ a b) ht k
theorem cat_int (x : Int32) : (Value.int x).category = 1 := rfl
theorem cat_long (x : Int64) : (Value.long x).category = 2 := rfl
theorem cat_ref (x : Nat) : (Value.ref x).category = 1 := rfl
theorem cat_null : (Value.null).category = 1 := rfl
theorem tg_sI (m : Mm) (k i a : Nat) (v : Int32) (b : Nat) : tg (sI m k i a v) b = tg m b := rfl
theorem gI_sI (m : Mm) (k i a : Nat) (v : Int32) (k' i' b : Nat) : gI (sI m k i a v) k' i' b = if k' = k ∧ i' = i ∧ b = a then v else gI m k' i' b := rfl
theorem gR_sI (m : Mm) (k i a : Nat) (v : Int32) (k' i' b : Nat) : gR (sI m k i a v) k' i' b = gR m k' i' b := rfl
theorem aI_sI (m : Mm) (k i a : Nat) (v : Int32) (k' b j' : Nat) : aI (sI m k i a v) k' b j' = aI m k' b j' := rfl
theorem aR_sI (m : Mm) (k i a : Nat) (v : Int32) (k' b j' : Nat) : aR (sI m k i a v) k' b j' = aR m k' b j' := rfl
theorem ln_sI (m : Mm) (k i a : Nat) (v : Int32) (b : Nat) : ln (sI m k i a v) b = ln m b := rfl
theorem tg_sR (m : Mm) (k i a v : Nat) (b : Nat) : tg (sR m k i a v) b = tg m b := rfl
theorem gI_sR (m : Mm) (k i a v : Nat) (k' i' b : Nat) : gI (sR m k i a v) k' i' b = gI m k' i' b := rfl
theorem gR_sR (m : Mm) (k i a v : Nat) (k' i' b : Nat) : gR (sR m k i a v) k' i' b = if k' = k ∧ i' = i ∧ b = a then v else gR m k' i' b := rfl
theorem aI_sR (m : Mm) (k i a v : Nat) (k' b j' : Nat) : aI (sR m k i a v) k' b j' = aI m k' b j' := rfl
theorem aR_sR (m : Mm) (k i a v : Nat) (k' b j' : Nat) : aR (sR m k i a v) k' b j' = aR m k' b j' := rfl
theorem ln_sR (m : Mm) (k i a v : Nat) (b : Nat) : ln (sR m k i a v) b = ln m b := rfl
theorem tg_wI (m : Mm) (k a j : Nat) (v : Int32) (b : Nat) : tg (wI m k a j v) b = tg m b := rfl
theorem gI_wI (m : Mm) (k a j : Nat) (v : Int32) (k' i' b : Nat) : gI (wI m k a j v) k' i' b = gI m k' i' b := rfl
theorem gR_wI (m : Mm) (k a j : Nat) (v : Int32) (k' i' b : Nat) : gR (wI m k a j v) k' i' b = gR m k' i' b := rfl
theorem aI_wI (m : Mm) (k a j : Nat) (v : Int32) (k' b j' : Nat) : aI (wI m k a j v) k' b j' = if k' = k ∧ b = a ∧ j' = j then v else aI m k' b j' := rfl
theorem aR_wI (m : Mm) (k a j : Nat) (v : Int32) (k' b j' : Nat) : aR (wI m k a j v) k' b j' = aR m k' b j' := rfl
theorem ln_wI (m : Mm) (k a j : Nat) (v : Int32) (b : Nat) : ln (wI m k a j v) b = ln m b := rfl
theorem tg_wR (m : Mm) (k a j v : Nat) (b : Nat) : tg (wR m k a j v) b = tg m b := rfl
theorem gI_wR (m : Mm) (k a j v : Nat) (k' i' b : Nat) : gI (wR m k a j v) k' i' b = gI m k' i' b := rfl
theorem gR_wR (m : Mm) (k a j v : Nat) (k' i' b : Nat) : gR (wR m k a j v) k' i' b = gR m k' i' b := rfl
theorem aI_wR (m : Mm) (k a j v : Nat) (k' b j' : Nat) : aI (wR m k a j v) k' b j' = aI m k' b j' := rfl
theorem aR_wR (m : Mm) (k a j v : Nat) (k' b j' : Nat) : aR (wR m k a j v) k' b j' = if k' = k ∧ b = a ∧ j' = j then v else aR m k' b j' := rfl
theorem ln_wR (m : Mm) (k a j v : Nat) (b : Nat) : ln (wR m k a j v) b = ln m b := rfl
theorem tg_wC (m : Mm) (k a : Nat) (f : Nat → Int32) (b : Nat) : tg (wC m k a f) b = tg m b := rfl
theorem gI_wC (m : Mm) (k a : Nat) (f : Nat → Int32) (k' i' b : Nat) : gI (wC m k a f) k' i' b = gI m k' i' b := rfl
theorem gR_wC (m : Mm) (k a : Nat) (f : Nat → Int32) (k' i' b : Nat) : gR (wC m k a f) k' i' b = gR m k' i' b := rfl
theorem aI_wC (m : Mm) (k a : Nat) (f : Nat → Int32) (k' b j' : Nat) : aI (wC m k a f) k' b j' = if k' = k ∧ b = a then f j' else aI m k' b j' := rfl
theorem aR_wC (m : Mm) (k a : Nat) (f : Nat → Int32) (k' b j' : Nat) : aR (wC m k a f) k' b j' = aR m k' b j' := rfl
theorem ln_wC (m : Mm) (k a : Nat) (f : Nat → Int32) (b : Nat) : ln (wC m k a f) b = ln m b := rfl
theorem tg_nO (m : Mm) (k a : Nat) (b : Nat) : tg (nO m k a) b = if b = a then k else tg m b := rfl
theorem gI_nO (m : Mm) (k a : Nat) (k' i' b : Nat) : gI (nO m k a) k' i' b = if b = a then 0 else gI m k' i' b := rfl
theorem gR_nO (m : Mm) (k a : Nat) (k' i' b : Nat) : gR (nO m k a) k' i' b = if b = a then 0 else gR m k' i' b := rfl
theorem aI_nO (m : Mm) (k a : Nat) (k' b j' : Nat) : aI (nO m k a) k' b j' = aI m k' b j' := rfl
theorem aR_nO (m : Mm) (k a : Nat) (k' b j' : Nat) : aR (nO m k a) k' b j' = aR m k' b j' := rfl
theorem ln_nO (m : Mm) (k a : Nat) (b : Nat) : ln (nO m k a) b = ln m b := rfl
theorem tg_nA (m : Mm) (k a n : Nat) (b : Nat) : tg (nA m k a n) b = if b = a then k else tg m b := rfl
theorem gI_nA (m : Mm) (k a n : Nat) (k' i' b : Nat) : gI (nA m k a n) k' i' b = gI m k' i' b := rfl
theorem gR_nA (m : Mm) (k a n : Nat) (k' i' b : Nat) : gR (nA m k a n) k' i' b = gR m k' i' b := rfl
theorem aI_nA (m : Mm) (k a n : Nat) (k' b j' : Nat) : aI (nA m k a n) k' b j' = if b = a then 0 else aI m k' b j' := rfl
theorem aR_nA (m : Mm) (k a n : Nat) (k' b j' : Nat) : aR (nA m k a n) k' b j' = if b = a then 0 else aR m k' b j' := rfl
theorem ln_nA (m : Mm) (k a n : Nat) (b : Nat) : ln (nA m k a n) b = if b = a then n else ln m b := rfl
theorem gI_self (m : Mm) (k i a : Nat) (v : Int32) : gI (sI m k i a v) k i a = v := by simp [gI_sI]
theorem gR_self (m : Mm) (k i a v : Nat) : gR (sR m k i a v) k i a = v := by simp [gR_sR]
def cell (dA : Nat → ClassId) (m : Mm) (k a : Nat) : va_E := match k with
  | 1 => .inr (0, [rn (gR m 1 0 a), rn (gR m 1 1 a), .int (gI m 1 2 a), .int (gI m 1 3 a)])
  | 2 => .inr (1, [rn (gR m 2 0 a), rn (gR m 2 1 a), rn (gR m 2 2 a), .int (gI m 2 3 a), rn (gR m 2 4 a), rn (gR m 2 5 a), rn (gR m 2 6 a), .int (gI m 2 7 a), .int (gI m 2 8 a), .int (gI m 2 9 a)])
  | 3 => .inr (2, [rn (gR m 3 0 a), rn (gR m 3 1 a)])
  | 4 => .inr (3, [rn (gR m 4 0 a), rn (gR m 4 1 a)])
  | 5 => .inr (4, [rn (gR m 5 0 a), rn (gR m 5 1 a), rn (gR m 5 2 a)])
  | 6 => .inr (5, [rn (gR m 6 0 a), .int (gI m 6 1 a)])
  | 7 => .inr (6, [rn (gR m 7 0 a), rn (gR m 7 1 a), rn (gR m 7 2 a), .int (gI m 7 3 a)])
  | 8 => .inr (7, [rn (gR m 8 0 a), rn (gR m 8 1 a), .int (gI m 8 2 a), .int (gI m 8 3 a), .int (gI m 8 4 a), .int (gI m 8 5 a), .int (gI m 8 6 a), .int (gI m 8 7 a), .int (gI m 8 8 a)])
  | 9 => .inr (8, [rn (gR m 9 0 a), .int (gI m 9 1 a), .int (gI m 9 2 a)])
  | 10 => .inr (9, [rn (gR m 10 0 a), .int (gI m 10 1 a), .int (gI m 10 2 a), .int (gI m 10 3 a), rn (gR m 10 4 a), .int (gI m 10 5 a), .int (gI m 10 6 a)])
  | 11 => .inr (10, [.int (gI m 11 0 a), .int (gI m 11 1 a), .int (gI m 11 2 a), rn (gR m 11 3 a), rn (gR m 11 4 a), rn (gR m 11 5 a), rn (gR m 11 6 a), rn (gR m 11 7 a), rn (gR m 11 8 a), rn (gR m 11 9 a), rn (gR m 11 10 a), rn (gR m 11 11 a), rn (gR m 11 12 a), rn (gR m 11 13 a), rn (gR m 11 14 a), .int (gI m 11 15 a), rn (gR m 11 16 a), rn (gR m 11 17 a), rn (gR m 11 18 a), rn (gR m 11 19 a), rn (gR m 11 20 a), rn (gR m 11 21 a), rn (gR m 11 22 a), rn (gR m 11 23 a), .int (gI m 11 24 a), .int (gI m 11 25 a), .int (gI m 11 26 a), .int (gI m 11 27 a), .int (gI m 11 28 a), rn (gR m 11 29 a), .int (gI m 11 30 a), .int (gI m 11 31 a), .int (gI m 11 32 a), rn (gR m 11 33 a), rn (gR m 11 34 a), .int (gI m 11 35 a), .int (gI m 11 36 a)])
  | 12 => .inl (dA 0, ln m a, .inr (.inr (.inr (.inr (fun j => ro (aR m 12 a j))))))
  | 13 => .inl (dA 1, ln m a, .inl (fun j => aI m 13 a j))
  | 14 => .inl (dA 1, ln m a, .inl (fun j => aI m 14 a j))
  | 15 => .inl (dA 1, ln m a, .inl (fun j => aI m 15 a j))
  | 16 => .inl (dA 1, ln m a, .inl (fun j => aI m 16 a j))
  | 17 => .inl (dA 1, ln m a, .inl (fun j => aI m 17 a j))
  | 18 => .inl (dA 2, ln m a, .inr (.inr (.inr (.inr (fun j => ro (aR m 18 a j))))))
  | 19 => .inl (dA 3, ln m a, .inr (.inr (.inr (.inr (fun j => ro (aR m 19 a j))))))
  | 20 => .inl (dA 1, ln m a, .inl (fun j => aI m 20 a j))
  | 21 => .inl (dA 1, ln m a, .inl (fun j => aI m 21 a j))
  | 22 => .inl (dA 1, ln m a, .inl (fun j => aI m 22 a j))
  | 23 => .inl (dA 1, ln m a, .inl (fun j => aI m 23 a j))
  | 24 => .inl (dA 4, ln m a, .inl (fun j => aI m 24 a j))
  | 25 => .inl (dA 1, ln m a, .inl (fun j => aI m 25 a j))
  | 26 => .inl (dA 4, ln m a, .inl (fun j => aI m 26 a j))
  | 27 => .inl (dA 1, ln m a, .inl (fun j => aI m 27 a j))
  | 28 => .inl (dA 4, ln m a, .inl (fun j => aI m 28 a j))
  | 29 => .inl (dA 1, ln m a, .inl (fun j => aI m 29 a j))
  | 30 => .inl (dA 1, ln m a, .inl (fun j => aI m 30 a j))
  | 31 => .inl (dA 1, ln m a, .inl (fun j => aI m 31 a j))
  | 32 => .inl (dA 1, ln m a, .inl (fun j => aI m 32 a j))
  | 33 => .inl (dA 1, ln m a, .inl (fun j => aI m 33 a j))
  | 34 => .inl (dA 1, ln m a, .inl (fun j => aI m 34 a j))
  | 35 => .inl (dA 1, ln m a, .inl (fun j => aI m 35 a j))
  | 36 => .inl (dA 5, ln m a, .inl (fun j => aI m 36 a j))
  | 37 => .inl (dA 1, ln m a, .inl (fun j => aI m 37 a j))
  | 38 => .inl (dA 4, ln m a, .inl (fun j => aI m 38 a j))
  | 39 => .inl (dA 4, ln m a, .inl (fun j => aI m 39 a j))
  | 40 => .inl (dA 5, ln m a, .inl (fun j => aI m 40 a j))
  | 41 => .inl (dA 1, ln m a, .inl (fun j => aI m 41 a j))
  | 42 => .inl (dA 1, ln m a, .inl (fun j => aI m 42 a j))
  | 43 => .inl (dA 1, ln m a, .inl (fun j => aI m 43 a j))
  | 44 => .inl (dA 1, ln m a, .inl (fun j => aI m 44 a j))
  | 45 => .inl (dA 1, ln m a, .inl (fun j => aI m 45 a j))
  | 46 => .inl (dA 1, ln m a, .inl (fun j => aI m 46 a j))
  | 47 => .inl (dA 5, ln m a, .inl (fun j => aI m 47 a j))
  | 48 => .inl (dA 1, ln m a, .inl (fun j => aI m 48 a j))
  | 49 => .inl (dA 1, ln m a, .inl (fun j => aI m 49 a j))
  | 50 => .inl (dA 1, ln m a, .inl (fun j => aI m 50 a j))
  | _ => .inr (0, [])
theorem ck_1 (dA : Nat → ClassId) (m : Mm) (a : Nat) : cell dA m 1 a = .inr (0, [rn (gR m 1 0 a), rn (gR m 1 1 a), .int (gI m 1 2 a), .int (gI m 1 3 a)]) := rfl
theorem ck_2 (dA : Nat → ClassId) (m : Mm) (a : Nat) : cell dA m 2 a = .inr (1, [rn (gR m 2 0 a), rn (gR m 2 1 a), rn (gR m 2 2 a), .int (gI m 2 3 a), rn (gR m 2 4 a), rn (gR m 2 5 a), rn (gR m 2 6 a), .int (gI m 2 7 a), .int (gI m 2 8 a), .int (gI m 2 9 a)]) := rfl
theorem ck_3 (dA : Nat → ClassId) (m : Mm) (a : Nat) : cell dA m 3 a = .inr (2, [rn (gR m 3 0 a), rn (gR m 3 1 a)]) := rfl
theorem ck_4 (dA : Nat → ClassId) (m : Mm) (a : Nat) : cell dA m 4 a = .inr (3, [rn (gR m 4 0 a), rn (gR m 4 1 a)]) := rfl
theorem ck_5 (dA : Nat → ClassId) (m : Mm) (a : Nat) : cell dA m 5 a = .inr (4, [rn (gR m 5 0 a), rn (gR m 5 1 a), rn (gR m 5 2 a)]) := rfl
theorem ck_6 (dA : Nat → ClassId) (m : Mm) (a : Nat) : cell dA m 6 a = .inr (5, [rn (gR m 6 0 a), .int (gI m 6 1 a)]) := rfl
theorem ck_7 (dA : Nat → ClassId) (m : Mm) (a : Nat) : cell dA m 7 a = .inr (6, [rn (gR m 7 0 a), rn (gR m 7 1 a), rn (gR m 7 2 a), .int (gI m 7 3 a)]) := rfl
theorem ck_8 (dA : Nat → ClassId) (m : Mm) (a : Nat) : cell dA m 8 a = .inr (7, [rn (gR m 8 0 a), rn (gR m 8 1 a), .int (gI m 8 2 a), .int (gI m 8 3 a), .int (gI m 8 4 a), .int (gI m 8 5 a), .int (gI m 8 6 a), .int (gI m 8 7 a), .int (gI m 8 8 a)]) := rfl
theorem ck_9 (dA : Nat → ClassId) (m : Mm) (a : Nat) : cell dA m 9 a = .inr (8, [rn (gR m 9 0 a), .int (gI m 9 1 a), .int (gI m 9 2 a)]) := rfl
theorem ck_10 (dA : Nat → ClassId) (m : Mm) (a : Nat) : cell dA m 10 a = .inr (9, [rn (gR m 10 0 a), .int (gI m 10 1 a), .int (gI m 10 2 a), .int (gI m 10 3 a), rn (gR m 10 4 a), .int (gI m 10 5 a), .int (gI m 10 6 a)]) := rfl
theorem ck_11 (dA : Nat → ClassId) (m : Mm) (a : Nat) : cell dA m 11 a = .inr (10, [.int (gI m 11 0 a), .int (gI m 11 1 a), .int (gI m 11 2 a), rn (gR m 11 3 a), rn (gR m 11 4 a), rn (gR m 11 5 a), rn (gR m 11 6 a), rn (gR m 11 7 a), rn (gR m 11 8 a), rn (gR m 11 9 a), rn (gR m 11 10 a), rn (gR m 11 11 a), rn (gR m 11 12 a), rn (gR m 11 13 a), rn (gR m 11 14 a), .int (gI m 11 15 a), rn (gR m 11 16 a), rn (gR m 11 17 a), rn (gR m 11 18 a), rn (gR m 11 19 a), rn (gR m 11 20 a), rn (gR m 11 21 a), rn (gR m 11 22 a), rn (gR m 11 23 a), .int (gI m 11 24 a), .int (gI m 11 25 a), .int (gI m 11 26 a), .int (gI m 11 27 a), .int (gI m 11 28 a), rn (gR m 11 29 a), .int (gI m 11 30 a), .int (gI m 11 31 a), .int (gI m 11 32 a), rn (gR m 11 33 a), rn (gR m 11 34 a), .int (gI m 11 35 a), .int (gI m 11 36 a)]) := rfl
theorem ck_12 (dA : Nat → ClassId) (m : Mm) (a : Nat) : cell dA m 12 a = .inl (dA 0, ln m a, .inr (.inr (.inr (.inr (fun j => ro (aR m 12 a j)))))) := rfl
theorem ck_13 (dA : Nat → ClassId) (m : Mm) (a : Nat) : cell dA m 13 a = .inl (dA 1, ln m a, .inl (fun j => aI m 13 a j)) := rfl
theorem ck_14 (dA : Nat → ClassId) (m : Mm) (a : Nat) : cell dA m 14 a = .inl (dA 1, ln m a, .inl (fun j => aI m 14 a j)) := rfl
theorem ck_15 (dA : Nat → ClassId) (m : Mm) (a : Nat) : cell dA m 15 a = .inl (dA 1, ln m a, .inl (fun j => aI m 15 a j)) := rfl
theorem ck_16 (dA : Nat → ClassId) (m : Mm) (a : Nat) : cell dA m 16 a = .inl (dA 1, ln m a, .inl (fun j => aI m 16 a j)) := rfl
theorem ck_17 (dA : Nat → ClassId) (m : Mm) (a : Nat) : cell dA m 17 a = .inl (dA 1, ln m a, .inl (fun j => aI m 17 a j)) := rfl
theorem ck_18 (dA : Nat → ClassId) (m : Mm) (a : Nat) : cell dA m 18 a = .inl (dA 2, ln m a, .inr (.inr (.inr (.inr (fun j => ro (aR m 18 a j)))))) := rfl
theorem ck_19 (dA : Nat → ClassId) (m : Mm) (a : Nat) : cell dA m 19 a = .inl (dA 3, ln m a, .inr (.inr (.inr (.inr (fun j => ro (aR m 19 a j)))))) := rfl
theorem ck_20 (dA : Nat → ClassId) (m : Mm) (a : Nat) : cell dA m 20 a = .inl (dA 1, ln m a, .inl (fun j => aI m 20 a j)) := rfl
theorem ck_21 (dA : Nat → ClassId) (m : Mm) (a : Nat) : cell dA m 21 a = .inl (dA 1, ln m a, .inl (fun j => aI m 21 a j)) := rfl
theorem ck_22 (dA : Nat → ClassId) (m : Mm) (a : Nat) : cell dA m 22 a = .inl (dA 1, ln m a, .inl (fun j => aI m 22 a j)) := rfl
theorem ck_23 (dA : Nat → ClassId) (m : Mm) (a : Nat) : cell dA m 23 a = .inl (dA 1, ln m a, .inl (fun j => aI m 23 a j)) := rfl
theorem ck_24 (dA : Nat → ClassId) (m : Mm) (a : Nat) : cell dA m 24 a = .inl (dA 4, ln m a, .inl (fun j => aI m 24 a j)) := rfl
theorem ck_25 (dA : Nat → ClassId) (m : Mm) (a : Nat) : cell dA m 25 a = .inl (dA 1, ln m a, .inl (fun j => aI m 25 a j)) := rfl
theorem ck_26 (dA : Nat → ClassId) (m : Mm) (a : Nat) : cell dA m 26 a = .inl (dA 4, ln m a, .inl (fun j => aI m 26 a j)) := rfl
theorem ck_27 (dA : Nat → ClassId) (m : Mm) (a : Nat) : cell dA m 27 a = .inl (dA 1, ln m a, .inl (fun j => aI m 27 a j)) := rfl
theorem ck_28 (dA : Nat → ClassId) (m : Mm) (a : Nat) : cell dA m 28 a = .inl (dA 4, ln m a, .inl (fun j => aI m 28 a j)) := rfl
theorem ck_29 (dA : Nat → ClassId) (m : Mm) (a : Nat) : cell dA m 29 a = .inl (dA 1, ln m a, .inl (fun j => aI m 29 a j)) := rfl
theorem ck_30 (dA : Nat → ClassId) (m : Mm) (a : Nat) : cell dA m 30 a = .inl (dA 1, ln m a, .inl (fun j => aI m 30 a j)) := rfl
theorem ck_31 (dA : Nat → ClassId) (m : Mm) (a : Nat) : cell dA m 31 a = .inl (dA 1, ln m a, .inl (fun j => aI m 31 a j)) := rfl
theorem ck_32 (dA : Nat → ClassId) (m : Mm) (a : Nat) : cell dA m 32 a = .inl (dA 1, ln m a, .inl (fun j => aI m 32 a j)) := rfl
theorem ck_33 (dA : Nat → ClassId) (m : Mm) (a : Nat) : cell dA m 33 a = .inl (dA 1, ln m a, .inl (fun j => aI m 33 a j)) := rfl
theorem ck_34 (dA : Nat → ClassId) (m : Mm) (a : Nat) : cell dA m 34 a = .inl (dA 1, ln m a, .inl (fun j => aI m 34 a j)) := rfl
theorem ck_35 (dA : Nat → ClassId) (m : Mm) (a : Nat) : cell dA m 35 a = .inl (dA 1, ln m a, .inl (fun j => aI m 35 a j)) := rfl
theorem ck_36 (dA : Nat → ClassId) (m : Mm) (a : Nat) : cell dA m 36 a = .inl (dA 5, ln m a, .inl (fun j => aI m 36 a j)) := rfl
theorem ck_37 (dA : Nat → ClassId) (m : Mm) (a : Nat) : cell dA m 37 a = .inl (dA 1, ln m a, .inl (fun j => aI m 37 a j)) := rfl
theorem ck_38 (dA : Nat → ClassId) (m : Mm) (a : Nat) : cell dA m 38 a = .inl (dA 4, ln m a, .inl (fun j => aI m 38 a j)) := rfl
theorem ck_39 (dA : Nat → ClassId) (m : Mm) (a : Nat) : cell dA m 39 a = .inl (dA 4, ln m a, .inl (fun j => aI m 39 a j)) := rfl
theorem ck_40 (dA : Nat → ClassId) (m : Mm) (a : Nat) : cell dA m 40 a = .inl (dA 5, ln m a, .inl (fun j => aI m 40 a j)) := rfl
theorem ck_41 (dA : Nat → ClassId) (m : Mm) (a : Nat) : cell dA m 41 a = .inl (dA 1, ln m a, .inl (fun j => aI m 41 a j)) := rfl
theorem ck_42 (dA : Nat → ClassId) (m : Mm) (a : Nat) : cell dA m 42 a = .inl (dA 1, ln m a, .inl (fun j => aI m 42 a j)) := rfl
theorem ck_43 (dA : Nat → ClassId) (m : Mm) (a : Nat) : cell dA m 43 a = .inl (dA 1, ln m a, .inl (fun j => aI m 43 a j)) := rfl
theorem ck_44 (dA : Nat → ClassId) (m : Mm) (a : Nat) : cell dA m 44 a = .inl (dA 1, ln m a, .inl (fun j => aI m 44 a j)) := rfl
theorem ck_45 (dA : Nat → ClassId) (m : Mm) (a : Nat) : cell dA m 45 a = .inl (dA 1, ln m a, .inl (fun j => aI m 45 a j)) := rfl
theorem ck_46 (dA : Nat → ClassId) (m : Mm) (a : Nat) : cell dA m 46 a = .inl (dA 1, ln m a, .inl (fun j => aI m 46 a j)) := rfl
theorem ck_47 (dA : Nat → ClassId) (m : Mm) (a : Nat) : cell dA m 47 a = .inl (dA 5, ln m a, .inl (fun j => aI m 47 a j)) := rfl
theorem ck_48 (dA : Nat → ClassId) (m : Mm) (a : Nat) : cell dA m 48 a = .inl (dA 1, ln m a, .inl (fun j => aI m 48 a j)) := rfl
theorem ck_49 (dA : Nat → ClassId) (m : Mm) (a : Nat) : cell dA m 49 a = .inl (dA 1, ln m a, .inl (fun j => aI m 49 a j)) := rfl
theorem ck_50 (dA : Nat → ClassId) (m : Mm) (a : Nat) : cell dA m 50 a = .inl (dA 1, ln m a, .inl (fun j => aI m 50 a j)) := rfl
theorem co_sI {dA : Nat → ClassId} {m : Mm} {a b : Nat} {k i : Nat} {v : Int32} (t : Nat) (hb : b ≠ a) : cell dA (sI m k i a v) t b = cell dA m t b := by
  unfold cell
  split <;> simp [gI, gR, aI, aR, ln, sI, va_up, hb]
theorem co_sR {dA : Nat → ClassId} {m : Mm} {a b : Nat} {k i v : Nat} (t : Nat) (hb : b ≠ a) : cell dA (sR m k i a v) t b = cell dA m t b := by
  unfold cell
  split <;> simp [gI, gR, aI, aR, ln, sR, va_up, hb]
theorem co_wI {dA : Nat → ClassId} {m : Mm} {a b : Nat} {k j : Nat} {v : Int32} (t : Nat) (hb : b ≠ a) : cell dA (wI m k a j v) t b = cell dA m t b := by
  unfold cell
  split <;> simp [gI, gR, aI, aR, ln, wI, va_up, hb]
theorem co_wR {dA : Nat → ClassId} {m : Mm} {a b : Nat} {k j v : Nat} (t : Nat) (hb : b ≠ a) : cell dA (wR m k a j v) t b = cell dA m t b := by
  unfold cell
  split <;> simp [gI, gR, aI, aR, ln, wR, va_up, hb]
theorem co_wC {dA : Nat → ClassId} {m : Mm} {a b : Nat} {k : Nat} {f : Nat → Int32} (t : Nat) (hb : b ≠ a) : cell dA (wC m k a f) t b = cell dA m t b := by
  unfold cell
  split <;> simp [gI, gR, aI, aR, ln, wC, va_up, hb]
theorem co_nO {dA : Nat → ClassId} {m : Mm} {a b : Nat} {k : Nat} (t : Nat) (hb : b ≠ a) : cell dA (nO m k a) t b = cell dA m t b := by
  unfold cell
  split <;> simp [gI, gR, aI, aR, ln, nO, va_up, hb]
theorem co_nA {dA : Nat → ClassId} {m : Mm} {a b : Nat} {k n : Nat} (t : Nat) (hb : b ≠ a) : cell dA (nA m k a n) t b = cell dA m t b := by
  unfold cell
  split <;> simp [gI, gR, aI, aR, ln, nA, va_up, hb]
def NwAll (U : State) : Prop := va_Nw (.fieldLinkNest R_Device 18 "MachineLoop" "SETTING_AT_FIRST" "[I" "MachineLoop") U ∧ va_Nw (.fieldLinkNest R_Device 21 "MachineLoop" "SETTING_LEAST" "[I" "MachineLoop") U ∧ va_Nw (.fieldLinkNest R_Device 24 "MachineLoop" "SETTING_MOST" "[I" "MachineLoop") U ∧ True
theorem Nw_0 {U : State} (h : NwAll U) : va_Nw (.fieldLinkNest R_Device 18 "MachineLoop" "SETTING_AT_FIRST" "[I" "MachineLoop") U := h.1
theorem Nw_1 {U : State} (h : NwAll U) : va_Nw (.fieldLinkNest R_Device 21 "MachineLoop" "SETTING_LEAST" "[I" "MachineLoop") U := h.2.1
theorem Nw_2 {U : State} (h : NwAll U) : va_Nw (.fieldLinkNest R_Device 24 "MachineLoop" "SETTING_MOST" "[I" "MachineLoop") U := h.2.2.1
theorem NwAll.same {u U : State} (hv : u.vm = U.vm) (h : NwAll u) : NwAll U := ⟨va_Nw.same rfl hv (Nw_0 h), va_Nw.same rfl hv (Nw_1 h), va_Nw.same rfl hv (Nw_2 h), trivial⟩
theorem NwAll.warm {u U : State} (hW : u.WarmedH U.vm) (h : NwAll u) : NwAll U := ⟨va_Nw.warmF hW (Nw_0 h), va_Nw.warmF hW (Nw_1 h), va_Nw.warmF hW (Nw_2 h), trivial⟩
def Cx (G : Gc) (U : State) : Prop := 0 < G.2.2.2.1 ∧ va_K G.1 classes (tys G.2.1) U ∧ G.2.2.2.1 ≤ U.heap.size ∧ va_X (G.2.2.1 99) G.2.2.2.2.1 G.2.2.2.2.2 U U.heap ∧ G.2.2.1 99 < G.2.2.2.1 ∧ va_AO "MachineLoop$Job" U ∧ va_AO "MachineLoop$Store" U ∧ va_AO "MachineLoop$Handle" U ∧ va_Z "MachineLoop" "SETTING_AT_FIRST" "[I" (.ref (G.2.2.1 0)) (fr G) U U.heap ∧ va_T .int (G.2.2.1 0) 4 (fun j => .int (tab_0 j)) (fr G) U U.heap ∧ va_Z "MachineLoop" "SETTING_LEAST" "[I" (.ref (G.2.2.1 1)) (fr G) U U.heap ∧ va_T .int (G.2.2.1 1) 4 (fun j => .int (tab_1 j)) (fr G) U U.heap ∧ va_Z "MachineLoop" "SETTING_MOST" "[I" (.ref (G.2.2.1 2)) (fr G) U U.heap ∧ va_T .int (G.2.2.1 2) 4 (fun j => .int (tab_2 j)) (fr G) U U.heap ∧ NwAll U
theorem Cx_ao0 {G : Gc} {U : State} (h : Cx G U) : va_AO "MachineLoop$Job" U := h.2.2.2.2.2.1
theorem Cx_ao1 {G : Gc} {U : State} (h : Cx G U) : va_AO "MachineLoop$Store" U := h.2.2.2.2.2.2.1
theorem Cx_ao2 {G : Gc} {U : State} (h : Cx G U) : va_AO "MachineLoop$Handle" U := h.2.2.2.2.2.2.2.1
theorem Cx_x {G : Gc} {U : State} (h : Cx G U) : va_X (G.2.2.1 99) G.2.2.2.2.1 G.2.2.2.2.2 U U.heap := h.2.2.2.1
theorem Cx_xl {G : Gc} {U : State} (h : Cx G U) : G.2.2.1 99 < G.2.2.2.1 := h.2.2.2.2.1
theorem Cx_z0 {G : Gc} {U : State} (h : Cx G U) : va_Z "MachineLoop" "SETTING_AT_FIRST" "[I" (.ref (G.2.2.1 0)) (fr G) U U.heap := h.2.2.2.2.2.2.2.2.1
theorem Cx_t0 {G : Gc} {U : State} (h : Cx G U) : va_T .int (G.2.2.1 0) 4 (fun j => .int (tab_0 j)) (fr G) U U.heap := h.2.2.2.2.2.2.2.2.2.1
theorem Cx_z1 {G : Gc} {U : State} (h : Cx G U) : va_Z "MachineLoop" "SETTING_LEAST" "[I" (.ref (G.2.2.1 1)) (fr G) U U.heap := h.2.2.2.2.2.2.2.2.2.2.1
theorem Cx_t1 {G : Gc} {U : State} (h : Cx G U) : va_T .int (G.2.2.1 1) 4 (fun j => .int (tab_1 j)) (fr G) U U.heap := h.2.2.2.2.2.2.2.2.2.2.2.1
theorem Cx_z2 {G : Gc} {U : State} (h : Cx G U) : va_Z "MachineLoop" "SETTING_MOST" "[I" (.ref (G.2.2.1 2)) (fr G) U U.heap := h.2.2.2.2.2.2.2.2.2.2.2.2.1
theorem Cx_t2 {G : Gc} {U : State} (h : Cx G U) : va_T .int (G.2.2.1 2) 4 (fun j => .int (tab_2 j)) (fr G) U U.heap := h.2.2.2.2.2.2.2.2.2.2.2.2.2.1
theorem Cx_nw {G : Gc} {U : State} (h : Cx G U) : NwAll U := h.2.2.2.2.2.2.2.2.2.2.2.2.2.2
theorem Cx.moved {G : Gc} {u U : State} (hvm : u.vm.Alike U.vm) (hsz : u.heap.size ≤ U.heap.size) (hq : ∀ q : Nat, q < u.heap.size → ¬ fr G q → U.heap[q]? = u.heap[q]?) (hn : NwAll u → NwAll U) (h : Cx G u) : Cx G U :=
  ⟨h.1, va_K.moved hvm h.2.1, Nat.le_trans h.2.2.1 hsz, va_X.kept (va_X.moved hvm (Cx_x h)) (hq _ (Nat.lt_of_lt_of_le (Cx_xl h) h.2.2.1) (Nat.not_le.mpr (Cx_xl h))), Cx_xl h, va_AO.moved hvm (Cx_ao0 h), va_AO.moved hvm (Cx_ao1 h), va_AO.moved hvm (Cx_ao2 h), (va_Z.moved hvm (Cx_z0 h)).kept hq, (va_T.moved hvm (Cx_t0 h)).kept hq, (va_Z.moved hvm (Cx_z1 h)).kept hq, (va_T.moved hvm (Cx_t1 h)).kept hq, (va_Z.moved hvm (Cx_z2 h)).kept hq, (va_T.moved hvm (Cx_t2 h)).kept hq, hn (Cx_nw h)⟩
