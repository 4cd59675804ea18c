/-! A NEW REFERENCE -/
def zv (f i : Nat) : Int32 := if f = 7 ∧ i = 1 then 1 else 0
/-- the arrays made so far -/
def Mq9 (m0 m : Mm) (a : Nat) (B : Nat → Nat) (X : List Nat) : Prop := Ex m0 m ∧ tg m0 a = 0 ∧ tg m a = 11 ∧ (∀ f, gI m 11 f a = 0) ∧ ∀ f ∈ X, gR m 11 f a = B f ∧ tg m (B f) = kd f ∧ tg m (B f) ≠ 0 ∧ ln m (B f) = al f ∧ ∀ i, aI m (kd f) (B f) i = zv f i
theorem Mq9.st {m0 m m1 : Mm} {a q f : Nat} {B : Nat → Nat} {X : List Nat} (h : Mq9 m0 m a B X) (e : Ex m m1) (hq : tg m q = 0) (t : tg m1 q = kd f) (tz : kd f ≠ 0) (l : ln m1 q = al f) (v : ∀ i, aI m1 (kd f) q i = zv f i) (hf : f ∉ X) : Mq9 m0 (sR m1 11 f a q) a (va_up B f q) (f :: X) := by
  obtain ⟨h1, h2, h3, h4, h5⟩ := h
  have ea := e a (by rw [h3]; decide)
  refine ⟨(h1.tr e).sR h2 _ _ _, h2, ea.1.trans h3, fun g => (ea.2.2.1 _ _).trans (h4 g), fun g hg => ?_⟩
  rcases List.mem_cons.mp hg with rfl | hg
  · have eB : va_up B g q g = q := if_pos rfl
    rw [eB]
    refine ⟨?_, t, ?_, l, v⟩
    · rw [gR_sR, if_pos ⟨rfl, rfl, rfl⟩]
    · show tg m1 q ≠ 0
      rw [t]; exact tz
  · have hgf : g ≠ f := fun z => hf (z ▸ hg)
    have eB : va_up B f q g = B g := if_neg hgf
    rw [eB]
    obtain ⟨g1, g2, g3, g4, g5⟩ := h5 g hg
    obtain ⟨b1, b2, b3, b4, b5, b6⟩ := e (B g) g3
    refine ⟨?_, b1.trans g2, ?_, b2.trans g4, fun i => (b5 _ _).trans (g5 i)⟩
    · rw [gR_sR, if_neg (fun z => hgf z.2.1)]; exact (ea.2.2.2.1 _ _).trans g1
    · show tg m1 (B g) ≠ 0
      rw [b1]; exact g3
theorem Mq9.ar {m0 m : Mm} {a q : Nat} {B : Nat → Nat} {X : List Nat} (f : Nat) (h : Mq9 m0 m a B X) (hq : tg m q = 0) (tz : kd f ≠ 0) (h7 : f ≠ 7) (hf : f ∉ X) : Mq9 m0 (sR (nA m (kd f) q (al f)) 11 f a q) a (va_up B f q) (f :: X) := by
  refine h.st ((Ex.rf m).nA hq _ _) hq ?_ tz ?_ (fun i => ?_) hf
  · rw [tg_nA, if_pos rfl]
  · rw [ln_nA, if_pos rfl]
  · rw [aI_nA, if_pos rfl]; exact (if_neg (fun z => h7 z.1)).symm
theorem Mq9.a7 {m0 m : Mm} {a q : Nat} {B : Nat → Nat} {X : List Nat} (h : Mq9 m0 m a B X) (hq : tg m q = 0) (hf : 7 ∉ X) : Mq9 m0 (sR (wI (wI (wI (wI (nA m 32 q 4) 32 q 0 0) 32 q 1 1) 32 q 2 0) 32 q 3 0) 11 7 a q) a (va_up B 7 q) (7 :: X) := by
  refine h.st (f := 7) (((((((Ex.rf m).nA hq 32 4).wI hq 32 0 0).wI hq 32 1 1).wI hq 32 2 0)).wI hq 32 3 0) hq ?_ (by decide) ?_ (fun i => ?_) hf
  · show tg (nA m 32 q 4) q = 32
    rw [tg_nA, if_pos rfl]
  · show ln (nA m 32 q 4) q = 4
    rw [ln_nA, if_pos rfl]
  · show aI _ 32 q i = _
    unfold zv
    simp only [aI_wI, aI_nA, true_and, if_true]
    by_cases e1 : i = 1
    · subst e1; rfl
    · simp [e1]
theorem Mq9.t {m0 m : Mm} {a : Nat} {B : Nat → Nat} {X : List Nat} (h : Mq9 m0 m a B X) : tg m a = 11 := h.2.2.1
/-- the first state, n steps, places of the table filled below i -/
def t0 (n i : Nat) : Sg := ((fun f => if f = 1 then n else 0), (fun f j => if f = 7 ∧ j = 1 then 1 else 0), (fun f j => if f = 8 ∧ j < i then -1 else 0), 0)
def s0 (n : Nat) : Sg := uN (uN (t0 n 40) 16 1 1) 18 1 1
theorem t0_s (n i : Nat) : uD (t0 n i) 8 i (-1) = t0 n (i + 1) := by
  unfold uD t0
  refine Prod.ext rfl (Prod.ext rfl (Prod.ext ?_ rfl))
  funext f j
  show (if f = 8 ∧ j = i then (-1 : Int32) else if f = 8 ∧ j < i then -1 else 0) = if f = 8 ∧ j < i + 1 then -1 else 0
  by_cases e : f = 8 ∧ j = i
  · rw [if_pos e, if_pos ⟨e.1, by omega⟩]
  · rw [if_neg e]
    by_cases e2 : f = 8 ∧ j < i
    · rw [if_pos e2, if_pos ⟨e2.1, by omega⟩]
    · rw [if_neg e2, if_neg (by omega)]
theorem t0_u (n : Nat) : uF (t0 0 0) 1 n = t0 n 0 := by
  unfold uF t0
  refine Prod.ext ?_ rfl
  funext f
  show (if f = 1 then n else if f = 1 then 0 else 0) = if f = 1 then n else 0
  split <;> simp
theorem Mq9.rm {m0 m : Mm} {a : Nat} {B : Nat → Nat} {X : List Nat} (h : Mq9 m0 m a B X) (hX : ∀ f ∈ aN ++ aD, f ∈ X) : RM m a B (t0 0 0) := by
  obtain ⟨h1, h2, h3, h4, h5⟩ := h
  refine ⟨h3, fun f hf => ?_, fun f hf => ?_, ?_, fun f hf i hi => ?_, fun f hf i hi => ?_⟩
  · obtain ⟨g1, g2, g3, g4, g5⟩ := h5 f (hX f hf)
    exact ⟨g1, g2, g4⟩
  · rw [h4]
    show (0 : Int32) = nI (if f = 1 then 0 else 0)
    split <;> rfl
  · rw [h4]; rfl
  · rw [(h5 f (hX f (List.mem_append_left _ hf))).2.2.2.2 i]
    show (if f = 7 ∧ i = 1 then (1 : Int32) else 0) = nI (if f = 7 ∧ i = 1 then 1 else 0)
    split <;> rfl
  · rw [(h5 f (hX f (List.mem_append_right _ hf))).2.2.2.2 i]
    have h7 : f ≠ 7 := fun z => by subst z; revert hf; decide
    show (if f = 7 ∧ i = 1 then (1 : Int32) else 0) = if f = 8 ∧ i < 0 then -1 else 0
    rw [if_neg (fun z => h7 z.1), if_neg (fun z => by omega)]
theorem w_i236 {a : Nat} {B : Nat → Nat} {Z : Mm → Prop} {P : Mm → Prop} {n : Nat} (k : ∀ m', RZ Z m' a B (s0 n) → P m') : ∀ (c i : Nat) (m : Mm), c + i = 40 → RZ Z m a B (t0 n i) → ∃ f, wp_Mo_init_236 P f m a (nI i) := by
  intro c
  induction c with
  | zero =>
    intro i m hc h
    have hi : i = 40 := by omega
    subst hi
    refine ⟨1, ?_⟩
    unfold wp_Mo_init_236
    refine ⟨fun _ => ?_, fun z => absurd (by decide : (40 : Int32) ≤ nI 40) z⟩
    have r16 := (h.2.1 16 (by decide)).1
    have T16 : tg m (B 16) = 40 := (h.2.1 16 (by decide)).2.1
    have l16 : ln m (B 16) = 8 := (h.2.1 16 (by decide)).2.2
    have r18 := (h.2.1 18 (by decide)).1
    have T18 : tg m (B 18) = 42 := (h.2.1 18 (by decide)).2.1
    have l18 : ln m (B 18) = 8 := (h.2.1 18 (by decide)).2.2
    have i1 : vp_in 1 8 := vp_in_nI (n := 1) (N := 8) (by decide) (by decide)
    refine ⟨h.1, fun x ex => ?_⟩
    rw [r16] at ex
    subst ex
    refine ⟨T16, by rw [l16]; exact i1, fun m6 e6 => ?_⟩
    have h6 : RZ Z m6 a B (uN (t0 n 40) 16 1 1) := by rw [e6]; exact h.wN 16 1 1 (by decide)
    have t6 : tg m6 (B 18) = 42 := by rw [e6]; exact T18
    have l6 : ln m6 (B 18) = 8 := by rw [e6]; exact l18
    refine ⟨h6.1, fun x ex => ?_⟩
    rw [(h6.2.1 18 (by decide)).1] at ex
    subst ex
    refine ⟨t6, by rw [l6]; exact i1, fun m9 e9 => ?_⟩
    refine k m9 ?_
    rw [e9]
    exact h6.wN 18 1 1 (by decide)
  | succ c ih =>
    intro i m hc h
    have T8 : tg m (B 8) = 33 := (h.2.1 8 (by decide)).2.1
    have l8 : ln m (B 8) = 40 := (h.2.1 8 (by decide)).2.2
    have h' : RZ Z (wI m 33 (B 8) i (-1)) a B (t0 n (i + 1)) := by
      have := h.wD 8 i (-1) (by decide)
      rw [t0_s] at this
      exact this
    obtain ⟨f, hf⟩ := ih (i + 1) _ (by omega) h'
    refine ⟨f + 1, ?_⟩
    unfold wp_Mo_init_236
    refine ⟨fun z => absurd z (by rw [geL_40 (by omega)]; omega), fun _ => ⟨h.1, fun x ex => ?_⟩⟩
    rw [(h.2.1 8 (by decide)).1] at ex
    subst ex
    refine ⟨T8, by rw [l8]; exact vp_in_nI (by omega) (by omega), fun m6 e6 x ex => ?_⟩
    rw [nI_clamp (by omega)] at e6
    subst e6
    subst ex
    rw [nI_1]
    exact hf
/-- the steps of a new object -/
def stp (v : Int64) : Nat := if v < 0 then 0 else if 20000 < v then 20000 else v.toInt.toNat
theorem stp_le (v : Int64) : stp v ≤ 20000 := by
  unfold stp
  split
  · decide
  · split
    · decide
    · rename_i a b
      rw [Int64.lt_iff_toInt_lt] at a b
      have h0 : (0 : Int64).toInt = 0 := by decide
      have h2 : (20000 : Int64).toInt = 20000 := by decide
      omega
theorem stp_mid {v : Int64} (a : ¬ v < 0) (b : ¬ 20000 < v) : v.toInt32 = nI (stp v) := by
  have e : stp v = v.toInt.toNat := by unfold stp; rw [if_neg a, if_neg b]
  rw [e]
  rw [Int64.lt_iff_toInt_lt] at a b
  have h0 : (0 : Int64).toInt = 0 := by decide
  have h2 : (20000 : Int64).toInt = 20000 := by decide
  have : v = lN v.toInt.toNat := Int64.toInt_inj.mp (by rw [lN_toInt (by omega)]; omega)
  rw [this, lN_i]
  rw [← this]
theorem stp_c {v : Int64} : (if (if (20000 : Int64) < v then (20000 : Int64) else v) < (0 : Int64) then (0 : Int64) else (if (20000 : Int64) < v then (20000 : Int64) else v)).toInt32 = nI (stp v) := by
  by_cases b : (20000 : Int64) < v
  · have a : ¬ v < 0 := by
      rw [Int64.lt_iff_toInt_lt] at *
      have h0 : (0 : Int64).toInt = 0 := by decide
      have h2 : (20000 : Int64).toInt = 20000 := by decide
      omega
    rw [if_pos b, if_neg (by decide)]
    unfold stp
    rw [if_neg a, if_pos b]
    rfl
  · rw [if_neg b]
    by_cases a : v < 0
    · rw [if_pos a]
      unfold stp
      rw [if_pos a]
      rfl
    · rw [if_neg a]
      exact stp_mid a b
theorem lg_ge {v : Int64} : 0 ≤ lg_cmp v 0 ↔ ¬ v < 0 := by
  rw [lg_cmp_ge, Int64.le_iff_toInt_le, Int64.lt_iff_toInt_lt]
  omega
theorem lg_le {v : Int64} : lg_cmp v 20000 ≤ 0 ↔ ¬ 20000 < v := by
  rw [lg_cmp_le, Int64.le_iff_toInt_le, Int64.lt_iff_toInt_lt]
  omega
/-- the constructor of the reference: what was there stays, and the first state is laid -/
theorem c_Mo {m0 : Mm} {a : Nat} {v : Int64} {Z : Mm → Prop} (ha : tg m0 a = 0) (hz : a ≠ 0) (hZ : Zc Z) (hE : ∀ m', Ex m0 m' → Z m') {P : Mm → Prop} (k : ∀ m' B, RZ Z m' a B (s0 (stp v)) → P m') : wp_Mo_init (nO m0 11 a) a v P := by
  unfold wp_Mo_init wp_Mo_init_0
  have Q : Mq9 m0 (nO m0 11 a) a (fun _ => 0) [] := by
    refine ⟨(Ex.rf m0).nO ha 11, ha, ?_, fun f => ?_, fun f hf => absurd hf (by simp)⟩
    · rw [tg_nO, if_pos rfl]
    · rw [gI_nO, if_pos rfl]
  generalize nO m0 11 a = m at Q
  generalize (fun _ => 0 : Nat → Nat) = B at Q
  refine ⟨hz, ?_⟩
  intro q hq hqz m1 e1
  have Q' := Q.ar 3 hq (by decide) (by decide) (by decide)
  have Qt := Q'.t
  rw [e1]
  refine ⟨Qt, fun m6 e6 => ?_⟩
  have Q2 : Mq9 m0 m6 a (va_up B 3 q) [3] := by rw [e6]; exact Q'
  clear Q' Qt e1 e6 hq hqz Q
  generalize va_up B 3 q = B at Q2
  clear q m1 m
  have Q := Q2
  clear Q2
  generalize m6 = m at Q ⊢
  intro q hq hqz m1 e1
  have Q' := Q.ar 4 hq (by decide) (by decide) (by decide)
  have Qt := Q'.t
  rw [e1]
  refine ⟨Qt, fun m6 e6 => ?_⟩
  have Q2 : Mq9 m0 m6 a (va_up B 4 q) [4, 3] := by rw [e6]; exact Q'
  clear Q' Qt e1 e6 hq hqz Q
  generalize va_up B 4 q = B at Q2
  clear q m1 m
  have Q := Q2
  clear Q2
  generalize m6 = m at Q ⊢
  intro q hq hqz m1 e1
  have Q' := Q.ar 5 hq (by decide) (by decide) (by decide)
  have Qt := Q'.t
  rw [e1]
  refine ⟨Qt, fun m6 e6 => ?_⟩
  have Q2 : Mq9 m0 m6 a (va_up B 5 q) [5, 4, 3] := by rw [e6]; exact Q'
  clear Q' Qt e1 e6 hq hqz Q
  generalize va_up B 5 q = B at Q2
  clear q m1 m
  have Q := Q2
  clear Q2
  generalize m6 = m at Q ⊢
  intro q hq hqz m1 e1
  have Q' := Q.ar 6 hq (by decide) (by decide) (by decide)
  have Qt := Q'.t
  rw [e1]
  refine ⟨Qt, fun m6 e6 => ?_⟩
  have Q2 : Mq9 m0 m6 a (va_up B 6 q) [6, 5, 4, 3] := by rw [e6]; exact Q'
  clear Q' Qt e1 e6 hq hqz Q
  generalize va_up B 6 q = B at Q2
  clear q m1 m
  have Q := Q2
  clear Q2
  generalize m6 = m at Q ⊢
  intro q hq hqz m1 e1
  have t1 : tg m1 q = 32 := by rw [e1, tg_nA, if_pos rfl]
  have l1 : ln m1 q = 4 := by rw [e1, ln_nA, if_pos rfl]
  refine ⟨t1, by rw [l1]; exact vp_in_nI (n := 0) (by decide) (by decide), fun m2 e2 => ?_⟩
  have t2 : tg m2 q = 32 := by rw [e2]; exact t1
  have l2 : ln m2 q = 4 := by rw [e2]; exact l1
  refine ⟨t2, by rw [l2]; exact vp_in_nI (n := 1) (by decide) (by decide), fun m3 e3 => ?_⟩
  have t3 : tg m3 q = 32 := by rw [e3]; exact t2
  have l3 : ln m3 q = 4 := by rw [e3]; exact l2
  refine ⟨t3, by rw [l3]; exact vp_in_nI (n := 2) (by decide) (by decide), fun m4 e4 => ?_⟩
  have t4 : tg m4 q = 32 := by rw [e4]; exact t3
  have l4 : ln m4 q = 4 := by rw [e4]; exact l3
  refine ⟨t4, by rw [l4]; exact vp_in_nI (n := 3) (by decide) (by decide), fun m5 e5 => ?_⟩
  have Q' := Q.a7 hq (by decide)
  have e9 : wI (wI (wI (wI (nA m 32 q 4) 32 q 0 0) 32 q 1 1) 32 q 2 0) 32 q 3 0 = m5 := by
    rw [e5, e4, e3, e2, e1]; rfl
  rw [e9] at Q'
  have Qt := Q'.t
  refine ⟨Qt, fun m6 e6 => ?_⟩
  rw [← e6] at Q'
  clear e9 e1 e2 e3 e4 e5 e6 t1 l1 t2 l2 t3 l3 t4 l4 Qt hq hqz Q
  clear m1 m2 m3 m4 m5
  generalize va_up B 7 q = B at Q'
  clear q m
  have Q := Q'
  clear Q'
  generalize m6 = m at Q ⊢
  intro q hq hqz m1 e1
  have Q' := Q.ar 8 hq (by decide) (by decide) (by decide)
  have Qt := Q'.t
  rw [e1]
  refine ⟨Qt, fun m6 e6 => ?_⟩
  have Q2 : Mq9 m0 m6 a (va_up B 8 q) [8, 7, 6, 5, 4, 3] := by rw [e6]; exact Q'
  clear Q' Qt e1 e6 hq hqz Q
  generalize va_up B 8 q = B at Q2
  clear q m1 m
  have Q := Q2
  clear Q2
  generalize m6 = m at Q ⊢
  intro q hq hqz m1 e1
  have Q' := Q.ar 9 hq (by decide) (by decide) (by decide)
  have Qt := Q'.t
  rw [e1]
  refine ⟨Qt, fun m6 e6 => ?_⟩
  have Q2 : Mq9 m0 m6 a (va_up B 9 q) [9, 8, 7, 6, 5, 4, 3] := by rw [e6]; exact Q'
  clear Q' Qt e1 e6 hq hqz Q
  generalize va_up B 9 q = B at Q2
  clear q m1 m
  have Q := Q2
  clear Q2
  generalize m6 = m at Q ⊢
  intro q hq hqz m1 e1
  have Q' := Q.ar 10 hq (by decide) (by decide) (by decide)
  have Qt := Q'.t
  rw [e1]
  refine ⟨Qt, fun m6 e6 => ?_⟩
  have Q2 : Mq9 m0 m6 a (va_up B 10 q) [10, 9, 8, 7, 6, 5, 4, 3] := by rw [e6]; exact Q'
  clear Q' Qt e1 e6 hq hqz Q
  generalize va_up B 10 q = B at Q2
  clear q m1 m
  have Q := Q2
  clear Q2
  generalize m6 = m at Q ⊢
  intro q hq hqz m1 e1
  have Q' := Q.ar 11 hq (by decide) (by decide) (by decide)
  have Qt := Q'.t
  rw [e1]
  refine ⟨Qt, fun m6 e6 => ?_⟩
  have Q2 : Mq9 m0 m6 a (va_up B 11 q) [11, 10, 9, 8, 7, 6, 5, 4, 3] := by rw [e6]; exact Q'
  clear Q' Qt e1 e6 hq hqz Q
  generalize va_up B 11 q = B at Q2
  clear q m1 m
  have Q := Q2
  clear Q2
  generalize m6 = m at Q ⊢
  intro q hq hqz m1 e1
  have Q' := Q.ar 12 hq (by decide) (by decide) (by decide)
  have Qt := Q'.t
  rw [e1]
  refine ⟨Qt, fun m6 e6 => ?_⟩
  have Q2 : Mq9 m0 m6 a (va_up B 12 q) [12, 11, 10, 9, 8, 7, 6, 5, 4, 3] := by rw [e6]; exact Q'
  clear Q' Qt e1 e6 hq hqz Q
  generalize va_up B 12 q = B at Q2
  clear q m1 m
  have Q := Q2
  clear Q2
  generalize m6 = m at Q ⊢
  intro q hq hqz m1 e1
  have Q' := Q.ar 13 hq (by decide) (by decide) (by decide)
  have Qt := Q'.t
  rw [e1]
  refine ⟨Qt, fun m6 e6 => ?_⟩
  have Q2 : Mq9 m0 m6 a (va_up B 13 q) [13, 12, 11, 10, 9, 8, 7, 6, 5, 4, 3] := by rw [e6]; exact Q'
  clear Q' Qt e1 e6 hq hqz Q
  generalize va_up B 13 q = B at Q2
  clear q m1 m
  have Q := Q2
  clear Q2
  generalize m6 = m at Q ⊢
  intro q hq hqz m1 e1
  have Q' := Q.ar 14 hq (by decide) (by decide) (by decide)
  have Qt := Q'.t
  rw [e1]
  refine ⟨Qt, fun m6 e6 => ?_⟩
  have Q2 : Mq9 m0 m6 a (va_up B 14 q) [14, 13, 12, 11, 10, 9, 8, 7, 6, 5, 4, 3] := by rw [e6]; exact Q'
  clear Q' Qt e1 e6 hq hqz Q
  generalize va_up B 14 q = B at Q2
  clear q m1 m
  have Q := Q2
  clear Q2
  generalize m6 = m at Q ⊢
  intro q hq hqz m1 e1
  have Q' := Q.ar 16 hq (by decide) (by decide) (by decide)
  have Qt := Q'.t
  rw [e1]
  refine ⟨Qt, fun m6 e6 => ?_⟩
  have Q2 : Mq9 m0 m6 a (va_up B 16 q) [16, 14, 13, 12, 11, 10, 9, 8, 7, 6, 5, 4, 3] := by rw [e6]; exact Q'
  clear Q' Qt e1 e6 hq hqz Q
  generalize va_up B 16 q = B at Q2
  clear q m1 m
  have Q := Q2
  clear Q2
  generalize m6 = m at Q ⊢
  intro q hq hqz m1 e1
  have Q' := Q.ar 17 hq (by decide) (by decide) (by decide)
  have Qt := Q'.t
  rw [e1]
  refine ⟨Qt, fun m6 e6 => ?_⟩
  have Q2 : Mq9 m0 m6 a (va_up B 17 q) [17, 16, 14, 13, 12, 11, 10, 9, 8, 7, 6, 5, 4, 3] := by rw [e6]; exact Q'
  clear Q' Qt e1 e6 hq hqz Q
  generalize va_up B 17 q = B at Q2
  clear q m1 m
  have Q := Q2
  clear Q2
  generalize m6 = m at Q ⊢
  intro q hq hqz m1 e1
  have Q' := Q.ar 18 hq (by decide) (by decide) (by decide)
  have Qt := Q'.t
  rw [e1]
  refine ⟨Qt, fun m6 e6 => ?_⟩
  have Q2 : Mq9 m0 m6 a (va_up B 18 q) [18, 17, 16, 14, 13, 12, 11, 10, 9, 8, 7, 6, 5, 4, 3] := by rw [e6]; exact Q'
  clear Q' Qt e1 e6 hq hqz Q
  generalize va_up B 18 q = B at Q2
  clear q m1 m
  have Q := Q2
  clear Q2
  generalize m6 = m at Q ⊢
  intro q hq hqz m1 e1
  have Q' := Q.ar 19 hq (by decide) (by decide) (by decide)
  have Qt := Q'.t
  rw [e1]
  refine ⟨Qt, fun m6 e6 => ?_⟩
  have Q2 : Mq9 m0 m6 a (va_up B 19 q) [19, 18, 17, 16, 14, 13, 12, 11, 10, 9, 8, 7, 6, 5, 4, 3] := by rw [e6]; exact Q'
  clear Q' Qt e1 e6 hq hqz Q
  generalize va_up B 19 q = B at Q2
  clear q m1 m
  have Q := Q2
  clear Q2
  generalize m6 = m at Q ⊢
  intro q hq hqz m1 e1
  have Q' := Q.ar 20 hq (by decide) (by decide) (by decide)
  have Qt := Q'.t
  rw [e1]
  refine ⟨Qt, fun m6 e6 => ?_⟩
  have Q2 : Mq9 m0 m6 a (va_up B 20 q) [20, 19, 18, 17, 16, 14, 13, 12, 11, 10, 9, 8, 7, 6, 5, 4, 3] := by rw [e6]; exact Q'
  clear Q' Qt e1 e6 hq hqz Q
  generalize va_up B 20 q = B at Q2
  clear q m1 m
  have Q := Q2
  clear Q2
  generalize m6 = m at Q ⊢
  intro q hq hqz m1 e1
  have Q' := Q.ar 21 hq (by decide) (by decide) (by decide)
  have Qt := Q'.t
  rw [e1]
  refine ⟨Qt, fun m6 e6 => ?_⟩
  have Q2 : Mq9 m0 m6 a (va_up B 21 q) [21, 20, 19, 18, 17, 16, 14, 13, 12, 11, 10, 9, 8, 7, 6, 5, 4, 3] := by rw [e6]; exact Q'
  clear Q' Qt e1 e6 hq hqz Q
  generalize va_up B 21 q = B at Q2
  clear q m1 m
  have Q := Q2
  clear Q2
  generalize m6 = m at Q ⊢
  intro q hq hqz m1 e1
  have Q' := Q.ar 22 hq (by decide) (by decide) (by decide)
  have Qt := Q'.t
  rw [e1]
  refine ⟨Qt, fun m6 e6 => ?_⟩
  have Q2 : Mq9 m0 m6 a (va_up B 22 q) [22, 21, 20, 19, 18, 17, 16, 14, 13, 12, 11, 10, 9, 8, 7, 6, 5, 4, 3] := by rw [e6]; exact Q'
  clear Q' Qt e1 e6 hq hqz Q
  generalize va_up B 22 q = B at Q2
  clear q m1 m
  have Q := Q2
  clear Q2
  generalize m6 = m at Q ⊢
  intro q hq hqz m1 e1
  have Q' := Q.ar 23 hq (by decide) (by decide) (by decide)
  have Qt := Q'.t
  rw [e1]
  refine ⟨Qt, fun m6 e6 => ?_⟩
  have Q2 : Mq9 m0 m6 a (va_up B 23 q) [23, 22, 21, 20, 19, 18, 17, 16, 14, 13, 12, 11, 10, 9, 8, 7, 6, 5, 4, 3] := by rw [e6]; exact Q'
  clear Q' Qt e1 e6 hq hqz Q
  generalize va_up B 23 q = B at Q2
  clear q m1 m
  have Q := Q2
  clear Q2
  generalize m6 = m at Q ⊢
  intro q hq hqz m1 e1
  have Q' := Q.ar 29 hq (by decide) (by decide) (by decide)
  have Qt := Q'.t
  rw [e1]
  refine ⟨Qt, fun m6 e6 => ?_⟩
  have Q2 : Mq9 m0 m6 a (va_up B 29 q) [29, 23, 22, 21, 20, 19, 18, 17, 16, 14, 13, 12, 11, 10, 9, 8, 7, 6, 5, 4, 3] := by rw [e6]; exact Q'
  clear Q' Qt e1 e6 hq hqz Q
  generalize va_up B 29 q = B at Q2
  clear q m1 m
  have Q := Q2
  clear Q2
  generalize m6 = m at Q ⊢
  intro q hq hqz m1 e1
  have Q' := Q.ar 33 hq (by decide) (by decide) (by decide)
  have Qt := Q'.t
  rw [e1]
  refine ⟨Qt, fun m6 e6 => ?_⟩
  have Q2 : Mq9 m0 m6 a (va_up B 33 q) [33, 29, 23, 22, 21, 20, 19, 18, 17, 16, 14, 13, 12, 11, 10, 9, 8, 7, 6, 5, 4, 3] := by rw [e6]; exact Q'
  clear Q' Qt e1 e6 hq hqz Q
  generalize va_up B 33 q = B at Q2
  clear q m1 m
  have Q := Q2
  clear Q2
  generalize m6 = m at Q ⊢
  intro q hq hqz m1 e1
  have Q' := Q.ar 34 hq (by decide) (by decide) (by decide)
  have Qt := Q'.t
  rw [e1]
  refine ⟨Qt, fun m6 e6 => ?_⟩
  have Q2 : Mq9 m0 m6 a (va_up B 34 q) [34, 33, 29, 23, 22, 21, 20, 19, 18, 17, 16, 14, 13, 12, 11, 10, 9, 8, 7, 6, 5, 4, 3] := by rw [e6]; exact Q'
  clear Q' Qt e1 e6 hq hqz Q
  generalize va_up B 34 q = B at Q2
  clear q m1 m
  have Q := Q2
  clear Q2
  generalize m6 = m at Q ⊢
  have R := RZ.of (Q.rm (by decide)) hZ (hE m Q.1)
  clear Q
  have fin : ∀ n, stp v = n → wp_Mo_init_231 P m a (nI n) a := fun n e => by
    unfold wp_Mo_init_231
    refine ⟨R.1, fun m2 e2 => ?_⟩
    have R2 := R.sF 1 n (by decide)
    rw [t0_u, ← e2] at R2
    refine w_i236 (n := n) (fun m' h' => k m' B ?_) 40 0 m2 rfl R2
    rw [e]; exact h'
  intro x198 e198
  subst e198
  rw [lg_ge]
  refine ⟨fun q1 x200 e200 => ?_, fun q1 => ?_⟩
  · subst e200
    rw [lg_le]
    refine ⟨fun q2 x202 e202 => ?_, fun q2 => ?_⟩
    · subst e202
      rw [stp_mid q1 q2]
      exact fin _ rfl
    · exact fin 20000 (by unfold stp; rw [if_neg q1, if_pos (Decidable.not_not.mp q2)])
  · exact fin 0 (by unfold stp; rw [if_pos (Decidable.not_not.mp q1)])
theorem s0_LI {n : Nat} (hn : n ≤ 20000) : LI (s0 n) := by
  have eN : ∀ f i, fN (s0 n) f i = if f = 18 ∧ i = 1 then 1 else if f = 16 ∧ i = 1 then 1 else if f = 7 ∧ i = 1 then 1 else 0 := fun _ _ => rfl
  have eF : ∀ f, fF (s0 n) f = if f = 1 then n else 0 := fun _ => rfl
  have eD : ∀ f i, fD (s0 n) f i = if f = 8 ∧ i < 40 then -1 else 0 := fun _ _ => rfl
  refine ⟨⟨?_, ?_, fun i => ?_⟩, fun j hj i hi => rfl, fun j hj => ⟨rfl, rfl⟩⟩
  · refine ⟨?_, ?_, ?_, ?_, ?_, ?_, ?_, ⟨?_, ?_, ?_, ?_, ?_⟩, ?_, ?_, ?_, ?_, ?_, ?_, ?_, ?_, ?_, ?_, rfl, rfl, ?_, ?_⟩
    · show 0 ≤ 20; decide
    · exact hn
    · show 0 ≤ 1; decide
    · show 0 ≤ 400; decide
    · intro j; show 0 ≤ 200; decide
    · intro j; show 0 ≤ 20000; decide
    · intro j; show 0 ≤ 40; decide
    · show 0 ≤ 3; decide
    · show 1 ≤ 1; decide
    · show 1 ≤ 9; decide
    · show 0 ≤ 1; decide
    · show 0 ≤ 1; decide
    · intro j; show 0 ≤ 1; decide
    · intro j; show 0 ≤ 100; decide
    · intro j _; rfl
    · intro j; rw [eN]; (repeat' split) <;> omega
    · intro j; show 0 ≤ 9; decide
    · intro j; rw [eN]; (repeat' split) <;> omega
    · intro j; show 0 ≤ 100; decide
    · intro j; show 0 ≤ 3; decide
    · intro j; show 0 ≤ 3; decide
    · intro h i hi; exact absurd hi (Nat.not_lt_zero _)
    · intro j; show 0 ≤ 1; decide
    · intro j; rw [eD]; split
      · exact Or.inl rfl
      · exact Or.inr (by decide)
  · refine ⟨fun h h1 h2 => ?_, rfl⟩
    exfalso
    apply h2
    rw [eN, if_neg (by omega), if_neg (by omega), if_neg (by omega)]
  · show 0 ≤ 200; decide
