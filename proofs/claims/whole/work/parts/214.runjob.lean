theorem w_exit {m : Mm} {a : Nat} {B : Nat → Nat} {Z : Mm → Prop} {σ : Sg} (h : RZ Z m a B σ) (hI : Inv σ) (hJ : JI σ) {P : Mm → Prop} {v : Int32} (hc : siz σ ≤ fF σ 26 ∨ fF σ 35 ≠ 0 ∨ fF σ 36 ≠ 0 ∨ v ≠ 0) (k : wp_Mo_runJob_189 P m a v) : wp_Mo_runJob_42 P 1 m a v := by
  have hs : siz σ ≤ 200 := hI.size _
  obtain ⟨j1, j2, j3, j4, j5, j6, j7, j8, j9⟩ := hJ
  have r4 : gR m 11 4 a = B 4 := (h.2.1 4 (by decide)).1
  have t4 : tg m (B 4) = 29 := (h.2.1 4 (by decide)).2.1
  have l4 : ln m (B 4) = 20 := (h.2.1 4 (by decide)).2.2
  have n4 : ∀ i, i < 20 → aI m 29 (B 4) i = nI (fN σ 4 i) := h.2.2.2.2.1 4 (by decide)
  have f25 : gI m 11 25 a = nI (fF σ 25) := h.2.2.1 25 (by decide)
  have f26 : gI m 11 26 a = nI (fF σ 26) := h.2.2.1 26 (by decide)
  have f35 : gI m 11 35 a = nI (fF σ 35) := h.2.2.1 35 (by decide)
  have f36 : gI m 11 36 a = nI (fF σ 36) := h.2.2.1 36 (by decide)
  have e4 : aI m 29 (B 4) (fF σ 25) = nI (siz σ) := n4 _ j1

  unfold wp_Mo_runJob_42
  simp (disch := omega) only [forall_eq, tg_sI, gI_sI, gR_sI, aI_sI, aR_sI, ln_sI, tg_sR, gI_sR, gR_sR, aI_sR, aR_sR, ln_sR, tg_wI, gI_wI, gR_wI, aI_wI, aR_wI, ln_wI, tg_wR, gI_wR, gR_wR, aI_wR, aR_wR, ln_wR, tg_wC, gI_wC, gR_wC, aI_wC, aR_wC, ln_wC, tg_nO, gI_nO, gR_nO, aI_nO, aR_nO, ln_nO, tg_nA, gI_nA, gR_nA, aI_nA, aR_nA, ln_nA, Nat.reduceEqDiff, reduceCtorEq, false_and, true_and, and_true, and_false, and_self, if_true, if_false, ↓reduceIte, forall_const, true_implies, imp_self, not_true, not_false_eq_true, implies_true, not_false, eq_self, Nat.reduceLT, Nat.reduceLeDiff, h.1, r4, t4, l4, e4, f25, f26, f35, f36, c_mul2, c_mul3, c_mul6, c_mul10, c_mul40, c_mul100, c_mul200, c_add2, c_add3, c_add4, c_add5, nI_1, nI_add, nI_clamp, c_sub1, c_eq, c_le, c_lt, zz, nb0, nb1, eL_0, ltL_0, gtL_0, leL_0, geL_0, eL_1, ltL_1, gtL_1, leL_1, geL_1, eL_2, ltL_2, gtL_2, leL_2, geL_2, eL_3, ltL_3, gtL_3, leL_3, geL_3, eL_4, ltL_4, gtL_4, leL_4, geL_4, eL_5, ltL_5, gtL_5, leL_5, geL_5, eL_6, ltL_6, gtL_6, leL_6, geL_6, eL_7, ltL_7, gtL_7, leL_7, geL_7, eL_8, ltL_8, gtL_8, leL_8, geL_8, eL_9, ltL_9, gtL_9, leL_9, geL_9, eL_10, ltL_10, gtL_10, leL_10, geL_10, eL_16, ltL_16, gtL_16, leL_16, geL_16, eL_20, ltL_20, gtL_20, leL_20, geL_20, eL_32, ltL_32, gtL_32, leL_32, geL_32, eL_40, ltL_40, gtL_40, leL_40, geL_40, eL_100, ltL_100, gtL_100, leL_100, geL_100, eL_200, ltL_200, gtL_200, leL_200, geL_200, eL_255, ltL_255, gtL_255, leL_255, geL_255, eL_256, ltL_256, gtL_256, leL_256, geL_256, eL_400, ltL_400, gtL_400, leL_400, geL_400, eL_9999, ltL_9999, gtL_9999, leL_9999, geL_9999, eL_20000, ltL_20000, gtL_20000, leL_20000, geL_20000, iL_0, tL_0, iL_1, tL_1, iL_2, tL_2, iL_3, tL_3, iL_4, tL_4, iL_5, tL_5, iL_6, tL_6, iL_7, tL_7, c_inT]
  refine ⟨fun _ => k, fun z => ⟨fun z1 => ⟨fun z2 => ⟨fun z3 => ?_, fun _ => k⟩, fun _ => k⟩, fun _ => k⟩⟩
  rcases hc with q | q | q | q
  · exact absurd q z
  · exact absurd z1 q
  · exact absurd z2 q
  · exact absurd z3 q
theorem w_tell {m : Mm} {a : Nat} {B : Nat → Nat} {Z : Mm → Prop} {σ : Sg} (h : RZ Z m a B σ) (hI : Inv σ) (hJ : JI σ) (he : fF σ 35 ≠ 0 → fF σ 26 < siz σ) {P : Mm → Prop} {v : Int32} (k : ∀ m', RZ Z m' a B (tell (if fF σ 35 ≠ 0 then 2 else if v = 0 then 1 else 3) σ) → P m') : wp_Mo_runJob_189 P m a v := by
  have hs : siz σ ≤ 200 := hI.size _
  obtain ⟨j1, j2, j3, j4, j5, j6, j7, j8, j9⟩ := hJ
  have r4 : gR m 11 4 a = B 4 := (h.2.1 4 (by decide)).1
  have t4 : tg m (B 4) = 29 := (h.2.1 4 (by decide)).2.1
  have l4 : ln m (B 4) = 20 := (h.2.1 4 (by decide)).2.2
  have n4 : ∀ i, i < 20 → aI m 29 (B 4) i = nI (fN σ 4 i) := h.2.2.2.2.1 4 (by decide)
  have f25 : gI m 11 25 a = nI (fF σ 25) := h.2.2.1 25 (by decide)
  have f26 : gI m 11 26 a = nI (fF σ 26) := h.2.2.1 26 (by decide)
  have f35 : gI m 11 35 a = nI (fF σ 35) := h.2.2.1 35 (by decide)
  have f36 : gI m 11 36 a = nI (fF σ 36) := h.2.2.1 36 (by decide)
  have e4 : aI m 29 (B 4) (fF σ 25) = nI (siz σ) := n4 _ j1

  have f31 : gI m 11 31 a = nI (fF σ 31) := h.2.2.1 31 (by decide)
  have f27 : gI m 11 27 a = nI (fF σ 27) := h.2.2.1 27 (by decide)
  have r5 : gR m 11 5 a = B 5 := (h.2.1 5 (by decide)).1
  have t5 : tg m (B 5) = 30 := (h.2.1 5 (by decide)).2.1
  have l5 : ln m (B 5) = 120 := (h.2.1 5 (by decide)).2.2
  unfold wp_Mo_runJob_189 wp_Mo_runJob_222 wp_Mo_runJob_257 wp_Mo_runJob_316
  unfold tell at k
  have fin : ∀ (o x y : Nat), o = (if fF σ 35 ≠ 0 then 2 else if v = 0 then 1 else 3) → x = (if 0 < fF σ 35 then fF σ 26 else 0) → y = (if 0 < fF σ 35 then siz σ - fF σ 26 - 1 else 0) → P (wI (wI (wI (wI (wI (wI m 30 (B 5) (6 * fF σ 25) (nI o)) 30 (B 5) (6 * fF σ 25 + 1) (nI (fF σ 35))) 30 (B 5) (6 * fF σ 25 + 2) (nI x)) 30 (B 5) (6 * fF σ 25 + 3) (nI (fF σ 31))) 30 (B 5) (6 * fF σ 25 + 4) (nI (fF σ 27))) 30 (B 5) (6 * fF σ 25 + 5) (nI y)) := by
    intro o x y e1 e2 e3
    rw [← e1, ← e2, ← e3] at k
    exact k _ ((((((h.wN 5 _ o (by decide)).wN 5 _ _ (by decide)).wN 5 _ x (by decide)).wN 5 _ _ (by decide)).wN 5 _ _ (by decide)).wN 5 _ y (by decide))
  simp (disch := omega) only [forall_eq, tg_sI, gI_sI, gR_sI, aI_sI, aR_sI, ln_sI, tg_sR, gI_sR, gR_sR, aI_sR, aR_sR, ln_sR, tg_wI, gI_wI, gR_wI, aI_wI, aR_wI, ln_wI, tg_wR, gI_wR, gR_wR, aI_wR, aR_wR, ln_wR, tg_wC, gI_wC, gR_wC, aI_wC, aR_wC, ln_wC, tg_nO, gI_nO, gR_nO, aI_nO, aR_nO, ln_nO, tg_nA, gI_nA, gR_nA, aI_nA, aR_nA, ln_nA, Nat.reduceEqDiff, reduceCtorEq, false_and, true_and, and_true, and_false, and_self, if_true, if_false, ↓reduceIte, forall_const, true_implies, imp_self, not_true, not_false_eq_true, implies_true, not_false, eq_self, Nat.reduceLT, Nat.reduceLeDiff, h.1, r4, t4, l4, e4, f25, f26, f27, f31, f35, f36, r5, t5, l5, c_mul2, c_mul3, c_mul6, c_mul10, c_mul40, c_mul100, c_mul200, c_add2, c_add3, c_add4, c_add5, nI_1, nI_add, nI_clamp, c_sub1, c_eq, c_le, c_lt, zz, nb0, nb1, eL_0, ltL_0, gtL_0, leL_0, geL_0, eL_1, ltL_1, gtL_1, leL_1, geL_1, eL_2, ltL_2, gtL_2, leL_2, geL_2, eL_3, ltL_3, gtL_3, leL_3, geL_3, eL_4, ltL_4, gtL_4, leL_4, geL_4, eL_5, ltL_5, gtL_5, leL_5, geL_5, eL_6, ltL_6, gtL_6, leL_6, geL_6, eL_7, ltL_7, gtL_7, leL_7, geL_7, eL_8, ltL_8, gtL_8, leL_8, geL_8, eL_9, ltL_9, gtL_9, leL_9, geL_9, eL_10, ltL_10, gtL_10, leL_10, geL_10, eL_16, ltL_16, gtL_16, leL_16, geL_16, eL_20, ltL_20, gtL_20, leL_20, geL_20, eL_32, ltL_32, gtL_32, leL_32, geL_32, eL_40, ltL_40, gtL_40, leL_40, geL_40, eL_100, ltL_100, gtL_100, leL_100, geL_100, eL_200, ltL_200, gtL_200, leL_200, geL_200, eL_255, ltL_255, gtL_255, leL_255, geL_255, eL_256, ltL_256, gtL_256, leL_256, geL_256, eL_400, ltL_400, gtL_400, leL_400, geL_400, eL_9999, ltL_9999, gtL_9999, leL_9999, geL_9999, eL_20000, ltL_20000, gtL_20000, leL_20000, geL_20000, iL_0, tL_0, iL_1, tL_1, iL_2, tL_2, iL_3, tL_3, iL_4, tL_4, iL_5, tL_5, iL_6, tL_6, iL_7, tL_7, c_inT]
  refine ⟨fun z => ⟨fun z1 => ⟨fun z2 => ⟨fun z3 => ?_, fun z3 => absurd z z3⟩, fun z2 => absurd z z2⟩, fun z1 => ⟨fun z2 => ⟨fun z3 => ?_, fun z3 => absurd z z3⟩, fun z2 => absurd z z2⟩⟩, fun z => ⟨fun z2 => absurd z2 z, fun z2 => ⟨fun z3 => absurd z3 z, fun z3 => ?_⟩⟩⟩
  · exact fin 1 0 0 (by rw [if_neg (by omega), if_pos z1]) (by rw [if_neg (by omega)]) (by rw [if_neg (by omega)])
  · exact fin 3 0 0 (by rw [if_neg (by omega), if_neg z1]) (by rw [if_neg (by omega)]) (by rw [if_neg (by omega)])
  · have hlt := he (by omega)
    rw [pk_sub (by omega), c_sub1 (by omega)]
    exact fin 2 _ _ (by rw [if_pos (by omega)]) (by rw [if_pos (by omega)]) (by rw [if_pos (by omega)])
theorem tell_at {o : Nat} {σ : Sg} (x : Nat) (he : fF σ 35 = 0) : tell o (uF σ 26 x) = uF (tell o σ) 26 x := by
  unfold tell
  have e1 : fF (uF σ 26 x) 35 = 0 := he
  rw [e1, he]
  rfl
theorem w_tellx {m : Mm} {a : Nat} {B : Nat → Nat} {Z : Mm → Prop} {σ : Sg} {x : Nat} (h : RZ Z m a B (uF σ 26 x)) (hI : Inv σ) (hJ : JI σ) (hx : x ≤ 201) (h0 : fF σ 35 = 0) {P : Mm → Prop} {v : Int32} (k : ∀ m', RZ Z m' a B (uF (tell (if v = 0 then 1 else 3) σ) 26 x) → P m') : wp_Mo_runJob_189 P m a v := by
  refine w_tell h hI ⟨hJ.1, hx, hJ.2.2⟩ (fun q => absurd h0 q) (fun m' h' => k m' ?_)
  rw [if_neg (fun q => q h0), tell_at x h0] at h'
  exact h'
/-- blanks and remarks are passed over -/
theorem w_skip {a : Nat} {B : Nat → Nat} {Z : Mm → Prop} {σ : Sg} (hI : Inv σ) (hJ : JI σ) (h0 : fF σ 35 = 0) (hq : fF σ 36 = 0) {P : Mm → Prop} (kE : siz σ ≤ nd (sgn σ) (siz σ) (fF σ 26) → ∀ m x, x ≤ 201 → RZ Z m a B (uF σ 26 x) → wp_Mo_runJob_189 P m a 0) (kD : nd (sgn σ) (siz σ) (fF σ 26) < siz σ → ∃ f, ∀ m, RZ Z m a B (uF σ 26 (nd (sgn σ) (siz σ) (fF σ 26))) → wp_Mo_runJob_42 P f m a 0) : ∀ c p, siz σ + 1 - p ≤ c → p ≤ siz σ + 1 → (p ≤ siz σ → rmk (sgn σ) p = false) → nd (sgn σ) (siz σ) p = nd (sgn σ) (siz σ) (fF σ 26) → ∃ f, ∀ m, RZ Z m a B (uF σ 26 p) → wp_Mo_runJob_42 P f m a 0 := by
  have hs : siz σ ≤ 200 := hI.size _
  intro c
  induction c with
  | zero =>
    intro p hc hp hr hn
    rw [nd_ge (by omega)] at hn
    have hJ' : JI (uF σ 26 p) := ⟨hJ.1, by show p ≤ 201; omega, hJ.2.2⟩
    exact ⟨1, fun m h => w_exit h hI hJ' (Or.inl (by show siz σ ≤ p; omega)) (kE (by omega) m p (by omega) h)⟩
  | succ c ih =>
    intro p hc hp hr hn
    have hJ' : JI (uF σ 26 p) := ⟨hJ.1, by show p ≤ 201; omega, hJ.2.2⟩
    by_cases hlt : siz σ ≤ p
    · rw [nd_ge hlt] at hn
      exact ⟨1, fun m h => w_exit h hI hJ' (Or.inl hlt) (kE (by omega) m p (by omega) h)⟩
    · have hrp := hr (by omega)
      by_cases hd : dn (sgn σ) p = true
      · rw [nd_dn (by omega) hd] at hn
        rw [hn]
        exact kD (by omega)
      · obtain ⟨j1, j2, j3, j4, j5, j6, j7, j8, j9⟩ := hJ'
        have j1' : fF σ 25 < 20 := j1
        by_cases e37 : sgn σ p = 37
        · have hb := brk_le (sgn σ) (siz σ) p (by omega)
          obtain ⟨f, hw⟩ := ih (brk (sgn σ) (siz σ) p) (by omega) (by omega) (fun q => (brk_cl (by omega) e37 q).2) (by rw [← brk_nd (by omega) e37]; exact hn)
          refine ⟨f + 1, fun m h => ?_⟩
          have hw := hw (sI m 11 26 a (nI (brk (sgn σ) (siz σ) p))) (by have := h.sF 26 (brk (sgn σ) (siz σ) p) (by decide); rw [uF_uF] at this; exact this)
          have r4 : gR m 11 4 a = B 4 := (h.2.1 4 (by decide)).1
          have t4 : tg m (B 4) = 29 := (h.2.1 4 (by decide)).2.1
          have l4 : ln m (B 4) = 20 := (h.2.1 4 (by decide)).2.2
          have n4 : ∀ i, i < 20 → aI m 29 (B 4) i = nI (fN (uF σ 26 p) 4 i) := h.2.2.2.2.1 4 (by decide)
          have f25 : gI m 11 25 a = nI (fF (uF σ 26 p) 25) := h.2.2.1 25 (by decide)
          have f26 : gI m 11 26 a = nI (fF (uF σ 26 p) 26) := h.2.2.1 26 (by decide)
          have f35 : gI m 11 35 a = nI (fF (uF σ 26 p) 35) := h.2.2.1 35 (by decide)
          have f36 : gI m 11 36 a = nI (fF (uF σ 26 p) 36) := h.2.2.1 36 (by decide)
          have e4 : aI m 29 (B 4) (fF σ 25) = nI (siz σ) := n4 _ j1
          have f26' : gI m 11 26 a = nI p := f26
          have f25' : gI m 11 25 a = nI (fF σ 25) := f25
          have f35' : gI m 11 35 a = nI 0 := by rw [f35]; show nI (fF σ 35) = _; rw [h0]
          have f36' : gI m 11 36 a = nI 0 := by rw [f36]; show nI (fF σ 36) = _; rw [hq]
          unfold wp_Mo_runJob_42 wp_Mo_runJob_186
          simp (disch := omega) only [forall_eq, tg_sI, gI_sI, gR_sI, aI_sI, aR_sI, ln_sI, tg_sR, gI_sR, gR_sR, aI_sR, aR_sR, ln_sR, tg_wI, gI_wI, gR_wI, aI_wI, aR_wI, ln_wI, tg_wR, gI_wR, gR_wR, aI_wR, aR_wR, ln_wR, tg_wC, gI_wC, gR_wC, aI_wC, aR_wC, ln_wC, tg_nO, gI_nO, gR_nO, aI_nO, aR_nO, ln_nO, tg_nA, gI_nA, gR_nA, aI_nA, aR_nA, ln_nA, Nat.reduceEqDiff, reduceCtorEq, false_and, true_and, and_true, and_false, and_self, if_true, if_false, ↓reduceIte, forall_const, true_implies, imp_self, not_true, not_false_eq_true, implies_true, not_false, eq_self, Nat.reduceLT, Nat.reduceLeDiff, h.1, r4, t4, l4, e4, f25', f26', f35', f36', c_mul2, c_mul3, c_mul6, c_mul10, c_mul40, c_mul100, c_mul200, c_add2, c_add3, c_add4, c_add5, nI_1, nI_add, nI_clamp, c_sub1, c_eq, c_le, c_lt, zz, nb0, nb1, eL_0, ltL_0, gtL_0, leL_0, geL_0, eL_1, ltL_1, gtL_1, leL_1, geL_1, eL_2, ltL_2, gtL_2, leL_2, geL_2, eL_3, ltL_3, gtL_3, leL_3, geL_3, eL_4, ltL_4, gtL_4, leL_4, geL_4, eL_5, ltL_5, gtL_5, leL_5, geL_5, eL_6, ltL_6, gtL_6, leL_6, geL_6, eL_7, ltL_7, gtL_7, leL_7, geL_7, eL_8, ltL_8, gtL_8, leL_8, geL_8, eL_9, ltL_9, gtL_9, leL_9, geL_9, eL_10, ltL_10, gtL_10, leL_10, geL_10, eL_16, ltL_16, gtL_16, leL_16, geL_16, eL_20, ltL_20, gtL_20, leL_20, geL_20, eL_32, ltL_32, gtL_32, leL_32, geL_32, eL_40, ltL_40, gtL_40, leL_40, geL_40, eL_100, ltL_100, gtL_100, leL_100, geL_100, eL_200, ltL_200, gtL_200, leL_200, geL_200, eL_255, ltL_255, gtL_255, leL_255, geL_255, eL_256, ltL_256, gtL_256, leL_256, geL_256, eL_400, ltL_400, gtL_400, leL_400, geL_400, eL_9999, ltL_9999, gtL_9999, leL_9999, geL_9999, eL_20000, ltL_20000, gtL_20000, leL_20000, geL_20000, iL_0, tL_0, iL_1, tL_1, iL_2, tL_2, iL_3, tL_3, iL_4, tL_4, iL_5, tL_5, iL_6, tL_6, iL_7, tL_7, c_inT]
          refine ⟨fun z => absurd z hlt, fun _ => ⟨⟨⟨w_sign (σ := uF σ 26 p) (p := p) h j1 (by omega) ⟨fun _ => ⟨h.1, h.1, ?_⟩, fun z => absurd e37 z⟩, fun q => q.elim⟩, fun q => q.elim⟩, fun q => q.elim⟩⟩
          rw [f26']
          exact w_behind (σ := uF σ 26 p) h hI j1 (by omega) ⟨h.1, hw⟩
        · have hbl : sgn σ p = 32 ∨ sgn σ p = 10 := by
            by_cases a1 : sgn σ p = 32
            · exact Or.inl a1
            · by_cases a2 : sgn σ p = 10
              · exact Or.inr a2
              · exact absurd (dn_iff.mpr ⟨hrp, e37, a1, a2⟩) hd
          obtain ⟨f, hw⟩ := ih (p + 1) (by omega) (by omega) (fun _ => rmk_blank hrp e37) (by rw [← nd_no hd]; exact hn)
          refine ⟨f + 1, fun m h => ?_⟩
          have hw := hw (sI m 11 26 a (nI (p + 1))) (by have := h.sF 26 (p + 1) (by decide); rw [uF_uF] at this; exact this)
          have r4 : gR m 11 4 a = B 4 := (h.2.1 4 (by decide)).1
          have t4 : tg m (B 4) = 29 := (h.2.1 4 (by decide)).2.1
          have l4 : ln m (B 4) = 20 := (h.2.1 4 (by decide)).2.2
          have n4 : ∀ i, i < 20 → aI m 29 (B 4) i = nI (fN (uF σ 26 p) 4 i) := h.2.2.2.2.1 4 (by decide)
          have f25 : gI m 11 25 a = nI (fF (uF σ 26 p) 25) := h.2.2.1 25 (by decide)
          have f26 : gI m 11 26 a = nI (fF (uF σ 26 p) 26) := h.2.2.1 26 (by decide)
          have f35 : gI m 11 35 a = nI (fF (uF σ 26 p) 35) := h.2.2.1 35 (by decide)
          have f36 : gI m 11 36 a = nI (fF (uF σ 26 p) 36) := h.2.2.1 36 (by decide)
          have e4 : aI m 29 (B 4) (fF σ 25) = nI (siz σ) := n4 _ j1
          have f26' : gI m 11 26 a = nI p := f26
          have f25' : gI m 11 25 a = nI (fF σ 25) := f25
          have f35' : gI m 11 35 a = nI 0 := by rw [f35]; show nI (fF σ 35) = _; rw [h0]
          have f36' : gI m 11 36 a = nI 0 := by rw [f36]; show nI (fF σ 36) = _; rw [hq]
          have w118 : wp_Mo_runJob_118 (wp_Mo_runJob_42 P f) P m a 0 := by
            unfold wp_Mo_runJob_118 wp_Mo_runJob_186
            simp (disch := omega) only [forall_eq, h.1, f26', nI_1, true_and]
            exact hw
          unfold wp_Mo_runJob_42
          simp (disch := omega) only [forall_eq, tg_sI, gI_sI, gR_sI, aI_sI, aR_sI, ln_sI, tg_sR, gI_sR, gR_sR, aI_sR, aR_sR, ln_sR, tg_wI, gI_wI, gR_wI, aI_wI, aR_wI, ln_wI, tg_wR, gI_wR, gR_wR, aI_wR, aR_wR, ln_wR, tg_wC, gI_wC, gR_wC, aI_wC, aR_wC, ln_wC, tg_nO, gI_nO, gR_nO, aI_nO, aR_nO, ln_nO, tg_nA, gI_nA, gR_nA, aI_nA, aR_nA, ln_nA, Nat.reduceEqDiff, reduceCtorEq, false_and, true_and, and_true, and_false, and_self, if_true, if_false, ↓reduceIte, forall_const, true_implies, imp_self, not_true, not_false_eq_true, implies_true, not_false, eq_self, Nat.reduceLT, Nat.reduceLeDiff, h.1, r4, t4, l4, e4, f25', f26', f35', f36', c_mul2, c_mul3, c_mul6, c_mul10, c_mul40, c_mul100, c_mul200, c_add2, c_add3, c_add4, c_add5, nI_1, nI_add, nI_clamp, c_sub1, c_eq, c_le, c_lt, zz, nb0, nb1, eL_0, ltL_0, gtL_0, leL_0, geL_0, eL_1, ltL_1, gtL_1, leL_1, geL_1, eL_2, ltL_2, gtL_2, leL_2, geL_2, eL_3, ltL_3, gtL_3, leL_3, geL_3, eL_4, ltL_4, gtL_4, leL_4, geL_4, eL_5, ltL_5, gtL_5, leL_5, geL_5, eL_6, ltL_6, gtL_6, leL_6, geL_6, eL_7, ltL_7, gtL_7, leL_7, geL_7, eL_8, ltL_8, gtL_8, leL_8, geL_8, eL_9, ltL_9, gtL_9, leL_9, geL_9, eL_10, ltL_10, gtL_10, leL_10, geL_10, eL_16, ltL_16, gtL_16, leL_16, geL_16, eL_20, ltL_20, gtL_20, leL_20, geL_20, eL_32, ltL_32, gtL_32, leL_32, geL_32, eL_40, ltL_40, gtL_40, leL_40, geL_40, eL_100, ltL_100, gtL_100, leL_100, geL_100, eL_200, ltL_200, gtL_200, leL_200, geL_200, eL_255, ltL_255, gtL_255, leL_255, geL_255, eL_256, ltL_256, gtL_256, leL_256, geL_256, eL_400, ltL_400, gtL_400, leL_400, geL_400, eL_9999, ltL_9999, gtL_9999, leL_9999, geL_9999, eL_20000, ltL_20000, gtL_20000, leL_20000, geL_20000, iL_0, tL_0, iL_1, tL_1, iL_2, tL_2, iL_3, tL_3, iL_4, tL_4, iL_5, tL_5, iL_6, tL_6, iL_7, tL_7, c_inT]
          exact ⟨fun z => absurd z hlt, fun _ => ⟨⟨⟨w_sign (σ := uF σ 26 p) (p := p) h j1 (by omega) ⟨fun z => absurd z e37, fun _ => ⟨fun _ => w118, fun z1 => ⟨fun _ => w118, fun z2 => absurd (hbl.resolve_left z1) z2⟩⟩⟩, fun q => q.elim⟩, fun q => q.elim⟩, fun q => q.elim⟩⟩
/-- a sign that is done -/
theorem w_head {m : Mm} {a : Nat} {B : Nat → Nat} {Z : Mm → Prop} {σ : Sg} {p f : Nat} (h : RZ Z m a B (uF σ 26 p)) (hI : Inv σ) (hJ : JI σ) (h0 : fF σ 35 = 0) (hq : fF σ 36 = 0) (hp : p < siz σ) (hd : dn (sgn σ) p = true) {P : Mm → Prop} (k1 : fF σ 27 = fF σ 1 → wp_Mo_runJob_42 P f m a 1) (k2 : fF σ 27 ≠ fF σ 1 → wp_Mo_act (sI m 11 27 a (nI (fF σ 27 + 1))) a (sgn σ p) (fun m1 => tg m1 a = 11 ∧ (gI m1 11 35 a = 0 → tg m1 a = 11 ∧ tg m1 a = 11 ∧ wp_Mo_runJob_42 P f (sI m1 11 26 a (gI m1 11 26 a + 1)) a 0) ∧ (¬ gI m1 11 35 a = 0 → tg m1 a = 11 ∧ tg m1 a = 11 ∧ wp_Mo_runJob_42 P f (sI m1 11 26 a (gI m1 11 26 a)) a 0))) : wp_Mo_runJob_42 P (f + 1) m a 0 := by
  have hs : siz σ ≤ 200 := hI.size _
  have hmo := hI.most
  have j1 : fF σ 25 < 20 := hJ.1
  have jst := hJ.2.2.1
  have r4 : gR m 11 4 a = B 4 := (h.2.1 4 (by decide)).1
  have t4 : tg m (B 4) = 29 := (h.2.1 4 (by decide)).2.1
  have l4 : ln m (B 4) = 20 := (h.2.1 4 (by decide)).2.2
  have n4 : ∀ i, i < 20 → aI m 29 (B 4) i = nI (fN (uF σ 26 p) 4 i) := h.2.2.2.2.1 4 (by decide)
  have f25 : gI m 11 25 a = nI (fF (uF σ 26 p) 25) := h.2.2.1 25 (by decide)
  have f26 : gI m 11 26 a = nI (fF (uF σ 26 p) 26) := h.2.2.1 26 (by decide)
  have f35 : gI m 11 35 a = nI (fF (uF σ 26 p) 35) := h.2.2.1 35 (by decide)
  have f36 : gI m 11 36 a = nI (fF (uF σ 26 p) 36) := h.2.2.1 36 (by decide)
  have f1 : gI m 11 1 a = nI (fF (uF σ 26 p) 1) := h.2.2.1 1 (by decide)
  have f27 : gI m 11 27 a = nI (fF (uF σ 26 p) 27) := h.2.2.1 27 (by decide)
  have e4 : aI m 29 (B 4) (fF σ 25) = nI (siz σ) := n4 _ j1
  have f26' : gI m 11 26 a = nI p := f26
  have f25' : gI m 11 25 a = nI (fF σ 25) := f25
  have f27' : gI m 11 27 a = nI (fF σ 27) := f27
  have f1' : gI m 11 1 a = nI (fF σ 1) := f1
  have f35' : gI m 11 35 a = nI 0 := by rw [f35]; show nI (fF σ 35) = _; rw [h0]
  have f36' : gI m 11 36 a = nI 0 := by rw [f36]; show nI (fF σ 36) = _; rw [hq]
  obtain ⟨d1, d2, d3, d4⟩ := dn_iff.mp hd
  unfold wp_Mo_runJob_42 wp_Mo_runJob_186 wp_Mo_runJob_183 wp_Mo_runJob_186
  simp (disch := omega) only [forall_eq, tg_sI, gI_sI, gR_sI, aI_sI, aR_sI, ln_sI, tg_sR, gI_sR, gR_sR, aI_sR, aR_sR, ln_sR, tg_wI, gI_wI, gR_wI, aI_wI, aR_wI, ln_wI, tg_wR, gI_wR, gR_wR, aI_wR, aR_wR, ln_wR, tg_wC, gI_wC, gR_wC, aI_wC, aR_wC, ln_wC, tg_nO, gI_nO, gR_nO, aI_nO, aR_nO, ln_nO, tg_nA, gI_nA, gR_nA, aI_nA, aR_nA, ln_nA, Nat.reduceEqDiff, reduceCtorEq, false_and, true_and, and_true, and_false, and_self, if_true, if_false, ↓reduceIte, forall_const, true_implies, imp_self, not_true, not_false_eq_true, implies_true, not_false, eq_self, Nat.reduceLT, Nat.reduceLeDiff, h.1, r4, t4, l4, e4, f25', f26', f35', f36', c_mul2, c_mul3, c_mul6, c_mul10, c_mul40, c_mul100, c_mul200, c_add2, c_add3, c_add4, c_add5, nI_1, nI_add, nI_clamp, c_sub1, c_eq, c_le, c_lt, zz, nb0, nb1, eL_0, ltL_0, gtL_0, leL_0, geL_0, eL_1, ltL_1, gtL_1, leL_1, geL_1, eL_2, ltL_2, gtL_2, leL_2, geL_2, eL_3, ltL_3, gtL_3, leL_3, geL_3, eL_4, ltL_4, gtL_4, leL_4, geL_4, eL_5, ltL_5, gtL_5, leL_5, geL_5, eL_6, ltL_6, gtL_6, leL_6, geL_6, eL_7, ltL_7, gtL_7, leL_7, geL_7, eL_8, ltL_8, gtL_8, leL_8, geL_8, eL_9, ltL_9, gtL_9, leL_9, geL_9, eL_10, ltL_10, gtL_10, leL_10, geL_10, eL_16, ltL_16, gtL_16, leL_16, geL_16, eL_20, ltL_20, gtL_20, leL_20, geL_20, eL_32, ltL_32, gtL_32, leL_32, geL_32, eL_40, ltL_40, gtL_40, leL_40, geL_40, eL_100, ltL_100, gtL_100, leL_100, geL_100, eL_200, ltL_200, gtL_200, leL_200, geL_200, eL_255, ltL_255, gtL_255, leL_255, geL_255, eL_256, ltL_256, gtL_256, leL_256, geL_256, eL_400, ltL_400, gtL_400, leL_400, geL_400, eL_9999, ltL_9999, gtL_9999, leL_9999, geL_9999, eL_20000, ltL_20000, gtL_20000, leL_20000, geL_20000, iL_0, tL_0, iL_1, tL_1, iL_2, tL_2, iL_3, tL_3, iL_4, tL_4, iL_5, tL_5, iL_6, tL_6, iL_7, tL_7, c_inT]
  refine ⟨fun z => absurd z (by omega), fun _ => ⟨⟨⟨w_sign (σ := uF σ 26 p) (p := p) h j1 (by omega) ⟨fun z => absurd z d2, fun _ => ⟨fun z => absurd z d3, fun _ => ⟨fun z => absurd z d4, fun _ => ?_⟩⟩⟩, fun q => q.elim⟩, fun q => q.elim⟩, fun q => q.elim⟩⟩
  rw [f27', f1', c_eq (by omega) (by omega), nI_1]
  refine ⟨h.1, h.1, k1, fun z => ⟨h.1, h.1, h.1, ?_⟩⟩
  exact k2 z

