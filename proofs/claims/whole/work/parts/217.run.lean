theorem w_c92 {a : Nat} {B : Nat → Nat} {Z : Mm → Prop} {P : Int32 → Mm → Prop} {K : Mm → Nat → Int32 → Int32 → Prop} {v1 : Int32} {j : Nat} : ∀ (c : Nat) (m : Mm) (σ : Sg) (i : Nat), c + i = 8 → RZo Z m a B σ → (∀ m', RZo Z m' a B (uF (cp3 c i σ) 25 j) → wp_Mo_runJob m' a (fun m4 => ∀ x, x = v1 + 1 → ∃ n, wp_Mo_run_137 K P n m4 a x (nI j) 0)) → ∃ n, wp_Mo_run_92 K P n m a v1 (nI j) (nI i) := by
  intro c
  induction c with
  | zero =>
    intro m σ i hc h k
    refine ⟨1, ?_⟩
    unfold wp_Mo_run_92
    have : i = 8 := by omega
    subst this
    obtain ⟨x, hx⟩ := id h
    refine ⟨fun _ => ⟨hx.1, fun m2 e2 => ?_⟩, fun z => absurd (by decide) z⟩
    subst e2
    exact ⟨hx.1, k _ (h.sF 25 j (by decide) (by decide))⟩
  | succ c ih =>
    intro m σ i hc h k
    obtain ⟨x, hx⟩ := id h
    obtain ⟨n, hw⟩ := ih _ _ (i + 1) (by omega) ((h.wN 23 i 0 (by decide)).wN 22 i (fN σ 20 i) (by decide)) k
    refine ⟨n + 1, ?_⟩
    unfold wp_Mo_run_92
    have r20 : gR m 11 20 a = B 20 := (hx.2.1 20 (by decide)).1
    have t20 : tg m (B 20) = 44 := (hx.2.1 20 (by decide)).2.1
    have l20 : ln m (B 20) = 8 := (hx.2.1 20 (by decide)).2.2
    have n20 : ∀ i, i < 8 → aI m 44 (B 20) i = nI (fN (uF σ 26 x) 20 i) := hx.2.2.2.2.1 20 (by decide)
    have r22 : gR m 11 22 a = B 22 := (hx.2.1 22 (by decide)).1
    have t22 : tg m (B 22) = 46 := (hx.2.1 22 (by decide)).2.1
    have l22 : ln m (B 22) = 8 := (hx.2.1 22 (by decide)).2.2
    have n22 : ∀ i, i < 8 → aI m 46 (B 22) i = nI (fN (uF σ 26 x) 22 i) := hx.2.2.2.2.1 22 (by decide)
    have r23 : gR m 11 23 a = B 23 := (hx.2.1 23 (by decide)).1
    have t23 : tg m (B 23) = 47 := (hx.2.1 23 (by decide)).2.1
    have l23 : ln m (B 23) = 8 := (hx.2.1 23 (by decide)).2.2
    have n23 : ∀ i, i < 8 → aI m 47 (B 23) i = nI (fN (uF σ 26 x) 23 i) := hx.2.2.2.2.1 23 (by decide)
    simp (disch := omega) only [forall_eq, tg_sI, gI_sI, gR_sI, aI_sI, aR_sI, ln_sI, tg_sR, gI_sR, gR_sR, aI_sR, aR_sR, ln_sR, tg_wI, gI_wI, gR_wI, aI_wI, aR_wI, ln_wI, tg_wR, gI_wR, gR_wR, aI_wR, aR_wR, ln_wR, tg_wC, gI_wC, gR_wC, aI_wC, aR_wC, ln_wC, tg_nO, gI_nO, gR_nO, aI_nO, aR_nO, ln_nO, tg_nA, gI_nA, gR_nA, aI_nA, aR_nA, ln_nA, Nat.reduceEqDiff, reduceCtorEq, false_and, true_and, and_true, and_false, and_self, if_true, if_false, ↓reduceIte, forall_const, true_implies, imp_self, not_true, not_false_eq_true, implies_true, not_false, eq_self, Nat.reduceLT, Nat.reduceLeDiff, hx.1, r20, t20, l20, n20, r22, t22, l22, n22, r23, t23, l23, n23, c_mul2, c_mul3, c_mul6, c_mul10, c_mul40, c_mul100, c_mul200, c_add2, c_add3, c_add4, c_add5, nI_1, nI_add, nI_clamp, c_sub1, c_eq, c_le, c_lt, zz, nb0, nb1, eL_0, ltL_0, gtL_0, leL_0, geL_0, eL_1, ltL_1, gtL_1, leL_1, geL_1, eL_2, ltL_2, gtL_2, leL_2, geL_2, eL_3, ltL_3, gtL_3, leL_3, geL_3, eL_4, ltL_4, gtL_4, leL_4, geL_4, eL_5, ltL_5, gtL_5, leL_5, geL_5, eL_6, ltL_6, gtL_6, leL_6, geL_6, eL_7, ltL_7, gtL_7, leL_7, geL_7, eL_8, ltL_8, gtL_8, leL_8, geL_8, eL_9, ltL_9, gtL_9, leL_9, geL_9, eL_10, ltL_10, gtL_10, leL_10, geL_10, eL_16, ltL_16, gtL_16, leL_16, geL_16, eL_20, ltL_20, gtL_20, leL_20, geL_20, eL_32, ltL_32, gtL_32, leL_32, geL_32, eL_40, ltL_40, gtL_40, leL_40, geL_40, eL_100, ltL_100, gtL_100, leL_100, geL_100, eL_200, ltL_200, gtL_200, leL_200, geL_200, eL_255, ltL_255, gtL_255, leL_255, geL_255, eL_256, ltL_256, gtL_256, leL_256, geL_256, eL_400, ltL_400, gtL_400, leL_400, geL_400, eL_9999, ltL_9999, gtL_9999, leL_9999, geL_9999, eL_20000, ltL_20000, gtL_20000, leL_20000, geL_20000, iL_0, tL_0, iL_1, tL_1, iL_2, tL_2, iL_3, tL_3, iL_4, tL_4, iL_5, tL_5, iL_6, tL_6, iL_7, tL_7, c_inT]
    exact ⟨fun z => absurd z (by omega), fun _ => hw⟩
theorem w_c188 {a : Nat} {B : Nat → Nat} {Z : Mm → Prop} {P : Int32 → Mm → Prop} {K : Mm → Nat → Int32 → Int32 → Prop} {v1 v2 : Int32} : ∀ (c : Nat) (m : Mm) (σ : Sg) (i : Nat), c + i = 8 → (∀ j, fN σ 16 j ≤ 1) → (∀ j, fN σ 23 j ≤ 1) → RZo Z m a B σ → (∀ m', RZo Z m' a B (cp6 c i σ) → wp_Mo_run_254 K P m' a v1 v2) → ∃ n, wp_Mo_run_188 K P n m a v1 v2 (nI i) := by
  intro c
  induction c with
  | zero =>
    intro m σ i hc h16 h23 h k
    refine ⟨1, ?_⟩
    unfold wp_Mo_run_188
    have : i = 8 := by omega
    subst this
    exact ⟨fun _ => k m h, fun z => absurd (by decide) z⟩
  | succ c ih =>
    intro m σ i hc h16 h23 h k
    obtain ⟨x, hx⟩ := id h
    have b16 := h16 i
    have b23 := h23 i
    obtain ⟨n, hw⟩ := ih _ (uN (uN σ 16 i (if fN σ 16 i = 0 then 0 else if fN σ 23 i = 0 then 1 else 0)) 20 i (if fN σ 23 i = 0 then fN σ 22 i else 0)) (i + 1) (by omega) (fun j => by
        show fN (uN σ 16 i _) 16 j ≤ 1
        rw [fN_uN]; split
        · split; omega; split <;> omega
        · exact h16 j) h23 ((h.wN 16 i (if fN σ 16 i = 0 then 0 else if fN σ 23 i = 0 then 1 else 0) (by decide)).wN 20 i (if fN σ 23 i = 0 then fN σ 22 i else 0) (by decide)) k
    refine ⟨n + 1, ?_⟩
    unfold wp_Mo_run_188 wp_Mo_run_221 wp_Mo_run_222 wp_Mo_run_247
    have r16 : gR m 11 16 a = B 16 := (hx.2.1 16 (by decide)).1
    have t16 : tg m (B 16) = 40 := (hx.2.1 16 (by decide)).2.1
    have l16 : ln m (B 16) = 8 := (hx.2.1 16 (by decide)).2.2
    have n16 : ∀ i, i < 8 → aI m 40 (B 16) i = nI (fN (uF σ 26 x) 16 i) := hx.2.2.2.2.1 16 (by decide)
    have r20 : gR m 11 20 a = B 20 := (hx.2.1 20 (by decide)).1
    have t20 : tg m (B 20) = 44 := (hx.2.1 20 (by decide)).2.1
    have l20 : ln m (B 20) = 8 := (hx.2.1 20 (by decide)).2.2
    have n20 : ∀ i, i < 8 → aI m 44 (B 20) i = nI (fN (uF σ 26 x) 20 i) := hx.2.2.2.2.1 20 (by decide)
    have r22 : gR m 11 22 a = B 22 := (hx.2.1 22 (by decide)).1
    have t22 : tg m (B 22) = 46 := (hx.2.1 22 (by decide)).2.1
    have l22 : ln m (B 22) = 8 := (hx.2.1 22 (by decide)).2.2
    have n22 : ∀ i, i < 8 → aI m 46 (B 22) i = nI (fN (uF σ 26 x) 22 i) := hx.2.2.2.2.1 22 (by decide)
    have r23 : gR m 11 23 a = B 23 := (hx.2.1 23 (by decide)).1
    have t23 : tg m (B 23) = 47 := (hx.2.1 23 (by decide)).2.1
    have l23 : ln m (B 23) = 8 := (hx.2.1 23 (by decide)).2.2
    have n23 : ∀ i, i < 8 → aI m 47 (B 23) i = nI (fN (uF σ 26 x) 23 i) := hx.2.2.2.2.1 23 (by decide)
    have q16 : fN (uF σ 26 x) 16 i = fN σ 16 i := rfl
    have q23 : fN (uF σ 26 x) 23 i = fN σ 23 i := rfl
    have q22 : fN (uF σ 26 x) 22 i = fN σ 22 i := rfl
    simp (disch := omega) only [forall_eq, tg_sI, gI_sI, gR_sI, aI_sI, aR_sI, ln_sI, tg_sR, gI_sR, gR_sR, aI_sR, aR_sR, ln_sR, tg_wI, gI_wI, gR_wI, aI_wI, aR_wI, ln_wI, tg_wR, gI_wR, gR_wR, aI_wR, aR_wR, ln_wR, tg_wC, gI_wC, gR_wC, aI_wC, aR_wC, ln_wC, tg_nO, gI_nO, gR_nO, aI_nO, aR_nO, ln_nO, tg_nA, gI_nA, gR_nA, aI_nA, aR_nA, ln_nA, Nat.reduceEqDiff, reduceCtorEq, false_and, true_and, and_true, and_false, and_self, if_true, if_false, ↓reduceIte, forall_const, true_implies, imp_self, not_true, not_false_eq_true, implies_true, not_false, eq_self, Nat.reduceLT, Nat.reduceLeDiff, hx.1, r16, t16, l16, n16, r20, t20, l20, n20, r22, t22, l22, n22, r23, t23, l23, n23, c_mul2, c_mul3, c_mul6, c_mul10, c_mul40, c_mul100, c_mul200, c_add2, c_add3, c_add4, c_add5, nI_1, nI_add, nI_clamp, c_sub1, c_eq, c_le, c_lt, zz, q16, q23, q22, nb0, nb1, eL_0, ltL_0, gtL_0, leL_0, geL_0, eL_1, ltL_1, gtL_1, leL_1, geL_1, eL_2, ltL_2, gtL_2, leL_2, geL_2, eL_3, ltL_3, gtL_3, leL_3, geL_3, eL_4, ltL_4, gtL_4, leL_4, geL_4, eL_5, ltL_5, gtL_5, leL_5, geL_5, eL_6, ltL_6, gtL_6, leL_6, geL_6, eL_7, ltL_7, gtL_7, leL_7, geL_7, eL_8, ltL_8, gtL_8, leL_8, geL_8, eL_9, ltL_9, gtL_9, leL_9, geL_9, eL_10, ltL_10, gtL_10, leL_10, geL_10, eL_16, ltL_16, gtL_16, leL_16, geL_16, eL_20, ltL_20, gtL_20, leL_20, geL_20, eL_32, ltL_32, gtL_32, leL_32, geL_32, eL_40, ltL_40, gtL_40, leL_40, geL_40, eL_100, ltL_100, gtL_100, leL_100, geL_100, eL_200, ltL_200, gtL_200, leL_200, geL_200, eL_255, ltL_255, gtL_255, leL_255, geL_255, eL_256, ltL_256, gtL_256, leL_256, geL_256, eL_400, ltL_400, gtL_400, leL_400, geL_400, eL_9999, ltL_9999, gtL_9999, leL_9999, geL_9999, eL_20000, ltL_20000, gtL_20000, leL_20000, geL_20000, iL_0, tL_0, iL_1, tL_1, iL_2, tL_2, iL_3, tL_3, iL_4, tL_4, iL_5, tL_5, iL_6, tL_6, iL_7, tL_7, c_inT]
    refine ⟨fun z => absurd z (by omega), fun _ => ⟨fun z1 => ⟨fun z2 => ?_, fun z2 => ?_⟩, fun z1 => ⟨fun z2 => ⟨fun z3 => ?_, fun z3 => ?_⟩, fun z2 => ⟨fun z3 => ?_, fun z3 => ?_⟩⟩⟩⟩
    · rw [if_pos z1, if_pos z2] at hw; exact hw
    · rw [if_pos z1, if_neg z2] at hw; exact hw
    · rw [if_neg z1, if_pos z2] at hw; simp only [if_pos z2] at hw; exact hw
    · exact absurd z2 z3
    · exact absurd z3 z2
    · rw [if_neg z1, if_neg z2] at hw; simp only [if_neg z2] at hw; exact hw

