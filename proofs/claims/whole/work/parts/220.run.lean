theorem w_run_jobs {a : Nat} {B : Nat → Nat} {Z : Mm → Prop} {P : Int32 → Mm → Prop} : ∀ (c k n : Nat) (σ : Sg), c + k = fF σ 2 → n ≤ k → RI σ → (∀ m', RZo Z m' a B (allS c k n σ).2 → P (nI (allS c k n σ).1) m') → ∃ f, ∀ m, RZo Z m a B σ → wp_Mo_run_19 P f m a (nI n) (nI k) := by
  intro c
  induction c with
  | zero =>
    intro k n σ hc hn hI K
    have hj := hI.1.jobs
    refine ⟨1, fun m h => ?_⟩
    obtain ⟨x, hx⟩ := id h
    have f2 : gI m 11 2 a = nI (fF σ 2) := hx.2.2.1 2 (by decide)
    unfold wp_Mo_run_19
    simp (disch := omega) only [forall_eq, hx.1, f2, c_le, true_and]
    exact ⟨fun _ => K m h, fun z => absurd (by omega) z⟩
  | succ c ih =>
    intro k n σ hc hn hI K
    have hj := hI.1.jobs
    have ht := hI.1.told (6 * k)
    by_cases e : fN σ 5 (6 * k) = 0
    · unfold allS at K
      rw [if_pos e] at K
      obtain ⟨o1, o2, o3, o4⟩ := one_ok (k := k) hI (by omega)
      obtain ⟨f, hf⟩ := ih (k + 1) (n + 1) (oneS k σ) (by rw [o2]; omega) (by omega) o1 K
      refine ⟨f + 1, fun m h => ?_⟩
      obtain ⟨x, hx⟩ := id h
      have f2 : gI m 11 2 a = nI (fF σ 2) := hx.2.2.1 2 (by decide)
      have r5 : gR m 11 5 a = B 5 := (hx.2.1 5 (by decide)).1
      have t5 : tg m (B 5) = 30 := (hx.2.1 5 (by decide)).2.1
      have l5 : ln m (B 5) = 120 := (hx.2.1 5 (by decide)).2.2
      have n5 : ∀ i, i < 120 → aI m 30 (B 5) i = nI (fN (uF σ 26 x) 5 i) := hx.2.2.2.2.1 5 (by decide)
      have q5 : fN (uF σ 26 x) 5 (6 * k) = fN σ 5 (6 * k) := rfl
      unfold wp_Mo_run_19
      simp (disch := omega) only [forall_eq, tg_sI, gI_sI, gR_sI, aI_sI, aR_sI, ln_sI, tg_sR, gI_sR, gR_sR, aI_sR, aR_sR, ln_sR, tg_wI, gI_wI, gR_wI, aI_wI, aR_wI, ln_wI, tg_wR, gI_wR, gR_wR, aI_wR, aR_wR, ln_wR, tg_wC, gI_wC, gR_wC, aI_wC, aR_wC, ln_wC, tg_nO, gI_nO, gR_nO, aI_nO, aR_nO, ln_nO, tg_nA, gI_nA, gR_nA, aI_nA, aR_nA, ln_nA, Nat.reduceEqDiff, reduceCtorEq, false_and, true_and, and_true, and_false, and_self, if_true, if_false, ↓reduceIte, forall_const, true_implies, imp_self, not_true, not_false_eq_true, implies_true, not_false, eq_self, Nat.reduceLT, Nat.reduceLeDiff, hx.1, f2, r5, t5, l5, n5, q5, c_mul2, c_mul3, c_mul6, c_mul10, c_mul40, c_mul100, c_mul200, c_add2, c_add3, c_add4, c_add5, nI_1, nI_add, nI_clamp, c_sub1, c_eq, c_le, c_lt, zz, nb0, nb1, eL_0, ltL_0, gtL_0, leL_0, geL_0, eL_1, ltL_1, gtL_1, leL_1, geL_1, eL_2, ltL_2, gtL_2, leL_2, geL_2, eL_3, ltL_3, gtL_3, leL_3, geL_3, eL_4, ltL_4, gtL_4, leL_4, geL_4, eL_5, ltL_5, gtL_5, leL_5, geL_5, eL_6, ltL_6, gtL_6, leL_6, geL_6, eL_7, ltL_7, gtL_7, leL_7, geL_7, eL_8, ltL_8, gtL_8, leL_8, geL_8, eL_9, ltL_9, gtL_9, leL_9, geL_9, eL_10, ltL_10, gtL_10, leL_10, geL_10, eL_16, ltL_16, gtL_16, leL_16, geL_16, eL_20, ltL_20, gtL_20, leL_20, geL_20, eL_32, ltL_32, gtL_32, leL_32, geL_32, eL_40, ltL_40, gtL_40, leL_40, geL_40, eL_100, ltL_100, gtL_100, leL_100, geL_100, eL_200, ltL_200, gtL_200, leL_200, geL_200, eL_255, ltL_255, gtL_255, leL_255, geL_255, eL_256, ltL_256, gtL_256, leL_256, geL_256, eL_400, ltL_400, gtL_400, leL_400, geL_400, eL_9999, ltL_9999, gtL_9999, leL_9999, geL_9999, eL_20000, ltL_20000, gtL_20000, leL_20000, geL_20000, iL_0, tL_0, iL_1, tL_1, iL_2, tL_2, iL_3, tL_3, iL_4, tL_4, iL_5, tL_5, iL_6, tL_6, iL_7, tL_7, c_inT]
      refine ⟨fun z => absurd z (by omega), fun _ => ⟨fun _ => ?_, fun z => absurd e z⟩⟩
      refine w_c41 4 m σ 0 rfl h (fun m1 h1 => w_c66 40 m1 _ 0 rfl h1 (fun m2 h2 => w_c92 7 m2 _ 1 rfl h2 (fun m3 h3 => ?_)))
      have hb := beg_RI (k := k) hI
      have ek := (beg_ext k σ).2.1
      obtain ⟨⟨t1, t2, t3⟩, -⟩ := job_ok hb (by rw [ek]; omega)
      refine w_runJob (σ := begS k σ) h3 hb (by rw [ek]; omega) (fun m4 h4 y ey => ?_)
      subst ey
      rw [nI_1]
      refine w_c137 4 m4 _ 0 rfl h4 (fun m5 h5 => w_c162 40 m5 _ 0 rfl h5 (fun m6 h6 => w_c188 7 m6 _ 1 rfl ?_ ?_ h6 (fun m7 h7 => ?_)))
      · intro j
        rw [(cp5_ext 40 0 _).2.2.1, (cp4_ext 4 0 _).2.2.2.1 16 j (by decide)]; exact t1.opn j
      · intro j
        rw [(cp5_ext 40 0 _).2.2.1, (cp4_ext 4 0 _).2.2.2.1 23 j (by decide)]; exact t1.own j
      · unfold wp_Mo_run_254
        intro z ez; subst ez
        rw [nI_1]
        exact hf m7 h7
    · unfold allS at K
      rw [if_neg e] at K
      obtain ⟨f, hf⟩ := ih (k + 1) n σ (by omega) (by omega) hI K
      refine ⟨f + 1, fun m h => ?_⟩
      obtain ⟨x, hx⟩ := id h
      have f2 : gI m 11 2 a = nI (fF σ 2) := hx.2.2.1 2 (by decide)
      have r5 : gR m 11 5 a = B 5 := (hx.2.1 5 (by decide)).1
      have t5 : tg m (B 5) = 30 := (hx.2.1 5 (by decide)).2.1
      have l5 : ln m (B 5) = 120 := (hx.2.1 5 (by decide)).2.2
      have n5 : ∀ i, i < 120 → aI m 30 (B 5) i = nI (fN (uF σ 26 x) 5 i) := hx.2.2.2.2.1 5 (by decide)
      have q5 : fN (uF σ 26 x) 5 (6 * k) = fN σ 5 (6 * k) := rfl
      unfold wp_Mo_run_19 wp_Mo_run_254
      simp (disch := omega) only [forall_eq, tg_sI, gI_sI, gR_sI, aI_sI, aR_sI, ln_sI, tg_sR, gI_sR, gR_sR, aI_sR, aR_sR, ln_sR, tg_wI, gI_wI, gR_wI, aI_wI, aR_wI, ln_wI, tg_wR, gI_wR, gR_wR, aI_wR, aR_wR, ln_wR, tg_wC, gI_wC, gR_wC, aI_wC, aR_wC, ln_wC, tg_nO, gI_nO, gR_nO, aI_nO, aR_nO, ln_nO, tg_nA, gI_nA, gR_nA, aI_nA, aR_nA, ln_nA, Nat.reduceEqDiff, reduceCtorEq, false_and, true_and, and_true, and_false, and_self, if_true, if_false, ↓reduceIte, forall_const, true_implies, imp_self, not_true, not_false_eq_true, implies_true, not_false, eq_self, Nat.reduceLT, Nat.reduceLeDiff, hx.1, f2, r5, t5, l5, n5, q5, c_mul2, c_mul3, c_mul6, c_mul10, c_mul40, c_mul100, c_mul200, c_add2, c_add3, c_add4, c_add5, nI_1, nI_add, nI_clamp, c_sub1, c_eq, c_le, c_lt, zz, nb0, nb1, eL_0, ltL_0, gtL_0, leL_0, geL_0, eL_1, ltL_1, gtL_1, leL_1, geL_1, eL_2, ltL_2, gtL_2, leL_2, geL_2, eL_3, ltL_3, gtL_3, leL_3, geL_3, eL_4, ltL_4, gtL_4, leL_4, geL_4, eL_5, ltL_5, gtL_5, leL_5, geL_5, eL_6, ltL_6, gtL_6, leL_6, geL_6, eL_7, ltL_7, gtL_7, leL_7, geL_7, eL_8, ltL_8, gtL_8, leL_8, geL_8, eL_9, ltL_9, gtL_9, leL_9, geL_9, eL_10, ltL_10, gtL_10, leL_10, geL_10, eL_16, ltL_16, gtL_16, leL_16, geL_16, eL_20, ltL_20, gtL_20, leL_20, geL_20, eL_32, ltL_32, gtL_32, leL_32, geL_32, eL_40, ltL_40, gtL_40, leL_40, geL_40, eL_100, ltL_100, gtL_100, leL_100, geL_100, eL_200, ltL_200, gtL_200, leL_200, geL_200, eL_255, ltL_255, gtL_255, leL_255, geL_255, eL_256, ltL_256, gtL_256, leL_256, geL_256, eL_400, ltL_400, gtL_400, leL_400, geL_400, eL_9999, ltL_9999, gtL_9999, leL_9999, geL_9999, eL_20000, ltL_20000, gtL_20000, leL_20000, geL_20000, iL_0, tL_0, iL_1, tL_1, iL_2, tL_2, iL_3, tL_3, iL_4, tL_4, iL_5, tL_5, iL_6, tL_6, iL_7, tL_7, c_inT]
      exact ⟨fun z => absurd z (by omega), fun _ => ⟨fun z => absurd z e, fun _ => hf m h⟩⟩
theorem w_run {m : Mm} {a : Nat} {B : Nat → Nat} {Z : Mm → Prop} {σ : Sg} (h : RZ Z m a B σ) (hI : RI σ) {P : Int32 → Mm → Prop} (k : ∀ m', RZo Z m' a B (spRun σ).2 → P (spRun σ).1 m') : wp_Mo_run m a P := by
  unfold wp_Mo_run wp_Mo_run_0
  refine ⟨h.1, fun m1 e1 => ?_⟩
  subst e1
  replace h := h.code 0
  generalize sI m 11 0 a 0 = m at h ⊢
  have hf := hI.1.fails
  have f24 : gI m 11 24 a = nI (fF σ 24) := h.2.2.1 24 (by decide)
  unfold spRun at k
  simp (disch := omega) only [forall_eq, h.1, f24, eL_0, true_and]
  refine ⟨fun z => ?_, fun z => ?_⟩
  · rw [if_pos z] at k
    obtain ⟨f, hf⟩ := w_run_jobs (a := a) (B := B) (Z := Z) (P := P) (fF σ 2) 0 0 σ rfl (Nat.le_refl _) hI k
    exact ⟨f, hf m (RZo.of h)⟩
  · rw [if_neg z] at k
    exact k m (RZo.of h)
theorem all_RI : ∀ (c k n : Nat) (σ : Sg), c + k ≤ 20 → RI σ → RI (allS c k n σ).2 ∧ fF (allS c k n σ).2 2 = fF σ 2
  | 0, _, _, _, _, h => ⟨h, rfl⟩
  | c + 1, k, n, σ, hc, h => by
    unfold allS
    split
    · obtain ⟨o1, o2, o3, o4⟩ := one_ok (k := k) h (by omega)
      obtain ⟨a1, a2⟩ := all_RI c (k + 1) (n + 1) (oneS k σ) (by omega) o1
      exact ⟨a1, a2.trans o2⟩
    · exact all_RI c (k + 1) n σ (by omega) h
theorem spRun_RI {σ : Sg} (h : RI σ) : RI (spRun σ).2 := by
  unfold spRun
  split
  · exact (all_RI (fF σ 2) 0 0 σ (by have := h.1.jobs; omega) h).1
  · exact h

