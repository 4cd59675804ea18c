theorem layS_JI {σ : Sg} {v : Int32} (hJ : JI σ) : JI (layS σ v) := by
  obtain ⟨j1, j2, j3, j4, j5, j6, j7, j8, j9⟩ := hJ
  unfold layS er
  split
  · exact ⟨j1, j2, j3, j4, j5, j6, j7, by show 6 ≤ 7; decide, j9⟩
  · exact ⟨j1, j2, j3, by show fF σ 28 + 1 ≤ 20; omega, j5, j6, j7, j8, j9⟩
theorem spDefine_35 (σ : Sg) (c n v : Int32) : fF (spDefine σ c n v).2 35 = fF σ 35 := by unfold spDefine; split; rfl; split <;> rfl
theorem spWritten_35 (σ : Sg) (c n : Int32) : fF (spWritten σ c n).2 35 = fF σ 35 := by unfold spWritten; split; rfl; split; rfl; split; split <;> rfl; split <;> rfl
theorem spFiltered_35 (σ : Sg) (c n : Int32) : fF (spFiltered σ c n).2 35 = fF σ 35 := by unfold spFiltered; split; rfl; split; rfl; split <;> rfl

theorem w_do112 {m : Mm} {a : Nat} {B : Nat → Nat} {Z : Mm → Prop} {σ : Sg} (h : RZ Z m a B σ) (hI : Inv σ) (hJ : JI σ) (h0 : fF σ 35 = 0) {s x y z : Int32} (hat : fF σ 26 < siz σ) (hs : s = 123 → sgn σ (fF σ 26) = 123) (hd : ¬ (48 ≤ s ∧ s ≤ 57)) {P : Mm → Prop} (k : ∀ m', RZ Z m' a B (doS σ s x y z) → P m') : wp_Mo_act_112 P m a s x y z := by
  unfold wp_Mo_act_112 wp_Mo_act_669 wp_Mo_act_639 wp_Mo_act_599
  exact ⟨fun e => by subst e; rw [doS_42] at k; intro x ex; subst ex; exact ⟨h.1, w_layJ h hJ k⟩,
  fun e42 => ⟨fun e => by subst e; rw [doS_43] at k; intro x ex; subst ex; exact ⟨h.1, w_layJ h hJ k⟩,
  fun e43 => ⟨fun e => by subst e; rw [doS_45] at k; intro x ex; subst ex; exact ⟨h.1, w_layJ h hJ k⟩,
  fun e45 => ⟨fun e => by subst e; rw [doS_68] at k; exact ⟨h.1, w_define h hI fun m1 h1 => ⟨fun z => ⟨h1.1, fun m2 e2 => by subst e2; unfold defS at k; rw [if_neg (in0 z)] at k; have q := h1.sF 35 0 (by decide); rw [uF_same (by rw [spDefine_35]; exact h0)] at q; exact k _ q⟩, fun z => ⟨h1.1, fun m2 e2 => by subst e2; unfold defS at k; rw [if_pos (le_no z)] at k; exact k _ (h1.sF 35 2 (by decide))⟩⟩⟩,
  fun e68 => ⟨fun e => by subst e; rw [doS_82] at k; exact ⟨h.1, w_readRes h hI hJ k⟩,
  fun e82 => ⟨fun e => by subst e; rw [doS_99] at k; exact ⟨h.1, w_closeFile h hI hJ k⟩,
  fun e99 => ⟨fun e => by subst e; rw [doS_100] at k; exact ⟨h.1, w_layJ h hJ fun m1 h1 => ⟨h1.1, w_layJ h1 (layS_JI hJ) k⟩⟩,
  fun e100 => ⟨fun e => by subst e; rw [doS_102] at k; exact ⟨h.1, w_filtered h hI fun m1 h1 => ⟨fun z => ⟨h1.1, fun m2 e2 => by subst e2; unfold flS at k; rw [if_neg (in0 z)] at k; have q := h1.sF 35 0 (by decide); rw [uF_same (by rw [spFiltered_35]; exact h0)] at q; exact k _ q⟩, fun z => ⟨h1.1, fun m2 e2 => by subst e2; unfold flS at k; rw [if_pos (le_no z)] at k; exact k _ (h1.sF 35 4 (by decide))⟩⟩⟩,
  fun e102 => ⟨fun e => by subst e; rw [doS_103] at k; exact ⟨h.1, w_set h hI hJ k⟩,
  fun e103 => ⟨fun e => by subst e; rw [doS_109] at k; exact ⟨h.1, fun x ex => by subst ex; intro y ey; subst ey; intro z ez; subst ez; exact ⟨h.1, fun m2 e2 => by subst e2; rw [h.2.2.2.1]; exact k _ (h.sM _)⟩⟩,
  fun e109 => ⟨fun e => by subst e; rw [doS_111] at k; exact ⟨h.1, w_openFile h hI hJ k⟩,
  fun e111 => ⟨fun e => by subst e; rw [doS_112] at k; exact k _ h,
  fun e112 => ⟨fun e => by subst e; rw [doS_113] at k; exact ⟨h.1, fun m2 e2 => by subst e2; exact k _ (h.sF 36 1 (by decide))⟩,
  fun e113 => ⟨fun e => by subst e; rw [doS_114] at k; exact ⟨h.1, w_readFile h hI hJ k⟩,
  fun e114 => ⟨fun e => by subst e; rw [doS_115] at k; exact ⟨h.1, w_show h hI hJ k⟩,
  fun e115 => ⟨fun e => by subst e; rw [doS_116] at k; intro x ex; subst ex; exact ⟨h.1, w_layJ h hJ k⟩,
  fun e116 => ⟨fun e => by subst e; rw [doS_119] at k; exact ⟨h.1, w_written h hI fun m1 h1 => ⟨fun z => ⟨h1.1, fun m2 e2 => by subst e2; unfold wrS at k; rw [if_neg (in0 z)] at k; have q := h1.sF 35 0 (by decide); rw [uF_same (by rw [spWritten_35]; exact h0)] at q; exact k _ q⟩, fun z => ⟨h1.1, fun m2 e2 => by subst e2; unfold wrS at k; rw [if_pos (le_no z)] at k; exact k _ (h1.sF 35 4 (by decide))⟩⟩⟩,
  fun e119 => ⟨fun e => by subst e; rw [doS_120] at k; exact ⟨h.1, w_layJ h hJ fun m1 h1 => ⟨h1.1, w_layJ h1 (layS_JI hJ) k⟩⟩,
  fun e120 => ⟨fun e => by subst e; rw [doS_123] at k; exact ⟨h.1, w_begin h hI hJ hat (hs rfl) k⟩,
  fun e123 => ⟨fun e => by subst e; rw [doS_125] at k; exact ⟨h.1, w_endLoop h hI hJ k⟩,
  fun e125 => ⟨h.1, fun m2 e2 => by subst e2; rw [doS_no hd e116 e43 e45 e42 e100 e120 e112 e109 e115 e103 e82 e68 e111 e99 e119 e114 e102 e123 e125 e113] at k; exact k _ (h.sF 35 1 (by decide))⟩⟩⟩⟩⟩⟩⟩⟩⟩⟩⟩⟩⟩⟩⟩⟩⟩⟩⟩⟩⟩
theorem w_do {m : Mm} {a : Nat} {B : Nat → Nat} {Z : Mm → Prop} {σ : Sg} (h : RZ Z m a B σ) (hI : Inv σ) (hJ : JI σ) (h0 : fF σ 35 = 0) {s x y z : Int32} (hat : fF σ 26 < siz σ) (hs : s = 123 → sgn σ (fF σ 26) = 123) {P : Mm → Prop} (k : ∀ m', RZ Z m' a B (doS σ s x y z) → P m') : wp_Mo_act_89 P m a s x y z := by
  unfold wp_Mo_act_89
  refine ⟨fun q => w_do112 h hI hJ h0 hat hs (fun w => by have := w.1; simp only [Int32.le_iff_toInt_le, Int32.lt_iff_toInt_lt] at *; omega) k, fun q => ⟨fun q2 => w_do112 h hI hJ h0 hat hs (fun w => by have := w.2; simp only [Int32.le_iff_toInt_le, Int32.lt_iff_toInt_lt] at *; omega) k, fun q2 => ?_⟩⟩
  rw [doS_dig ⟨lt_no q, lt_no q2⟩] at k
  intro w ew; subst ew
  exact ⟨h.1, w_layJ h hJ k⟩
theorem wn_le (s : Int32) : wn s ≤ 3 := by unfold wn; split; decide; split; decide; split <;> decide
theorem w_act {m : Mm} {a : Nat} {B : Nat → Nat} {Z : Mm → Prop} {σ : Sg} (h : RZ Z m a B σ) (hI : Inv σ) (hJ : JI σ) (h0 : fF σ 35 = 0) {s : Int32} (hat : fF σ 26 < siz σ) (hs : s = 123 → sgn σ (fF σ 26) = 123) {P : Mm → Prop} (k : ∀ m', RZ Z m' a B (actS σ s) → P m') : wp_Mo_act m a s P := by
  unfold wp_Mo_act wp_Mo_act_0
  refine w_wants ?_
  have hw := wn_le s
  obtain ⟨j1, j2, j3, j4, j5, j6, j7, j8, j9⟩ := id hJ
  have f28 : gI m 11 28 a = nI (fF σ 28) := h.2.2.1 28 (by decide)
  unfold actS at k
  simp (disch := omega) only [forall_eq, h.1, f28, c_le, true_and]
  refine ⟨fun z => ?_, fun z => ?_⟩
  · rw [if_neg (by omega)] at k
    rw [pk_sub z]
    have h1 := h.sF 28 (fF σ 28 - wn s) (by decide)
    have hJ1 : JI (uF σ 28 (fF σ 28 - wn s)) := ⟨j1, j2, j3, by show fF σ 28 - wn s ≤ 20; omega, j5, j6, j7, j8, j9⟩
    have hI1 : Inv (uF σ 28 (fF σ 28 - wn s)) := hI
    have r29 : gR m 11 29 a = B 29 := (h.2.1 29 (by decide)).1
    have t29 : tg m (B 29) = 48 := (h.2.1 29 (by decide)).2.1
    have l29 : ln m (B 29) = 20 := (h.2.1 29 (by decide)).2.2
    have n29 : ∀ i, i < 20 → aI m 48 (B 29) i = fD σ 29 i := h.2.2.2.2.2.1 29 (by decide)
    have fin : ∀ x y w : Int32, x = (if 0 < wn s then fD σ 29 (fF σ 28 - wn s) else 0) → y = (if 1 < wn s then fD σ 29 (fF σ 28 - wn s + 1) else 0) → w = (if 2 < wn s then fD σ 29 (fF σ 28 - wn s + 2) else 0) → wp_Mo_act_89 P (sI m 11 28 a (nI (fF σ 28 - wn s))) a s x y w := by
      intro x y w ex ey ew
      rw [ex, ey, ew]
      exact w_do h1 hI1 hJ1 h0 hat hs k
    unfold wp_Mo_act_46 wp_Mo_act_67
    simp (disch := omega) only [forall_eq, tg_sI, gI_sI, gR_sI, aI_sI, aR_sI, ln_sI, tg_sR, gI_sR, gR_sR, aI_sR, aR_sR, ln_sR, tg_wI, gI_wI, gR_wI, aI_wI, aR_wI, ln_wI, tg_wR, gI_wR, gR_wR, aI_wR, aR_wR, ln_wR, tg_wC, gI_wC, gR_wC, aI_wC, aR_wC, ln_wC, tg_nO, gI_nO, gR_nO, aI_nO, aR_nO, ln_nO, tg_nA, gI_nA, gR_nA, aI_nA, aR_nA, ln_nA, Nat.reduceEqDiff, reduceCtorEq, false_and, true_and, and_true, and_false, and_self, if_true, if_false, ↓reduceIte, forall_const, true_implies, imp_self, not_true, not_false_eq_true, implies_true, not_false, eq_self, Nat.reduceLT, Nat.reduceLeDiff, h.1, r29, t29, l29, c_mul2, c_mul3, c_mul6, c_mul10, c_mul40, c_mul100, c_mul200, c_add2, c_add3, c_add4, c_add5, nI_1, nI_add, nI_clamp, c_sub1, c_eq, c_le, c_lt, zz, nb0, nb1, eL_0, ltL_0, gtL_0, leL_0, geL_0, eL_1, ltL_1, gtL_1, leL_1, geL_1, eL_2, ltL_2, gtL_2, leL_2, geL_2, eL_3, ltL_3, gtL_3, leL_3, geL_3, eL_4, ltL_4, gtL_4, leL_4, geL_4, eL_5, ltL_5, gtL_5, leL_5, geL_5, eL_6, ltL_6, gtL_6, leL_6, geL_6, eL_7, ltL_7, gtL_7, leL_7, geL_7, eL_8, ltL_8, gtL_8, leL_8, geL_8, eL_9, ltL_9, gtL_9, leL_9, geL_9, eL_10, ltL_10, gtL_10, leL_10, geL_10, eL_16, ltL_16, gtL_16, leL_16, geL_16, eL_20, ltL_20, gtL_20, leL_20, geL_20, eL_32, ltL_32, gtL_32, leL_32, geL_32, eL_40, ltL_40, gtL_40, leL_40, geL_40, eL_100, ltL_100, gtL_100, leL_100, geL_100, eL_200, ltL_200, gtL_200, leL_200, geL_200, eL_255, ltL_255, gtL_255, leL_255, geL_255, eL_256, ltL_256, gtL_256, leL_256, geL_256, eL_400, ltL_400, gtL_400, leL_400, geL_400, eL_9999, ltL_9999, gtL_9999, leL_9999, geL_9999, eL_20000, ltL_20000, gtL_20000, leL_20000, geL_20000, iL_0, tL_0, iL_1, tL_1, iL_2, tL_2, iL_3, tL_3, iL_4, tL_4, iL_5, tL_5, iL_6, tL_6, iL_7, tL_7, c_inT]
    refine ⟨fun z1 => ?_, fun z1 => ?_⟩
    · refine ⟨fun z2 => ⟨fun z3 => fin _ _ _ (by rw [if_neg (by omega)]) (by rw [if_neg (by omega)]) (by rw [if_neg (by omega)]), fun z3 => absurd (by omega) z3⟩, fun z2 => absurd (by omega) z2⟩
    · refine ⟨c_in (by decide) (by omega), ?_⟩
      refine ⟨fun z2 => ⟨fun z3 => fin _ _ _ (by rw [if_pos (by omega), n29 _ (by omega)]) (by rw [if_neg (by omega)]) (by rw [if_neg (by omega)]), fun z3 => absurd (by omega) z3⟩, fun z2 => ?_⟩
      refine ⟨c_in (by decide) (by omega), ?_⟩
      refine ⟨fun z3 => fin _ _ _ (by rw [if_pos (by omega), n29 _ (by omega)]) (by rw [if_pos (by omega), n29 _ (by omega)]) (by rw [if_neg (by omega)]), fun z3 => ?_⟩
      exact ⟨c_in (by decide) (by omega), fin _ _ _ (by rw [if_pos (by omega), n29 _ (by omega)]) (by rw [if_pos (by omega), n29 _ (by omega)]) (by rw [if_pos (by omega), n29 _ (by omega)])⟩
  · rw [if_pos (by omega)] at k; exact k _ (h.sF 35 5 (by decide))

