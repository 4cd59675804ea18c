/-! what the signs keep -/
def Kp (σ τ : Sg) : Prop := fF τ 25 = fF σ 25 ∧ fF τ 1 = fF σ 1 ∧ fF τ 2 = fF σ 2 ∧ fF τ 24 = fF σ 24 ∧ fF τ 27 = fF σ 27 ∧ (∀ i, fD τ 3 i = fD σ 3 i) ∧ (∀ i, fN τ 4 i = fN σ 4 i) ∧ (∀ i, fN τ 5 i = fN σ 5 i) ∧ (∀ i, fN τ 9 i = fN σ 9 i) ∧ (∀ i, fD τ 10 i = fD σ 10 i) ∧ (∀ i, fN τ 22 i = fN σ 22 i) ∧ (∀ i, 1 ≤ fN σ 21 i → 1 ≤ fN τ 21 i)
theorem Kp.rf (σ : Sg) : Kp σ σ := ⟨rfl, rfl, rfl, rfl, rfl, fun _ => rfl, fun _ => rfl, fun _ => rfl, fun _ => rfl, fun _ => rfl, fun _ => rfl, fun _ h => h⟩
theorem Kp.tr {σ τ υ : Sg} (h : Kp σ τ) (g : Kp τ υ) : Kp σ υ := by
  obtain ⟨a1, a2, a3, a4, a5, a6, a7, a8, a9, a10, a11, a12⟩ := h
  obtain ⟨b1, b2, b3, b4, b5, b6, b7, b8, b9, b10, b11, b12⟩ := g
  exact ⟨b1.trans a1, b2.trans a2, b3.trans a3, b4.trans a4, b5.trans a5, fun i => (b6 i).trans (a6 i), fun i => (b7 i).trans (a7 i), fun i => (b8 i).trans (a8 i), fun i => (b9 i).trans (a9 i), fun i => (b10 i).trans (a10 i), fun i => (b11 i).trans (a11 i), fun i h => b12 i (a12 i h)⟩
/-- a state in a run -/
def GI (σ : Sg) : Prop := Inv σ ∧ Th σ ∧ JI σ
theorem gi_er {σ : Sg} {e : Nat} (he : e ≤ 7) (h : GI σ) : GI (er σ e) ∧ Kp σ (er σ e) := by
  obtain ⟨h1, h2, j1, j2, j3, j4, j5, j6, j7, j8, j9⟩ := h
  exact ⟨⟨h1, h2, j1, j2, j3, j4, j5, j6, j7, he, j9⟩, Kp.rf σ⟩
theorem gi_lay {σ : Sg} (v : Int32) (h : GI σ) : GI (layS σ v) ∧ Kp σ (layS σ v) := by
  unfold layS
  split
  · exact gi_er (by decide) h
  · obtain ⟨h1, h2, j1, j2, j3, j4, j5, j6, j7, j8, j9⟩ := h
    exact ⟨⟨h1, h2, j1, j2, j3, by show fF σ 28 + 1 ≤ 20; omega, j5, j6, j7, j8, j9⟩, Kp.rf σ⟩
theorem gi_lay2 {σ : Sg} (v w : Int32) (h : GI σ) : GI (lay2 σ v w) ∧ Kp σ (lay2 σ v w) := by
  obtain ⟨a, b⟩ := gi_lay v h
  obtain ⟨c, d⟩ := gi_lay w a
  exact ⟨c, b.tr d⟩
theorem gi_pg : ∀ (c : Nat) (σ : Sg), fF σ 31 + c ≤ 40 → GI σ → GI (pgS c σ) ∧ Kp σ (pgS c σ)
  | 0, σ, _, h => ⟨h, Kp.rf σ⟩
  | c + 1, σ, hc, h => by
    unfold pgS
    obtain ⟨h1, h2, j1, j2, j3, j4, j5, j6, j7, j8, j9⟩ := h
    obtain ⟨a, b⟩ := gi_pg c (uF (uD σ 6 (40 * fF σ 25 + fF σ 31) (fM σ)) 31 (fF σ 31 + 1)) (by show fF σ 31 + 1 + c ≤ 40; omega) ⟨h1, h2, j1, j2, j3, j4, by show fF σ 31 + 1 ≤ 40; omega, j6, j7, j8, j9⟩
    exact ⟨a, b⟩
theorem gi_show {σ : Sg} (h : GI σ) : GI (showS σ) ∧ Kp σ (showS σ) := by
  unfold showS
  split
  · exact gi_er (by decide) h
  · obtain ⟨a, b⟩ := gi_pg (fN σ 7 1) σ (by omega) h
    exact ⟨a, b⟩
theorem gi_begin {σ : Sg} (v : Int32) (hat : fF σ 26 < siz σ) (h : GI σ) : GI (beginS σ v) ∧ Kp σ (beginS σ v) := by
  unfold beginS
  have hs : siz σ ≤ 200 := h.1.size _
  split
  · exact gi_er (by decide) h
  · split
    · exact gi_er (by decide) h
    · rename_i e4 e he
      have hel := eoF_lt _ _ _ _ _ _ he
      obtain ⟨h1, h2, j1, j2, j3, j4, j5, j6, j7, j8, j9⟩ := h
      split
      · exact ⟨⟨h1, h2, j1, by show e ≤ 201; omega, j3, j4, j5, j6, j7, j8, j9⟩, Kp.rf σ⟩
      · refine ⟨⟨h1, h2, j1, j2, j3, j4, j5, by show fF σ 32 + 1 ≤ 4; omega, fun i => ?_, j8, j9⟩, Kp.rf σ⟩
        show fN (uN σ 33 (fF σ 32) (fF σ 26)) 33 i ≤ 200
        rw [fN_uN]; split; omega; exact j7 i
theorem gi_end {σ : Sg} (h : GI σ) : GI (endS σ) ∧ Kp σ (endS σ) := by
  unfold endS
  split
  · exact gi_er (by decide) h
  · obtain ⟨h1, h2, j1, j2, j3, j4, j5, j6, j7, j8, j9⟩ := h
    have := j7 (fF σ 32 - 1)
    split
    · exact ⟨⟨h1, h2, j1, by show fN σ 33 (fF σ 32 - 1) ≤ 201; omega, j3, j4, j5, j6, j7, j8, j9⟩, Kp.rf σ⟩
    · exact ⟨⟨h1, h2, j1, j2, j3, j4, j5, by show fF σ 32 - 1 ≤ 4; omega, j7, j8, j9⟩, Kp.rf σ⟩
theorem gi_res {σ : Sg} (c n : Int32) (h : GI σ) : GI (resS σ c n) ∧ Kp σ (resS σ c n) := by
  unfold resS; split; exact gi_er (by decide) h; exact gi_lay _ h
theorem kp_dev (σ : Sg) (q v : Int32) : Kp σ (spDevice σ q v).2 := by unfold spDevice; split <;> exact Kp.rf σ
theorem gi_set {σ : Sg} (q v : Int32) (h : GI σ) : GI (setS σ q v) ∧ Kp σ (setS σ q v) := by
  unfold setS; split; exact gi_er (by decide) h
  refine ⟨⟨spDevice_Inv h.1 q v, ?_, spDevice_JI h.2.2⟩, kp_dev σ q v⟩
  unfold spDevice; split <;> exact h.2.1
theorem gi_def {σ : Sg} (c n v : Int32) (h : GI σ) : GI (defS σ c n v) ∧ Kp σ (defS σ c n v) := by
  have hg : GI (spDefine σ c n v).2 ∧ Kp σ (spDefine σ c n v).2 := by
    refine ⟨⟨spDefine_Inv h.1 c n v, ?_, ?_⟩, ?_⟩ <;> (unfold spDefine; split; first | exact h.2.1 | exact h.2.2 | exact Kp.rf σ)
    all_goals (split <;> first | exact h.2.1 | exact h.2.2 | exact Kp.rf σ)
  unfold defS; split
  · exact ⟨(gi_er (by decide) hg.1).1, hg.2.tr (gi_er (by decide) hg.1).2⟩
  · exact hg
theorem gi_wr {σ : Sg} (c n : Int32) (h : GI σ) : GI (wrS σ c n) ∧ Kp σ (wrS σ c n) := by
  have hg : GI (spWritten σ c n).2 ∧ Kp σ (spWritten σ c n).2 := by
    refine ⟨⟨spWritten_Inv h.1 h.2.1 c n, ?_, ?_⟩, ?_⟩
    · unfold spWritten; split; exact h.2.1; split; exact h.2.1; split; split <;> exact h.2.1; split <;> exact h.2.1
    · unfold spWritten; split; exact h.2.2; split; exact h.2.2; split; split <;> exact h.2.2; split <;> exact h.2.2
    · unfold spWritten; split; exact Kp.rf σ; split; exact Kp.rf σ; split; split <;> exact Kp.rf σ; split <;> exact Kp.rf σ
  unfold wrS; split
  · exact ⟨(gi_er (by decide) hg.1).1, hg.2.tr (gi_er (by decide) hg.1).2⟩
  · exact hg
theorem gi_fl {σ : Sg} (c n : Int32) (h : GI σ) : GI (flS σ c n) ∧ Kp σ (flS σ c n) := by
  have hg : GI (spFiltered σ c n).2 ∧ Kp σ (spFiltered σ c n).2 := by
    refine ⟨⟨spFiltered_Inv h.1 c n, ?_, ?_⟩, ?_⟩
    · unfold spFiltered; split; exact h.2.1; split; exact h.2.1; split <;> exact h.2.1
    · unfold spFiltered; split; exact h.2.2; split; exact h.2.2; split <;> exact h.2.2
    · unfold spFiltered
      split; exact Kp.rf σ
      split; exact Kp.rf σ
      rename_i q
      split; exact Kp.rf σ
      obtain ⟨j, hj, rfl⟩ := ix_of (v := n) (hi := 3) (n := 3) rfl (fun z => q (Or.inl (by simp only [Int32.lt_iff_toInt_lt, Int32.toInt_zero, show (1 : Int32).toInt = 1 from rfl] at *; omega))) (fun z => q (Or.inr z))
      have hj1 : ¬ nI j < 1 := fun z => q (Or.inl z)
      rw [ltL_1 (by omega)] at hj1
      rw [nI_clamp (by omega)]
      refine ⟨rfl, rfl, rfl, rfl, rfl, fun _ => rfl, fun _ => rfl, fun _ => rfl, fun _ => rfl, fun _ => rfl, fun _ => rfl, fun i hi => ?_⟩
      show 1 ≤ fN (uN σ 21 _ j) 21 i
      rw [fN_uN]; split; omega; exact hi
  unfold flS; split
  · exact ⟨(gi_er (by decide) hg.1).1, hg.2.tr (gi_er (by decide) hg.1).2⟩
  · exact hg
theorem gi_rd {σ : Sg} (c : Int32) (h : GI σ) : GI (rdS σ c) ∧ Kp σ (rdS σ c) := by
  have hg : GI (spTaken σ c).2 ∧ Kp σ (spTaken σ c).2 := by
    refine ⟨⟨spTaken_Inv h.1 c, ?_, spTaken_JI h.2.2⟩, ?_⟩
    · unfold spTaken; split; exact h.2.1; split; split <;> exact h.2.1; exact h.2.1
    · unfold spTaken; split; exact Kp.rf σ; split; split <;> exact Kp.rf σ; exact Kp.rf σ
  unfold rdS; split
  · exact ⟨(gi_er (by decide) hg.1).1, hg.2.tr (gi_er (by decide) hg.1).2⟩
  · exact ⟨(gi_lay _ hg.1).1, hg.2.tr (gi_lay _ hg.1).2⟩
theorem gi_opn {σ : Sg} (n k : Int32) (h : GI σ) : GI (opnS σ n k) ∧ Kp σ (opnS σ n k) := by
  unfold opnS; split
  · exact gi_er (by decide) h
  · have hk : Kp σ (spOpened σ n k).2 := by
      unfold spOpened; split; exact Kp.rf σ; split; exact Kp.rf σ; split; exact Kp.rf σ; split <;> exact Kp.rf σ
    have hg : GI (uN (spOpened σ n k).2 23 (spOpened σ n k).1.toNatClampNeg 1) := by
      refine ⟨(spOpened_Inv h.1 n k).u23 _ _ (Nat.le_refl _), ⟨(spOpened_Th h.2.1 n k).1, ?_⟩, spOpened_JI h.2.2⟩
      rename_i hneg
      rcases spOpened_r σ n k with q | ⟨f, f1, f2, f3⟩
      · exact absurd q hneg
      · rw [f3, nI_clamp (by omega), fN_uN, if_neg (by omega)]; exact (spOpened_Th h.2.1 n k).2
    exact ⟨(gi_lay _ hg).1, (show Kp σ (uN (spOpened σ n k).2 23 (spOpened σ n k).1.toNatClampNeg 1) from hk).tr (gi_lay _ hg).2⟩
theorem gi_clo {σ : Sg} (v : Int32) (h : GI σ) : GI (cloS σ v) ∧ Kp σ (cloS σ v) := by
  unfold cloS; split
  · exact gi_er (by decide) h
  · split
    · exact gi_er (by decide) h
    · rename_i i e e2
      refine ⟨⟨(h.1.u16 i 0 (by decide) (fun z => by subst z; exact e2 h.2.1.2)).u23 i 0 (by decide), ⟨(h.2.1.u16z i).1, ?_⟩, h.2.2⟩, Kp.rf σ⟩
      rw [fN_uN]; split; rfl; exact h.2.1.2
theorem gi_q {σ : Sg} (h : GI σ) : GI (uF σ 36 1) ∧ Kp σ (uF σ 36 1) := by
  obtain ⟨h1, h2, j1, j2, j3, j4, j5, j6, j7, j8, j9⟩ := h
  exact ⟨⟨h1, h2, j1, j2, j3, j4, j5, j6, j7, j8, by show 1 ≤ 1; decide⟩, Kp.rf σ⟩
theorem gi_do {σ : Sg} (s a b c : Int32) (hat : fF σ 26 < siz σ) (h : GI σ) : GI (doS σ s a b c) ∧ Kp σ (doS σ s a b c) := by
  by_cases hd : 48 ≤ s ∧ s ≤ 57
  · rw [doS_dig hd]; exact gi_lay _ h
  by_cases e116 : s = 116
  · subst e116; rw [doS_116]; exact gi_lay _ h
  by_cases e43 : s = 43
  · subst e43; rw [doS_43]; exact gi_lay _ h
  by_cases e45 : s = 45
  · subst e45; rw [doS_45]; exact gi_lay _ h
  by_cases e42 : s = 42
  · subst e42; rw [doS_42]; exact gi_lay _ h
  by_cases e100 : s = 100
  · subst e100; rw [doS_100]; exact gi_lay2 _ _ h
  by_cases e120 : s = 120
  · subst e120; rw [doS_120]; exact gi_lay2 _ _ h
  by_cases e112 : s = 112
  · subst e112; rw [doS_112]; exact ⟨h, Kp.rf σ⟩
  by_cases e109 : s = 109
  · subst e109; rw [doS_109]; exact ⟨h, Kp.rf σ⟩
  by_cases e115 : s = 115
  · subst e115; rw [doS_115]; exact gi_show h
  by_cases e103 : s = 103
  · subst e103; rw [doS_103]; exact gi_set _ _ h
  by_cases e82 : s = 82
  · subst e82; rw [doS_82]; exact gi_res _ _ h
  by_cases e68 : s = 68
  · subst e68; rw [doS_68]; exact gi_def _ _ _ h
  by_cases e111 : s = 111
  · subst e111; rw [doS_111]; exact gi_opn _ _ h
  by_cases e99 : s = 99
  · subst e99; rw [doS_99]; exact gi_clo _ h
  by_cases e119 : s = 119
  · subst e119; rw [doS_119]; exact gi_wr _ _ h
  by_cases e114 : s = 114
  · subst e114; rw [doS_114]; exact gi_rd _ h
  by_cases e102 : s = 102
  · subst e102; rw [doS_102]; exact gi_fl _ _ h
  by_cases e123 : s = 123
  · subst e123; rw [doS_123]; exact gi_begin _ hat h
  by_cases e125 : s = 125
  · subst e125; rw [doS_125]; exact gi_end h
  by_cases e113 : s = 113
  · subst e113; rw [doS_113]; exact gi_q h
  rw [doS_no hd e116 e43 e45 e42 e100 e120 e112 e109 e115 e103 e82 e68 e111 e99 e119 e114 e102 e123 e125 e113]; exact gi_er (by decide) h
theorem gi_act {σ : Sg} (s : Int32) (hat : fF σ 26 < siz σ) (h : GI σ) : GI (actS σ s) ∧ Kp σ (actS σ s) := by
  unfold actS
  split
  · exact gi_er (by decide) h
  · obtain ⟨h1, h2, j1, j2, j3, j4, j5, j6, j7, j8, j9⟩ := h
    exact gi_do _ _ _ _ hat ⟨h1, h2, j1, j2, j3, by show fF σ 28 - wn s ≤ 20; omega, j5, j6, j7, j8, j9⟩
theorem kp_sgn {σ τ : Sg} (h : Kp σ τ) : sgn τ = sgn σ := by funext p; unfold sgn; rw [h.1, h.2.2.2.2.2.1]
theorem kp_siz {σ τ : Sg} (h : Kp σ τ) : siz τ = siz σ := by unfold siz; rw [h.1, h.2.2.2.2.2.2.1]

