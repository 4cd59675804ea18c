/-! THE CLASS: files, from outside -/
theorem ft_open {m : Mm} {A : Nat → Nat} {σ : Sg} {w : Nat → Nat} {c : Nat → Prop} (h : RC m A σ w c) (hI : Inv σ) {Z : Mm → Prop} (hZ : Cl Z) (z : Z m) {v u : Int32} {o : Nat} (ho : o ≤ 1) {P : Int32 → Mm → Prop} (k0 : (spOpened σ v u).2 = σ → (spOpened σ v u).1 < 0 → P (spOpened σ v u).1 m) (k1 : ∀ i j f : Nat, i ≤ 9 → j ≤ 2 → 2 ≤ f → f ≤ 7 → fN σ 16 f = 0 → spOpened σ v u = (nI f, opnd σ i j f) → ∀ m', RC m' A (opnd σ i j f) (wu w f o) c → Z m' → (∀ y, y ≠ A (50 + f) → gI m' 10 2 y = gI m 10 2 y) → P (nI f) m') : wp_FileTree_open m (A 9) v u (nI o) P := by
  unfold wp_FileTree_open wp_FileTree_open_0
  have ho' : nI o = 0 ∨ nI o = 1 := by rcases (show o = 0 ∨ o = 1 by omega) with e | e <;> rw [e]; exact Or.inl rfl; exact Or.inr rfl
  refine ⟨h.1.T9, x_store h.1 h.2.1 (fun q => ?_) (fun n hn e => ?_)⟩
  · have hsp : spOpened σ v u = (-1, σ) := by unfold spOpened; rw [if_pos q]
    rw [hsp] at k0
    exact ⟨fun _ => k0 rfl (show (-1 : Int32) < 0 by decide), fun z => absurd rfl z⟩
  · subst e
    have hno : ¬ (nI n < 0 ∨ 9 < nI n) := by rw [ltL_0 (by omega), gtL_9 (by omega)]; omega
    refine ⟨fun q => absurd q (h.z30 hn), fun _ => ⟨fun q => ?_, fun q => ⟨fun q1 => ?_, fun q1 => ?_⟩⟩⟩
    · have hsp : spOpened σ (nI n) u = (-2, σ) := by unfold spOpened; rw [if_neg hno, if_pos (Or.inl q)]
      rw [hsp] at k0
      exact k0 rfl (show (-2 : Int32) < 0 by decide)
    · obtain ⟨md, hmd, rfl⟩ := ix_of (v := u) (hi := 2) (n := 2) rfl q (fun a => by simp only [Int32.le_iff_toInt_le, Int32.lt_iff_toInt_lt] at *; omega)
      have hno2 : ¬ (nI md < 0 ∨ 2 < nI md) := by rw [ltL_0 (by omega), gtL_2 (by omega)]; omega
      have hsp : spOpened σ (nI n) (nI md) = if cnH σ n md 6 = false then (-3, σ) else if frH σ 6 = 0 then (-4, σ) else (nI (frH σ 6), opnd σ n md (frH σ 6)) := by
        unfold spOpened; rw [if_neg hno, if_neg hno2, nI_clamp (by omega), nI_clamp (by omega)]
      have th := hI.there n
      have hT : gI m 9 2 (A (30 + n)) = nI (fN σ 11 n) := (h.cs.1 n (by omega)).2.1
      have T9 := (h.2.1.1 n (by omega)).2.1
      have key : (0 < md ∨ fN σ 11 n ≠ 0) → wp_FileTree_open_38 P m (A 9) (nI md) (nI o) (A (30 + n)) := fun hb => by
        unfold wp_FileTree_open_38
        refine ⟨h.1.T9, ?_⟩
        unfold wp_FileTree_isHeldAgainst wp_FileTree_isHeldAgainst_0
        refine ft_held h hI hn hmd hb 6 (by omega) ?_
        by_cases g : cnH σ n md 6 = true
        · rw [if_pos g]
          rw [if_neg (by rw [g]; decide)] at hsp
          refine ⟨fun _ => ⟨h.1.T9, ?_⟩, fun z => absurd rfl z⟩
          unfold wp_FileTree_freeHandle wp_FileTree_freeHandle_0
          obtain ⟨fr1, fr2⟩ := frH_le σ 6 (by omega)
          refine ft_free h hI 6 (by omega) ⟨h.1.T9, x_handle h.1 h.2.1 (fun q => ?_) (fun f f1 f2 e => ?_)⟩
          · have f0 : frH σ 6 = 0 := by
              by_cases f0 : frH σ 6 = 0
              · exact f0
              · exfalso
                have := fr2 f0
                unfold oI at q
                rw [if_neg f0, ltL_1 (by omega), gtL_7 (by omega)] at q
                omega
            rw [if_pos f0] at hsp
            rw [hsp] at k0
            exact ⟨fun _ => k0 rfl (show (-4 : Int32) < 0 by decide), fun z => absurd rfl z⟩
          · have f0 : frH σ 6 ≠ 0 := fun f0 => by
              unfold oI at e
              rw [if_pos f0] at e
              exact n_m1 (by omega) e.symm
            have ef : oI (frH σ 6) = nI (frH σ 6) := if_neg f0
            rw [ef, c_eq (by omega) (by omega)] at e
            obtain ⟨g2, g3⟩ := fr2 f0
            rw [if_neg f0] at hsp
            rw [ef]
            rw [e] at hsp g2 g3 ⊢
            have T10 := (h.2.1.2.1 f f1 (by omega)).2.1
            refine ⟨fun q => absurd q (h.z50 f1 f2), fun _ => ?_⟩
            have e86 : (md = 1 ∨ fN σ 11 n = 0) → wp_FileTree_open_86 P m (nI md) (nI o) (A (30 + n)) (nI f) (A (50 + f)) := fun hc => by
              unfold wp_FileTree_open_86 wp_Store_makeEmpty wp_Store_makeEmpty_0 wp_FileTree_open_91
              simp only [forall_eq, tg_sI, T9, T10, true_and]
              refine x_attach (m := meM m (A (30 + n))) (show tg m (A (50 + f)) = 10 from T10) ho' ?_
              refine k1 n md f hn hmd g2 f2 g3 hsp _ ?_ (hZ.at _ _ _ _ (hZ.me _ z)) (fun y ny => ?_)
              · unfold opnd; rw [if_pos hc]; exact (h.emp hn).att g2 (by omega) rfl
              · unfold atM dtM; simp only [gI_sI, gI_sR, ny, and_false, if_false]; rfl
            have e91 : ¬ (md = 1 ∨ fN σ 11 n = 0) → wp_FileTree_open_91 P m (nI md) (nI o) (A (30 + n)) (nI f) (A (50 + f)) := fun hc => by
              unfold wp_FileTree_open_91
              refine ⟨T10, x_attach T10 ho' ?_⟩
              refine k1 n md f hn hmd g2 f2 g3 hsp _ ?_ (hZ.at _ _ _ _ z) (fun y ny => ?_)
              · unfold opnd; rw [if_neg hc, uN_self]
                have : uN σ 11 n 1 = σ := by
                  have e1 : fN σ 11 n = 1 := by omega
                  have := uN_self σ 11 n
                  rw [e1] at this
                  exact this
                rw [this]; exact h.att g2 (by omega) rfl
              · unfold atM dtM; simp only [gI_sI, gI_sR, ny, and_false, if_false]
            rw [eL_1 (by omega)]
            refine ⟨fun q => e86 (Or.inl q), fun q => ⟨T9, fun x ex => ?_⟩⟩
            subst ex
            rw [hT, eL_0 (by omega)]
            exact ⟨fun q1 => e86 (Or.inr q1), fun q1 => e91 (by omega)⟩
        · rw [if_neg g]
          rw [if_pos (by simpa using g)] at hsp
          rw [hsp] at k0
          exact ⟨fun z => absurd z (by decide), fun _ => k0 rfl (show (-3 : Int32) < 0 by decide)⟩
      rw [eL_0 (by omega)]
      refine ⟨fun q2 => ⟨T9, fun x ex => ?_⟩, fun q2 => key (Or.inl (by omega))⟩
      subst ex
      rw [hT, eL_0 (by omega)]
      refine ⟨fun q3 => ?_, fun q3 => key (Or.inr q3)⟩
      have g : cnH σ n md 6 = false := by
        by_cases g : cnH σ n md 6 = true
        · rcases cnH_0 6 g with a | a <;> omega
        · simpa using g
      rw [if_pos g] at hsp
      rw [hsp] at k0
      exact k0 rfl (show (-3 : Int32) < 0 by decide)
    · have hsp : spOpened σ (nI n) u = (-2, σ) := by unfold spOpened; rw [if_neg hno, if_pos (Or.inr (le_no q1))]
      rw [hsp] at k0
      exact k0 rfl (show (-2 : Int32) < 0 by decide)
theorem wu0 (i : Nat) : wu (fun _ => 0) i 0 = fun _ => 0 := by funext j; unfold wu; split <;> rfl

theorem x_file {m : Mm} {A : Nat → Nat} {σ τ : Sg} {a : Nat} {B : Nat → Nat} (h : RC0 m A σ) (hI : Inv σ) (hm : RM m a B τ) {v u : Int32} {P : Int32 → Mm → Prop} (k : ∀ m', RC0 m' A (spOpened σ v u).2 → RM m' a B τ → P (spOpened σ v u).1 m') : wp_ML_file m (A 0) v u P := by
  unfold wp_ML_file wp_ML_file_0
  have T0 := h.1.T0
  have T2 := h.1.T2
  have T9 := h.1.T9
  have R1 := h.1.R1_1
  have R2 := h.1.R2_2
  simp only [forall_eq, T0, T2, T9, R1, R2, true_and]
  refine ft_open (o := 0) h hI (Cl.rm a B τ) hm (by omega) (fun e _ => ?_) (fun i j f _ _ _ _ _ e m' r z _ => ?_)
  · refine k m ?_ hm
    rw [e]; exact h
  · rw [e] at k
    rw [wu0] at r
    exact k m' r z
theorem x_write {m : Mm} {A : Nat → Nat} {σ τ : Sg} {a : Nat} {B : Nat → Nat} (h : RC0 m A σ) (hI : Inv σ) (hm : RM m a B τ) {v u : Int32} {P : Int32 → Mm → Prop} (k : ∀ m', RC0 m' A (spWritten σ v u).2 → RM m' a B τ → P (spWritten σ v u).1 m') : wp_ML_write m (A 0) v u P := by
  unfold wp_ML_write wp_ML_write_0
  have T0 := h.1.T0
  have T2 := h.1.T2
  have T9 := h.1.T9
  have R1 := h.1.R1_1
  have R2 := h.1.R2_2
  simp only [forall_eq, T0, T2, T9, R1, R2, true_and]
  exact ft_put h hI (Cl.rm a B τ) hm (fun m' r z _ => k m' r z)
theorem x_read {m : Mm} {A : Nat → Nat} {σ τ : Sg} {a : Nat} {B : Nat → Nat} (h : RC0 m A σ) (hI : Inv σ) (hm : RM m a B τ) {v : Int32} {P : Int32 → Mm → Prop} (k : ∀ m', RC0 m' A (spTaken σ v).2 → RM m' a B τ → P (spTaken σ v).1 m') : wp_ML_read m (A 0) v P := by
  unfold wp_ML_read wp_ML_read_0
  have T0 := h.1.T0
  have T2 := h.1.T2
  have T9 := h.1.T9
  have R1 := h.1.R1_1
  have R2 := h.1.R2_2
  simp only [forall_eq, T0, T2, T9, R1, R2, true_and]
  exact ft_take h hI (Cl.rm a B τ) hm (fun m' r z _ => k m' r z)
theorem x_filter {m : Mm} {A : Nat → Nat} {σ τ : Sg} {a : Nat} {B : Nat → Nat} (h : RC0 m A σ) (hI : Inv σ) (hm : RM m a B τ) {v u : Int32} {P : Int32 → Mm → Prop} (k : ∀ m', RC0 m' A (spFiltered σ v u).2 → RM m' a B τ → P (spFiltered σ v u).1 m') : wp_ML_filter m (A 0) v u P := by
  unfold wp_ML_filter wp_ML_filter_0
  have T0 := h.1.T0
  have T2 := h.1.T2
  have T9 := h.1.T9
  have R1 := h.1.R1_1
  have R2 := h.1.R2_2
  simp only [forall_eq, T0, T2, T9, R1, R2, true_and]
  exact ft_filter h hI (Cl.rm a B τ) hm (fun m' r z _ => k m' r z)
theorem x_close {m : Mm} {A : Nat → Nat} {σ τ : Sg} {a : Nat} {B : Nat → Nat} (h : RC0 m A σ) (hI : Inv σ) (hm : RM m a B τ) {v : Int32} {P : Int32 → Mm → Prop} (k : ∀ m', RC0 m' A (spClose σ v).2 → RM m' a B τ → P (spClose σ v).1 m') : wp_ML_close m (A 0) v P := by
  unfold wp_ML_close wp_ML_close_0
  have T0 := h.1.T0
  have T2 := h.1.T2
  have T9 := h.1.T9
  have R1 := h.1.R1_1
  have R2 := h.1.R2_2
  simp only [forall_eq, T0, T2, T9, R1, R2, true_and]
  refine ft_shut h hI (fun e => ?_) (fun i i1 i2 i3 i4 e => ?_)
  · refine k m ?_ hm
    rw [e]; exact h
  · rw [e] at k
    have r := h.det (i := i) (by omega) (by omega)
    rw [wu0] at r
    exact k _ r ((Cl.rm a B τ).dt _ hm)
theorem x_output {m : Mm} {A : Nat → Nat} {σ τ : Sg} {a : Nat} {B : Nat → Nat} (h : RC0 m A σ) (hI : Inv σ) (hm : RM m a B τ) {v : Int32} {P : Int32 → Mm → Prop} (k : ∀ m', RC0 m' A (spOutput σ v).2 → RM m' a B τ → P (spOutput σ v).1 m') : wp_ML_output m (A 0) v P := by
  unfold wp_ML_output wp_ML_output_0
  have T0 := h.1.T0
  have T2 := h.1.T2
  have T9 := h.1.T9
  have R1 := h.1.R1_1
  have R2 := h.1.R2_2
  simp only [forall_eq, T0, T2, T9, R1, R2, true_and]
  unfold wp_FileTree_outputByte wp_FileTree_outputByte_0
  have R5 := h.1.R5_1
  have T11 := h.1.T11
  simp only [forall_eq, T9, R5, T11, true_and]
  unfold spOutput at k
  refine x_byteAt (h.stO hI) (fun q => ?_) (fun i q e => ?_)
  · rw [if_pos q] at k; exact k m h hm
  · subst e
    have := hI.out
    rw [if_neg (by rw [ltL_0 (by omega), c_le (by omega) (by omega)]; omega), nI_clamp (by omega)] at k
    rw [h.cs.2.2 i (by omega)]
    exact k m h hm
theorem x_lies {m : Mm} {A : Nat → Nat} {σ τ : Sg} {a : Nat} {B : Nat → Nat} (h : RC0 m A σ) (hI : Inv σ) (hm : RM m a B τ) {v u : Int32} {P : Int32 → Mm → Prop} (k : ∀ m', RC0 m' A (spLies σ v u).2 → RM m' a B τ → P (spLies σ v u).1 m') : wp_ML_lies m (A 0) v u P := by
  unfold wp_ML_lies wp_ML_lies_0
  have T0 := h.1.T0
  have T2 := h.1.T2
  have T9 := h.1.T9
  have R1 := h.1.R1_1
  have R2 := h.1.R2_2
  simp only [forall_eq, T0, T2, T9, R1, R2, true_and]
  unfold wp_FileTree_fileByte wp_FileTree_fileByte_0
  unfold spLies at k
  refine ⟨T9, x_store h.1 h.2.1 (fun q => ?_) (fun n hn e => ?_)⟩
  · rw [if_pos q] at k; exact ⟨fun _ => k m h hm, fun z => absurd rfl z⟩
  · subst e
    rw [if_neg (by rw [ltL_0 (by omega), gtL_9 (by omega)]; omega), nI_clamp (by omega)] at k
    refine ⟨fun q => absurd q (h.z30 hn), fun _ => ⟨(h.2.1.1 n (by omega)).2.1, ?_⟩⟩
    refine x_byteAt (h.stN hI hn) (fun q => ?_) (fun i q e => ?_)
    · rw [if_pos q] at k; exact k m h hm
    · subst e
      have := hI.len n
      rw [if_neg (by rw [ltL_0 (by omega), c_le (by omega) (by omega)]; omega), nI_clamp (by omega)] at k
      rw [(h.cs.1 n (by omega)).2.2 i (by omega)]
      exact k m h hm
theorem RC.ad {m : Mm} {A : Nat → Nat} {σ : Sg} {w : Nat → Nat} {c : Nat → Prop} (h : RC m A σ w c) {j : Nat} (hj : j < fF σ 2) (hl : fN σ 4 j < 200) (hsz : ∀ i, fN σ 4 i ≤ 200) {v : Int32} : RC (sI (wI m 24 (A (130 + j)) (fN σ 4 j) v) 8 2 (A (100 + j)) (nI (fN σ 4 j + 1))) A (uN (uD σ 3 (200 * j + fN σ 4 j) v) 4 j (fN σ 4 j + 1)) w c := by
  obtain ⟨h1, h2, h3, h4, h5, h6, h7, h8, h9, h10⟩ := h
  refine ⟨h1, h2, h3, h4, h5, h6, h7, h8, fun i hi => ?_, h10⟩
  have q := h9 i hi
  by_cases e : i = j
  · subst e
    refine ⟨?_, fun t ht => ?_⟩
    · simp (disch := omega) only [forall_eq, tg_sI, gI_sI, gR_sI, aI_sI, aR_sI, ln_sI, tg_sR, gI_sR, gR_sR, aI_sR, aR_sR, ln_sR, tg_wI, gI_wI, gR_wI, aI_wI, aR_wI, ln_wI, tg_wR, gI_wR, gR_wR, aI_wR, aR_wR, ln_wR, tg_wC, gI_wC, gR_wC, aI_wC, aR_wC, ln_wC, tg_nO, gI_nO, gR_nO, aI_nO, aR_nO, ln_nO, tg_nA, gI_nA, gR_nA, aI_nA, aR_nA, ln_nA, Nat.reduceEqDiff, reduceCtorEq, false_and, true_and, and_true, and_false, and_self, if_true, if_false, ↓reduceIte, forall_const, true_implies, imp_self, not_true, not_false_eq_true, implies_true, not_false, eq_self, Nat.reduceLT, Nat.reduceLeDiff, fF_uF, fN_uF, fD_uF, fM_uF, fF_uN, fN_uN, fD_uN, fM_uN, fF_uD, fN_uD, fD_uD, fM_uD, fF_uM, fN_uM, fD_uM, fM_uM]
    · have ht' : t < fN σ 4 i + 1 := by revert ht; simp (disch := omega) only [forall_eq, tg_sI, gI_sI, gR_sI, aI_sI, aR_sI, ln_sI, tg_sR, gI_sR, gR_sR, aI_sR, aR_sR, ln_sR, tg_wI, gI_wI, gR_wI, aI_wI, aR_wI, ln_wI, tg_wR, gI_wR, gR_wR, aI_wR, aR_wR, ln_wR, tg_wC, gI_wC, gR_wC, aI_wC, aR_wC, ln_wC, tg_nO, gI_nO, gR_nO, aI_nO, aR_nO, ln_nO, tg_nA, gI_nA, gR_nA, aI_nA, aR_nA, ln_nA, Nat.reduceEqDiff, reduceCtorEq, false_and, true_and, and_true, and_false, and_self, if_true, if_false, ↓reduceIte, forall_const, true_implies, imp_self, not_true, not_false_eq_true, implies_true, not_false, eq_self, Nat.reduceLT, Nat.reduceLeDiff, fF_uF, fN_uF, fD_uF, fM_uF, fF_uN, fN_uN, fD_uN, fM_uN, fF_uD, fN_uD, fD_uD, fM_uD, fF_uM, fN_uM, fD_uM, fM_uM]
      by_cases et : t = fN σ 4 i
      · subst et; simp (disch := omega) only [forall_eq, tg_sI, gI_sI, gR_sI, aI_sI, aR_sI, ln_sI, tg_sR, gI_sR, gR_sR, aI_sR, aR_sR, ln_sR, tg_wI, gI_wI, gR_wI, aI_wI, aR_wI, ln_wI, tg_wR, gI_wR, gR_wR, aI_wR, aR_wR, ln_wR, tg_wC, gI_wC, gR_wC, aI_wC, aR_wC, ln_wC, tg_nO, gI_nO, gR_nO, aI_nO, aR_nO, ln_nO, tg_nA, gI_nA, gR_nA, aI_nA, aR_nA, ln_nA, Nat.reduceEqDiff, reduceCtorEq, false_and, true_and, and_true, and_false, and_self, if_true, if_false, ↓reduceIte, forall_const, true_implies, imp_self, not_true, not_false_eq_true, implies_true, not_false, eq_self, Nat.reduceLT, Nat.reduceLeDiff, fF_uF, fN_uF, fD_uF, fM_uF, fF_uN, fN_uN, fD_uN, fM_uN, fF_uD, fN_uD, fD_uD, fM_uD, fF_uM, fN_uM, fD_uM, fM_uM]
      · have e2 : ¬ 200 * i + t = 200 * i + fN σ 4 i := by omega
        have := q.2 t (by omega)
        simp (disch := omega) only [forall_eq, tg_sI, gI_sI, gR_sI, aI_sI, aR_sI, ln_sI, tg_sR, gI_sR, gR_sR, aI_sR, aR_sR, ln_sR, tg_wI, gI_wI, gR_wI, aI_wI, aR_wI, ln_wI, tg_wR, gI_wR, gR_wR, aI_wR, aR_wR, ln_wR, tg_wC, gI_wC, gR_wC, aI_wC, aR_wC, ln_wC, tg_nO, gI_nO, gR_nO, aI_nO, aR_nO, ln_nO, tg_nA, gI_nA, gR_nA, aI_nA, aR_nA, ln_nA, Nat.reduceEqDiff, reduceCtorEq, false_and, true_and, and_true, and_false, and_self, if_true, if_false, ↓reduceIte, forall_const, true_implies, imp_self, not_true, not_false_eq_true, implies_true, not_false, eq_self, Nat.reduceLT, Nat.reduceLeDiff, fF_uF, fN_uF, fD_uF, fM_uF, fF_uN, fN_uN, fD_uN, fM_uN, fF_uD, fN_uD, fD_uD, fM_uD, fF_uM, fN_uM, fD_uM, fM_uM, et, e2]
        exact this
  · have ne : (A (100 + i) = A (100 + j)) = False := by rw [h2.e100 hi hj]; exact eq_false e
    have ne2 : (A (130 + i) = A (130 + j)) = False := by rw [h2.e130 hi hj]; exact eq_false e
    refine ⟨?_, fun t ht => ?_⟩
    · simp (disch := omega) only [forall_eq, tg_sI, gI_sI, gR_sI, aI_sI, aR_sI, ln_sI, tg_sR, gI_sR, gR_sR, aI_sR, aR_sR, ln_sR, tg_wI, gI_wI, gR_wI, aI_wI, aR_wI, ln_wI, tg_wR, gI_wR, gR_wR, aI_wR, aR_wR, ln_wR, tg_wC, gI_wC, gR_wC, aI_wC, aR_wC, ln_wC, tg_nO, gI_nO, gR_nO, aI_nO, aR_nO, ln_nO, tg_nA, gI_nA, gR_nA, aI_nA, aR_nA, ln_nA, Nat.reduceEqDiff, reduceCtorEq, false_and, true_and, and_true, and_false, and_self, if_true, if_false, ↓reduceIte, forall_const, true_implies, imp_self, not_true, not_false_eq_true, implies_true, not_false, eq_self, Nat.reduceLT, Nat.reduceLeDiff, fF_uF, fN_uF, fD_uF, fM_uF, fF_uN, fN_uN, fD_uN, fM_uN, fF_uD, fN_uD, fD_uD, fM_uD, fF_uM, fN_uM, fD_uM, fM_uM, ne, e]; exact q.1
    · have ht' : t < fN σ 4 i := by revert ht; simp (disch := omega) only [forall_eq, tg_sI, gI_sI, gR_sI, aI_sI, aR_sI, ln_sI, tg_sR, gI_sR, gR_sR, aI_sR, aR_sR, ln_sR, tg_wI, gI_wI, gR_wI, aI_wI, aR_wI, ln_wI, tg_wR, gI_wR, gR_wR, aI_wR, aR_wR, ln_wR, tg_wC, gI_wC, gR_wC, aI_wC, aR_wC, ln_wC, tg_nO, gI_nO, gR_nO, aI_nO, aR_nO, ln_nO, tg_nA, gI_nA, gR_nA, aI_nA, aR_nA, ln_nA, Nat.reduceEqDiff, reduceCtorEq, false_and, true_and, and_true, and_false, and_self, if_true, if_false, ↓reduceIte, forall_const, true_implies, imp_self, not_true, not_false_eq_true, implies_true, not_false, eq_self, Nat.reduceLT, Nat.reduceLeDiff, fF_uF, fN_uF, fD_uF, fM_uF, fF_uN, fN_uN, fD_uN, fM_uN, fF_uD, fN_uD, fD_uD, fM_uD, fF_uM, fN_uM, fD_uM, fM_uM, e]
      have := q.2 t ht'
      have e2 : ¬ 200 * i + t = 200 * j + fN σ 4 j := by
        intro e2
        have := ht'
        exact e (by have := hsz i; omega)
      simp (disch := omega) only [forall_eq, tg_sI, gI_sI, gR_sI, aI_sI, aR_sI, ln_sI, tg_sR, gI_sR, gR_sR, aI_sR, aR_sR, ln_sR, tg_wI, gI_wI, gR_wI, aI_wI, aR_wI, ln_wI, tg_wR, gI_wR, gR_wR, aI_wR, aR_wR, ln_wR, tg_wC, gI_wC, gR_wC, aI_wC, aR_wC, ln_wC, tg_nO, gI_nO, gR_nO, aI_nO, aR_nO, ln_nO, tg_nA, gI_nA, gR_nA, aI_nA, aR_nA, ln_nA, Nat.reduceEqDiff, reduceCtorEq, false_and, true_and, and_true, and_false, and_self, if_true, if_false, ↓reduceIte, forall_const, true_implies, imp_self, not_true, not_false_eq_true, implies_true, not_false, eq_self, Nat.reduceLT, Nat.reduceLeDiff, fF_uF, fN_uF, fD_uF, fM_uF, fF_uN, fN_uN, fD_uN, fM_uN, fF_uD, fN_uD, fD_uD, fM_uD, fF_uM, fN_uM, fD_uM, fM_uM, ne2, e2]
      exact this

theorem x_add {m : Mm} {A : Nat → Nat} {σ τ : Sg} {a : Nat} {B : Nat → Nat} (h : RC0 m A σ) (hI : Inv σ) (hm : RM m a B τ) {v b : Int32} {P : Int32 → Mm → Prop} (k : ∀ m', RC0 m' A (spAdd σ v b).2 → RM m' a B τ → P (spAdd σ v b).1 m') : wp_ML_add m (A 0) v b P := by
  unfold wp_ML_add wp_ML_add_0
  refine ⟨h.1.T0, x_jobOrNull h hI (fun q => ?_) (fun j q1 q2 => ?_)⟩
  · simp only [spAdd, jx_none q] at k
    exact ⟨fun _ => k m h hm, fun z => absurd rfl z⟩
  · subst q2
    simp only [spAdd, jx_some hI q1] at k
    refine ⟨fun z => absurd z (h.nz q1), fun _ => ?_⟩
    obtain ⟨-, T8, R80, -, T24, L24, -, -⟩ := h.2.1.2.2.1 j q1
    obtain ⟨t0, -, -, -, -, -, -⟩ := h.2.2.2.2.2.2.2.2.2 j q1 trivial
    obtain ⟨s0, -⟩ := h.2.2.2.2.2.2.2.2.1 j q1
    have to := hI.told (6 * j)
    have sz := hI.size j
    refine ⟨T8, fun u eu => ?_⟩
    rw [t0] at eu
    subst eu
    rw [eL_0 (by omega)]
    refine ⟨fun q => ⟨T8, ?_⟩, fun q => by rw [if_pos (by omega)] at k; exact k m h hm⟩
    rw [if_neg (by omega)] at k
    unfold wp_Job_append wp_Job_append_0
    simp only [forall_eq, T8, s0, R80, T24, L24, true_and]
    rw [ltL_200 (by omega)]
    refine ⟨fun q1' => ?_, fun q1' => by rw [if_pos (by omega)] at k; exact k m h hm⟩
    rw [if_neg (by omega)] at k
    simp (disch := omega) only [forall_eq, c_inT, tg_wI, gI_wI, gI_sI, tg_sI, T8, s0, nI_clamp, nI_1, nI_add, true_and, and_self, if_true]
    exact k _ (h.ad q1 q1' hI.size) ((hm.oW (by decide) _ _ _).oI (by decide) _ _ _)