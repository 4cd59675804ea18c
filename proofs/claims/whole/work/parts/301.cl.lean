abbrev RC0 (m : Mm) (A : Nat → Nat) (σ : Sg) : Prop := RC m A σ (fun _ => 0) (fun _ => True)
theorem x_jobOrNull {m : Mm} {A : Nat → Nat} {σ : Sg} {w : Nat → Nat} {c : Nat → Prop} (h : RC m A σ w c) (hI : Inv σ) {v : Int32} {P : Nat → Mm → Prop} (hn : (v < 0 ∨ nI (fF σ 2) ≤ v) → P 0 m) (hy : ∀ j : Nat, j < fF σ 2 → v = nI j → P (A (100 + j)) m) : wp_ML_jobOrNull m (A 0) v P := by
  unfold wp_ML_jobOrNull wp_ML_jobOrNull_0 wp_ML_jobOrNull_18
  have hj := hI.jobs
  have T0 := h.1.T0
  have T1 := h.1.T1
  have L1 := h.1.L1
  have R0 := h.1.R1_0
  have c1 := h.2.2.1.1
  refine ⟨fun z => hn (Or.inl z), fun z => ?_⟩
  simp (disch := omega) only [forall_eq, T0, c1, true_and]
  refine ⟨fun z1 => hn (Or.inr z1), fun z1 => ?_⟩
  rcases pk_ix v (n := fF σ 2) (by omega) with q | q | ⟨j, q1, q2⟩
  · exact absurd q z
  · exact absurd q z1
  · subst q2
    have hjj := (h.2.1.2.2.1 j q1).1
    simp (disch := omega) only [forall_eq, tg_sI, gI_sI, gR_sI, aI_sI, aR_sI, ln_sI, tg_sR, gI_sR, gR_sR, aI_sR, aR_sR, ln_sR, tg_wI, gI_wI, gR_wI, aI_wI, aR_wI, ln_wI, tg_wR, gI_wR, gR_wR, aI_wR, aR_wR, ln_wR, tg_wC, gI_wC, gR_wC, aI_wC, aR_wC, ln_wC, tg_nO, gI_nO, gR_nO, aI_nO, aR_nO, ln_nO, tg_nA, gI_nA, gR_nA, aI_nA, aR_nA, ln_nA, Nat.reduceEqDiff, reduceCtorEq, false_and, true_and, and_true, and_false, and_self, if_true, if_false, ↓reduceIte, forall_const, true_implies, imp_self, not_true, not_false_eq_true, implies_true, not_false, eq_self, Nat.reduceLT, Nat.reduceLeDiff, T0, T1, L1, R0, hjj, c_mul2, c_mul3, c_mul6, c_mul10, c_mul40, c_mul100, c_mul200, c_add2, c_add3, c_add4, c_add5, nI_1, nI_add, nI_clamp, c_sub1, c_eq, c_le, c_lt, zz, nb0, nb1, eL_0, ltL_0, gtL_0, leL_0, geL_0, eL_1, ltL_1, gtL_1, leL_1, geL_1, eL_2, ltL_2, gtL_2, leL_2, geL_2, eL_3, ltL_3, gtL_3, leL_3, geL_3, eL_4, ltL_4, gtL_4, leL_4, geL_4, eL_5, ltL_5, gtL_5, leL_5, geL_5, eL_6, ltL_6, gtL_6, leL_6, geL_6, eL_7, ltL_7, gtL_7, leL_7, geL_7, eL_8, ltL_8, gtL_8, leL_8, geL_8, eL_9, ltL_9, gtL_9, leL_9, geL_9, eL_10, ltL_10, gtL_10, leL_10, geL_10, eL_16, ltL_16, gtL_16, leL_16, geL_16, eL_20, ltL_20, gtL_20, leL_20, geL_20, eL_32, ltL_32, gtL_32, leL_32, geL_32, eL_40, ltL_40, gtL_40, leL_40, geL_40, eL_100, ltL_100, gtL_100, leL_100, geL_100, eL_200, ltL_200, gtL_200, leL_200, geL_200, eL_255, ltL_255, gtL_255, leL_255, geL_255, eL_256, ltL_256, gtL_256, leL_256, geL_256, eL_400, ltL_400, gtL_400, leL_400, geL_400, eL_9999, ltL_9999, gtL_9999, leL_9999, geL_9999, eL_20000, ltL_20000, gtL_20000, leL_20000, geL_20000, iL_0, tL_0, iL_1, tL_1, iL_2, tL_2, iL_3, tL_3, iL_4, tL_4, iL_5, tL_5, iL_6, tL_6, iL_7, tL_7, c_inT]
    exact ⟨fun _ => hy j q1 rfl, fun z => absurd (by omega) z⟩
theorem RC.nz {m : Mm} {A : Nat → Nat} {σ : Sg} {w : Nat → Nat} {c : Nat → Prop} (h : RC m A σ w c) {j : Nat} (hj : j < fF σ 2) : A (100 + j) ≠ 0 := h.2.1.2.2.2.2 _ (by unfold dmA; omega)

theorem x_ended {m : Mm} {A : Nat → Nat} {σ τ : Sg} {a : Nat} {B : Nat → Nat} (h : RC0 m A σ) (hI : Inv σ) (hm : RM m a B τ) {v u : Int32} {P : Int32 → Mm → Prop} (k : ∀ m', RC0 m' A (spEnded σ v u).2 → RM m' a B τ → P (spEnded σ v u).1 m') : wp_ML_ended m (A 0) v u P := by
  unfold wp_ML_ended wp_ML_ended_0
  refine ⟨h.1.T0, x_jobOrNull h hI (fun q => ?_) (fun j q1 q2 => ?_)⟩
  · simp only [spEnded, jx_none q] at k
    exact ⟨fun _ => k m h hm, fun z => absurd rfl z⟩
  · subst q2
    simp only [spEnded, jx_some hI q1] at k
    refine ⟨fun z => absurd z (h.nz q1), fun _ => ?_⟩
    obtain ⟨-, T8, -, -, -, -, -, -⟩ := h.2.1.2.2.1 j q1
    obtain ⟨t0, t1, t2, t3, t4, t5, -⟩ := h.2.2.2.2.2.2.2.2.2 j q1 trivial
    simp only [forall_eq, T8, t0, t1, t2, t3, t4, t5, true_and]
    refine ⟨fun e => ?_, fun e0 => ⟨fun e => ?_, fun e1 => ⟨fun e => ?_, fun e2 => ⟨fun e => ?_, fun e3 => ⟨fun e => ?_, fun e4 => ⟨fun e => ?_, fun e5 => ?_⟩⟩⟩⟩⟩⟩
    · subst e; rw [if_neg (by decide)] at k; exact k m h hm
    · subst e; rw [if_neg (by decide)] at k; exact k m h hm
    · subst e; rw [if_neg (by decide)] at k; exact k m h hm
    · subst e; rw [if_neg (by decide)] at k; exact k m h hm
    · subst e; rw [if_neg (by decide)] at k; exact k m h hm
    · subst e; rw [if_neg (by decide)] at k; exact k m h hm
    · by_cases q : u < 0 ∨ 5 < u
      · rw [if_pos q] at k; exact k m h hm
      · obtain ⟨i, hi, rfl⟩ := ix_of (v := u) (hi := 5) (n := 5) rfl (fun z => q (Or.inl z)) (fun z => q (Or.inr z))
        rw [eL_0 (by omega)] at e0
        rw [eL_1 (by omega)] at e1
        rw [eL_2 (by omega)] at e2
        rw [eL_3 (by omega)] at e3
        rw [eL_4 (by omega)] at e4
        rw [eL_5 (by omega)] at e5
        omega
theorem x_page {m : Mm} {A : Nat → Nat} {σ τ : Sg} {a : Nat} {B : Nat → Nat} (h : RC0 m A σ) (hI : Inv σ) (hm : RM m a B τ) {v i : Int32} {P : Int32 → Mm → Prop} (k : ∀ m', RC0 m' A (spPage σ v i).2 → RM m' a B τ → P (spPage σ v i).1 m') : wp_ML_page m (A 0) v i P := by
  unfold wp_ML_page wp_ML_page_0 wp_Job_marksOf wp_Job_marksOf_0 wp_Job_marksOf_12
  refine ⟨h.1.T0, x_jobOrNull h hI (fun q => ?_) (fun j q1 q2 => ?_)⟩
  · simp only [spPage, jx_none q] at k
    exact ⟨fun _ => k m h hm, fun z => absurd rfl z⟩
  · subst q2
    simp only [spPage, jx_some hI q1] at k
    refine ⟨fun z => absurd z (h.nz q1), fun _ => ?_⟩
    have hp := hI.pages j
    obtain ⟨-, T8, -, R81, -, -, T25, L25⟩ := h.2.1.2.2.1 j q1
    obtain ⟨-, -, -, t3, -, -, tp⟩ := h.2.2.2.2.2.2.2.2.2 j q1 trivial
    simp only [forall_eq, T8, t3, R81, T25, L25, true_and]
    refine ⟨fun z => ?_, fun z => ⟨fun z1 => ?_, fun z1 => ?_⟩⟩
    · rw [if_pos (Or.inl z)] at k; exact k m h hm
    · rw [if_neg (by rintro (q | q); exact z q; simp only [Int32.le_iff_toInt_le, Int32.lt_iff_toInt_lt] at *; omega)] at k
      rcases pk_ix i (n := fN σ 5 (6 * j + 3)) (by omega) with q | q | ⟨i', e1, e2⟩
      · exact absurd q z
      · exact absurd q (by simp only [Int32.le_iff_toInt_le, Int32.lt_iff_toInt_lt] at *; omega)
      · subst e2
        rw [nI_clamp (by omega)] at k
        rw [nI_clamp (by omega), tp i' e1]
        exact ⟨c_in (by decide) (by omega), k m h hm⟩
    · rw [if_pos (Or.inr (lt_no z1))] at k; exact k m h hm
theorem tab1 : tab_1 0 = 0 ∧ tab_1 1 = 1 ∧ tab_1 2 = 0 ∧ tab_1 3 = 0 := ⟨rfl, rfl, rfl, rfl⟩
theorem tab2 : tab_2 0 = 3 ∧ tab_2 1 = 9 ∧ tab_2 2 = 1 ∧ tab_2 3 = 1 := ⟨rfl, rfl, rfl, rfl⟩
theorem RC.set {m : Mm} {A : Nat → Nat} {σ : Sg} {w : Nat → Nat} {c : Nat → Prop} (h : RC m A σ w c) (i v : Nat) : RC (wI m 14 (A 4) i (nI v)) A (uN σ 7 i v) w c := by
  obtain ⟨h1, h2, h3, h4, h5, h6, h7, h8, h9, h10⟩ := h
  refine ⟨h1, h2, h3, fun j hj => ?_, h5, h6, h7, h8, h9, h10⟩
  rw [aI_wI, fN_uN]
  by_cases e : j = i
  · subst e; simp
  · rw [if_neg (fun q => e q.2.2), if_neg (fun q => e q.2)]; exact h4 j hj
/-- the device: a setting and a number for it, or not -/
theorem x_change {m : Mm} {A : Nat → Nat} (hS : ShF m A) {s v : Int32} {P : Int32 → Mm → Prop} (kn : ¬ okS s v → P 0 m) (ky : ∀ i j : Nat, i ≤ 3 → j ≤ 9 → s = nI i → v = nI j → okS s v → P 1 (wI m 14 (A 4) i (nI j))) : wp_Device_change m (A 3) s v P := by
  unfold wp_Device_change wp_Device_change_0
  have T3 := hS.T3
  have T4 := hS.T4
  have L4 := hS.L4
  have R := hS.R3_0
  refine ⟨fun z => kn ?_, fun z => ⟨fun z1 => ?_, fun z1 => kn ?_⟩⟩
  · rintro (⟨rfl, -⟩ | ⟨rfl, -⟩ | ⟨rfl | rfl, -⟩) <;> revert z <;> decide
  · rcases pk_ix s (n := 4) (by decide) with q | q | ⟨i, hi, rfl⟩
    · exact absurd q z
    · exact absurd z1 (by have : (nI 4 : Int32) = 4 := rfl; rw [this] at q; simp only [Int32.le_iff_toInt_le, Int32.lt_iff_toInt_lt] at *; omega)
    · have hy : okS (nI i) v → ∃ j : Nat, j ≤ 9 ∧ v = nI j := fun q => by
        obtain ⟨i', j, -, h2, -, h3, -⟩ := okS_nat q; exact ⟨j, h2, h3⟩
      rw [nI_clamp (by omega)]
      simp (disch := omega) only [forall_eq, c_inT, true_and, T3, T4, L4, R]
      rcases (show i = 0 ∨ i = 1 ∨ i = 2 ∨ i = 3 by omega) with rfl | rfl | rfl | rfl
      all_goals
        first | rw [tab1.1, tab2.1] | rw [tab1.2.1, tab2.2.1] | rw [tab1.2.2.1, tab2.2.2.1] | rw [tab1.2.2.2, tab2.2.2.2]
        refine ⟨fun a1 => kn ?_, fun a1 => ⟨fun a2 => ?_, fun a2 => kn ?_⟩⟩
      · rintro (⟨-, b1, -⟩ | ⟨e, -⟩ | ⟨e | e, -⟩); exact b1 a1; all_goals exact absurd e (by decide)
      · have ok : okS (nI 0) v := Or.inl ⟨rfl, a1, fun q => by simp only [Int32.le_iff_toInt_le, Int32.lt_iff_toInt_lt] at *; omega⟩
        obtain ⟨j, j9, rfl⟩ := hy ok
        exact ky 0 j (by decide) j9 rfl rfl ok
      · rintro (⟨-, -, b1⟩ | ⟨e, -⟩ | ⟨e | e, -⟩); exact b1 (le_no a2); all_goals exact absurd e (by decide)
      · rintro (⟨e, -⟩ | ⟨-, b1, -⟩ | ⟨e | e, -⟩); exact absurd e (by decide); exact b1 a1; all_goals exact absurd e (by decide)
      · have ok : okS (nI 1) v := Or.inr (Or.inl ⟨rfl, a1, fun q => by simp only [Int32.le_iff_toInt_le, Int32.lt_iff_toInt_lt] at *; omega⟩)
        obtain ⟨j, j9, rfl⟩ := hy ok
        exact ky 1 j (by decide) j9 rfl rfl ok
      · rintro (⟨e, -⟩ | ⟨-, -, b1⟩ | ⟨e | e, -⟩); exact absurd e (by decide); exact b1 (le_no a2); all_goals exact absurd e (by decide)
      · rintro (⟨e, -⟩ | ⟨e, -⟩ | ⟨-, b1, -⟩); exact absurd e (by decide); exact absurd e (by decide); exact b1 a1
      · have ok : okS (nI 2) v := Or.inr (Or.inr ⟨Or.inl rfl, a1, fun q => by simp only [Int32.le_iff_toInt_le, Int32.lt_iff_toInt_lt] at *; omega⟩)
        obtain ⟨j, j9, rfl⟩ := hy ok
        exact ky 2 j (by decide) j9 rfl rfl ok
      · rintro (⟨e, -⟩ | ⟨e, -⟩ | ⟨-, -, b1⟩); exact absurd e (by decide); exact absurd e (by decide); exact b1 (le_no a2)
      · rintro (⟨e, -⟩ | ⟨e, -⟩ | ⟨-, b1, -⟩); exact absurd e (by decide); exact absurd e (by decide); exact b1 a1
      · have ok : okS (nI 3) v := Or.inr (Or.inr ⟨Or.inr rfl, a1, fun q => by simp only [Int32.le_iff_toInt_le, Int32.lt_iff_toInt_lt] at *; omega⟩)
        obtain ⟨j, j9, rfl⟩ := hy ok
        exact ky 3 j (by decide) j9 rfl rfl ok
      · rintro (⟨e, -⟩ | ⟨e, -⟩ | ⟨-, -, b1⟩); exact absurd e (by decide); exact absurd e (by decide); exact b1 (le_no a2)
  · rintro (⟨rfl, -⟩ | ⟨rfl, -⟩ | ⟨rfl | rfl, -⟩) <;> revert z1 <;> decide

theorem x_device {m : Mm} {A : Nat → Nat} {σ τ : Sg} {a : Nat} {B : Nat → Nat} (h : RC0 m A σ) (hI : Inv σ) (hm : RM m a B τ) {s v : Int32} {P : Int32 → Mm → Prop} (k : ∀ m', RC0 m' A (spDevice σ s v).2 → RM m' a B τ → P (spDevice σ s v).1 m') : wp_ML_device m (A 0) s v P := by
  unfold wp_ML_device wp_ML_device_0
  have T0 := h.1.T0
  have T2 := h.1.T2
  have T3 := h.1.T3
  have R1 := h.1.R1_1
  have R2 := h.1.R2_0
  simp only [forall_eq, T0, T2, T3, R1, R2, true_and]
  unfold spDevice at k
  refine x_change h.1 (fun q => ?_) (fun i j h1 h2 e1 e2 q => ?_)
  · rw [if_neg q] at k; exact ⟨fun _ => k m h hm, fun z => absurd rfl z⟩
  · rw [if_pos q, e1, e2, nI_clamp (by omega), nI_clamp (by omega)] at k
    exact ⟨fun z => absurd z (by decide), fun _ => k _ (h.set i j) (hm.oW (by decide) _ _ _)⟩
theorem RC.res {m : Mm} {A : Nat → Nat} {σ : Sg} {w : Nat → Nat} {c : Nat → Prop} (h : RC m A σ w c) (i : Nat) (v : Int32) : RC (wI m 16 (A 7) i v) A (uD σ 8 i v) w c := by
  obtain ⟨h1, h2, h3, h4, h5, h6, h7, h8, h9, h10⟩ := h
  refine ⟨h1, h2, h3, h4, fun j hj => ?_, h6, h7, h8, h9, h10⟩
  rw [aI_wI, fD_uD]
  by_cases e : j = i
  · subst e; simp
  · rw [if_neg (fun q => e q.2.2), if_neg (fun q => e q.2)]; exact h5 j hj
theorem x_slot {m : Mm} {x y : Int32} {P : Int32 → Mm → Prop} (kn : (x < 0 ∨ 3 < x ∨ y < 0 ∨ 9 < y) → P (-1) m) (ky : ∀ i j : Nat, i ≤ 3 → j ≤ 9 → x = nI i → y = nI j → P (nI (10 * i + j)) m) : wp_Resources_slotOf m x y P := by
  unfold wp_Resources_slotOf wp_Resources_slotOf_0
  refine ⟨fun z => kn (Or.inl z), fun z => ⟨fun z1 => kn (Or.inr (Or.inl ?_)), fun z1 => ⟨fun z2 => kn (Or.inr (Or.inr (Or.inl z2))), fun z2 => ⟨fun z3 => ?_, fun z3 => kn (Or.inr (Or.inr (Or.inr ?_)))⟩⟩⟩⟩
  · have e1 : (4 : Int32).toInt = 4 := rfl
    have e2 : (3 : Int32).toInt = 3 := rfl
    simp only [Int32.le_iff_toInt_le, Int32.lt_iff_toInt_lt] at *; omega
  · rcases pk_ix x (n := 4) (by decide) with q | q | ⟨i, hi, rfl⟩
    · exact absurd q z
    · exact absurd q z1
    · rcases pk_ix y (n := 10) (by decide) with q | q | ⟨j, hj, rfl⟩
      · exact absurd q z2
      · exact absurd z3 (by have : (nI 10 : Int32) = 10 := rfl; rw [this] at q; simp only [Int32.le_iff_toInt_le, Int32.lt_iff_toInt_lt] at *; omega)
      · intro u eu t et
        subst eu et
        have : nI i * 10 + nI j = nI (10 * i + j) := by
          have e : (10 : Int32) = nI 10 := rfl
          rw [e, pk_mul, nI_add, Nat.mul_comm]
        rw [this]
        exact ky i j (by omega) (by omega) rfl rfl
  · have e1 : (10 : Int32).toInt = 10 := rfl
    have e2 : (9 : Int32).toInt = 9 := rfl
    simp only [Int32.le_iff_toInt_le, Int32.lt_iff_toInt_lt] at *; omega
theorem n_m1 {n : Nat} (h : n < 2 ^ 31) : ¬ nI n = (-1 : Int32) := fun q => by
  have := nI_pos h
  rw [q] at this
  exact this (by decide)
/-- a resource gets a value -/
theorem x_put {m : Mm} {A : Nat → Nat} (hS : ShF m A) {x y v : Int32} {P : Int32 → Mm → Prop} (k1 : (x < 0 ∨ 3 < x ∨ y < 0 ∨ 9 < y) → P (-1) m) (k2 : ¬ (x < 0 ∨ 3 < x ∨ y < 0 ∨ 9 < y) → (v < 0 ∨ 9999 < v) → P (-2) m) (k3 : ¬ (x < 0 ∨ 3 < x ∨ y < 0 ∨ 9 < y) → ¬ (v < 0 ∨ 9999 < v) → P 1 (wI m 16 (A 7) (10 * x.toNatClampNeg + y.toNatClampNeg) v)) : wp_Resources_put m (A 6) x y v P := by
  unfold wp_Resources_put wp_Resources_put_0
  have T6 := hS.T6
  have T7 := hS.T7
  have L7 := hS.L7
  have R := hS.R4_0
  refine x_slot (fun q => ⟨fun _ => k1 q, fun z => absurd rfl z⟩) (fun i j hi hj e1 e2 => ?_)
  have hno : ¬ (x < 0 ∨ 3 < x ∨ y < 0 ∨ 9 < y) := by
    rw [e1, e2, ltL_0 (by omega), gtL_3 (by omega), ltL_0 (by omega), gtL_9 (by omega)]; omega
  rw [e1, e2] at k3 hno k2
  rw [nI_clamp (by omega), nI_clamp (by omega)] at k3
  refine ⟨fun z => absurd z (n_m1 (by omega)), fun _ => ⟨fun z => k2 hno (Or.inl z), fun z => ⟨fun z1 => ?_, fun z1 => k2 hno (Or.inr (le_no z1))⟩⟩⟩
  simp (disch := omega) only [forall_eq, T6, T7, L7, R, true_and, c_inT, nI_clamp]
  exact k3 hno (by rintro (q | q); exact z q; simp only [Int32.le_iff_toInt_le, Int32.lt_iff_toInt_lt] at *; omega)
theorem x_value {m : Mm} {A : Nat → Nat} (hS : ShF m A) {σ : Sg} (hR : CR m A σ) (hI : Inv σ) {x y : Int32} {P : Int32 → Mm → Prop} (k : P (spResource σ x y).1 m) : wp_Resources_valueAt m (A 6) x y P := by
  unfold wp_Resources_valueAt wp_Resources_valueAt_0
  have T6 := hS.T6
  have T7 := hS.T7
  have L7 := hS.L7
  have R := hS.R4_0
  unfold spResource at k
  refine x_slot (fun q => ⟨fun _ => by rw [if_pos q] at k; exact k, fun z => absurd rfl z⟩) (fun i j hi hj e1 e2 => ?_)
  subst e1 e2
  rw [if_neg (by rw [ltL_0 (by omega), gtL_3 (by omega), ltL_0 (by omega), gtL_9 (by omega)]; omega), nI_clamp (by omega), nI_clamp (by omega)] at k
  refine ⟨fun z => absurd z (n_m1 (by omega)), fun _ => ?_⟩
  have hv := hR (10 * i + j) (by omega)
  simp (disch := omega) only [forall_eq, T6, T7, L7, R, true_and, c_inT, nI_clamp, hv]
  refine ⟨fun z => ?_, fun z => ?_⟩
  · rw [if_pos (by rw [z]; decide)] at k; exact k
  · rw [if_neg (by rcases hI.res (10 * i + j) with q | q; exact absurd q z; exact in0 q)] at k; exact k

theorem x_define {m : Mm} {A : Nat → Nat} {σ τ : Sg} {a : Nat} {B : Nat → Nat} (h : RC0 m A σ) (hI : Inv σ) (hm : RM m a B τ) {x y v : Int32} {P : Int32 → Mm → Prop} (k : ∀ m', RC0 m' A (spDefine σ x y v).2 → RM m' a B τ → P (spDefine σ x y v).1 m') : wp_ML_define m (A 0) x y v P := by
  unfold wp_ML_define wp_ML_define_0
  have T0 := h.1.T0
  have T2 := h.1.T2
  have T6 := h.1.T6
  have R1 := h.1.R1_1
  have R2 := h.1.R2_1
  simp only [forall_eq, T0, T2, T6, R1, R2, true_and]
  unfold spDefine at k
  refine x_put h.1 (fun q => ?_) (fun q q1 => ?_) (fun q q1 => ?_)
  · rw [if_pos q] at k; exact k m h hm
  · rw [if_neg q, if_pos q1] at k; exact k m h hm
  · rw [if_neg q, if_neg q1] at k; exact k _ (h.res _ v) (hm.oW (by decide) _ _ _)
theorem x_resource {m : Mm} {A : Nat → Nat} {σ τ : Sg} {a : Nat} {B : Nat → Nat} (h : RC0 m A σ) (hI : Inv σ) (hm : RM m a B τ) {x y : Int32} {P : Int32 → Mm → Prop} (k : ∀ m', RC0 m' A (spResource σ x y).2 → RM m' a B τ → P (spResource σ x y).1 m') : wp_ML_resource m (A 0) x y P := by
  unfold wp_ML_resource wp_ML_resource_0
  have T0 := h.1.T0
  have T2 := h.1.T2
  have T6 := h.1.T6
  have R1 := h.1.R1_1
  have R2 := h.1.R2_1
  simp only [forall_eq, T0, T2, T6, R1, R2, true_and]
  refine x_value h.1 h.2.2.2.2.1 hI ?_
  rw [spResource_st] at k
  exact k m h hm
theorem x_startFails {m : Mm} {A : Nat → Nat} {σ τ : Sg} {a : Nat} {B : Nat → Nat} (h : RC0 m A σ) (hI : Inv σ) (hm : RM m a B τ) {v : Int32} (hv : v = 0 ∨ v = 1) {P : Int32 → Mm → Prop} (k : ∀ m', RC0 m' A (spStart σ v).2 → RM m' a B τ → P (spStart σ v).1 m') : wp_ML_startFails m (A 0) v P := by
  unfold wp_ML_startFails wp_ML_startFails_0
  have T0 := h.1.T0
  have c2 := h.2.2.1.2.1
  have hf := hI.fails
  have hb : (nI (fF σ 24) = 0 ∨ nI (fF σ 24) = 1) := by rcases (show fF σ 24 = 0 ∨ fF σ 24 = 1 by omega) with e | e <;> rw [e]; exact Or.inl rfl; exact Or.inr rfl
  simp only [forall_eq, T0, c2, true_and, hv, hb]
  unfold spStart at k
  obtain ⟨h1, h2, h3, h4, h5, h6, h7, h8, h9, h10⟩ := h
  refine k _ ⟨h1, h2, ⟨h3.1, ?_, h3.2.2⟩, h4, h5, h6, h7, h8, h9, h10⟩ (hm.oI (by decide) _ _ _)
  rw [gI_sI, if_pos ⟨rfl, rfl, rfl⟩]
  rcases hv with rfl | rfl <;> rfl
