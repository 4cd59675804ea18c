def spEnded (σ : Sg) (v w : Int32) : Int32 × Sg := match jx σ v with
  | none => (-1, σ)
  | some j => if w < 0 ∨ 5 < w then (-2, σ) else (nI (fN σ 5 (6 * j + w.toNatClampNeg)), σ)
theorem w_ended {m : Mm} {a : Nat} {B : Nat → Nat} {Z : Mm → Prop} {σ : Sg} (h : RZ Z m a B σ) (hI : Inv σ) {v w : Int32} {P : Int32 → Mm → Prop} (k : ∀ m', RZ Z m' a B (spEnded σ v w).2 → P (spEnded σ v w).1 m') : wp_Mo_ended m a v w P := by
  unfold wp_Mo_ended wp_Mo_ended_0
  refine ⟨h.1, fun m1 e1 => ?_⟩
  subst e1
  replace h := h.code 0
  generalize sI m 11 0 a 0 = m at h ⊢
  refine ⟨h.1, w_noJob h hI (fun q => ?_) (fun j q1 q2 => ?_)⟩
  · refine ⟨fun q => absurd q (by decide), fun _ => ?_⟩
    simp only [spEnded, jx_none q] at k
    exact k m h
  · subst q2
    refine ⟨fun _ => ?_, fun q => absurd rfl q⟩
    have hj := hI.jobs
    simp only [spEnded, jx_some hI q1] at k
    refine w_in (fun q => ?_) (fun q3 q4 => ?_)
    · rw [if_pos q] at k
      exact ⟨fun _ => k m h, fun q => absurd rfl q⟩
    · rw [if_neg (by rintro (q | q); exact q3 q; exact q4 q)] at k
      obtain ⟨i, hi, rfl⟩ := ix_of (n := 5) rfl q3 q4
      rw [nI_clamp (by omega)] at k
      refine ⟨fun q => absurd q (by decide), fun _ => ?_⟩
      have r5 : gR m 11 5 a = B 5 := (h.2.1 5 (by decide)).1
      have t5 : tg m (B 5) = 30 := (h.2.1 5 (by decide)).2.1
      have l5 : ln m (B 5) = 120 := (h.2.1 5 (by decide)).2.2
      have n5 : ∀ i, i < 120 → aI m 30 (B 5) i = nI (fN σ 5 i) := h.2.2.2.2.1 5 (by decide)
      simp (disch := omega) only [forall_eq, tg_sI, gI_sI, gR_sI, aI_sI, aR_sI, ln_sI, tg_sR, gI_sR, gR_sR, aI_sR, aR_sR, ln_sR, tg_wI, gI_wI, gR_wI, aI_wI, aR_wI, ln_wI, tg_wR, gI_wR, gR_wR, aI_wR, aR_wR, ln_wR, tg_wC, gI_wC, gR_wC, aI_wC, aR_wC, ln_wC, tg_nO, gI_nO, gR_nO, aI_nO, aR_nO, ln_nO, tg_nA, gI_nA, gR_nA, aI_nA, aR_nA, ln_nA, Nat.reduceEqDiff, reduceCtorEq, false_and, true_and, and_true, and_false, and_self, if_true, if_false, ↓reduceIte, forall_const, true_implies, imp_self, not_true, not_false_eq_true, implies_true, not_false, eq_self, Nat.reduceLT, Nat.reduceLeDiff, h.1, r5, t5, l5, n5, c_mul2, c_mul3, c_mul6, c_mul10, c_mul40, c_mul100, c_mul200, c_add2, c_add3, c_add4, c_add5, nI_1, nI_add, nI_clamp, c_sub1, c_eq, c_le, c_lt, zz, nb0, nb1, eL_0, ltL_0, gtL_0, leL_0, geL_0, eL_1, ltL_1, gtL_1, leL_1, geL_1, eL_2, ltL_2, gtL_2, leL_2, geL_2, eL_3, ltL_3, gtL_3, leL_3, geL_3, eL_4, ltL_4, gtL_4, leL_4, geL_4, eL_5, ltL_5, gtL_5, leL_5, geL_5, eL_6, ltL_6, gtL_6, leL_6, geL_6, eL_7, ltL_7, gtL_7, leL_7, geL_7, eL_8, ltL_8, gtL_8, leL_8, geL_8, eL_9, ltL_9, gtL_9, leL_9, geL_9, eL_10, ltL_10, gtL_10, leL_10, geL_10, eL_16, ltL_16, gtL_16, leL_16, geL_16, eL_20, ltL_20, gtL_20, leL_20, geL_20, eL_32, ltL_32, gtL_32, leL_32, geL_32, eL_40, ltL_40, gtL_40, leL_40, geL_40, eL_100, ltL_100, gtL_100, leL_100, geL_100, eL_200, ltL_200, gtL_200, leL_200, geL_200, eL_255, ltL_255, gtL_255, leL_255, geL_255, eL_256, ltL_256, gtL_256, leL_256, geL_256, eL_400, ltL_400, gtL_400, leL_400, geL_400, eL_9999, ltL_9999, gtL_9999, leL_9999, geL_9999, eL_20000, ltL_20000, gtL_20000, leL_20000, geL_20000, iL_0, tL_0, iL_1, tL_1, iL_2, tL_2, iL_3, tL_3, iL_4, tL_4, iL_5, tL_5, iL_6, tL_6, iL_7, tL_7, c_inT]
      exact k m h
def spPage (σ : Sg) (v i : Int32) : Int32 × Sg := match jx σ v with
  | none => (0, σ)
  | some j => if i < 0 ∨ nI (fN σ 5 (6 * j + 3)) ≤ i then (0, σ) else (fD σ 6 (40 * j + i.toNatClampNeg), σ)
theorem w_page {m : Mm} {a : Nat} {B : Nat → Nat} {Z : Mm → Prop} {σ : Sg} (h : RZ Z m a B σ) (hI : Inv σ) {v i : Int32} {P : Int32 → Mm → Prop} (k : ∀ m', RZ Z m' a B (spPage σ v i).2 → P (spPage σ v i).1 m') : wp_Mo_page m a v i P := by
  unfold wp_Mo_page wp_Mo_page_0 wp_Mo_page_32
  refine ⟨h.1, fun m1 e1 => ?_⟩
  subst e1
  replace h := h.code 0
  generalize sI m 11 0 a 0 = m at h ⊢
  refine ⟨h.1, w_noJob h hI (fun q => ?_) (fun j q1 q2 => ?_)⟩
  · refine ⟨fun q => absurd q (by decide), fun _ => ?_⟩
    simp only [spPage, jx_none q] at k
    exact k m h
  · subst q2
    refine ⟨fun _ => ?_, fun q => absurd rfl q⟩
    have hj := hI.jobs
    have hp := hI.pages j
    simp only [spPage, jx_some hI q1] at k
    refine ⟨fun q => ?_, fun q => ?_⟩
    · rw [if_pos (Or.inl q)] at k
      exact k m h
    · have hlt : 6 * j + 3 < 120 := by omega
      have r5 : gR m 11 5 a = B 5 := (h.2.1 5 (by decide)).1
      have t5 : tg m (B 5) = 30 := (h.2.1 5 (by decide)).2.1
      have l5 : ln m (B 5) = 120 := (h.2.1 5 (by decide)).2.2
      have n5 : ∀ i, i < 120 → aI m 30 (B 5) i = nI (fN σ 5 i) := h.2.2.2.2.1 5 (by decide)
      have r6 : gR m 11 6 a = B 6 := (h.2.1 6 (by decide)).1
      have t6 : tg m (B 6) = 31 := (h.2.1 6 (by decide)).2.1
      have l6 : ln m (B 6) = 800 := (h.2.1 6 (by decide)).2.2
      have n6 : ∀ i, i < 800 → aI m 31 (B 6) i = fD σ 6 i := h.2.2.2.2.2.1 6 (by decide)
      simp (disch := omega) only [forall_eq, tg_sI, gI_sI, gR_sI, aI_sI, aR_sI, ln_sI, tg_sR, gI_sR, gR_sR, aI_sR, aR_sR, ln_sR, tg_wI, gI_wI, gR_wI, aI_wI, aR_wI, ln_wI, tg_wR, gI_wR, gR_wR, aI_wR, aR_wR, ln_wR, tg_wC, gI_wC, gR_wC, aI_wC, aR_wC, ln_wC, tg_nO, gI_nO, gR_nO, aI_nO, aR_nO, ln_nO, tg_nA, gI_nA, gR_nA, aI_nA, aR_nA, ln_nA, Nat.reduceEqDiff, reduceCtorEq, false_and, true_and, and_true, and_false, and_self, if_true, if_false, ↓reduceIte, forall_const, true_implies, imp_self, not_true, not_false_eq_true, implies_true, not_false, eq_self, Nat.reduceLT, Nat.reduceLeDiff, h.1, r5, t5, l5, n5, r6, t6, l6, n6, c_mul2, c_mul3, c_mul6, c_mul10, c_mul40, c_mul100, c_mul200, c_add2, c_add3, c_add4, c_add5, nI_1, nI_add, nI_clamp, c_sub1, c_eq, c_le, c_lt, zz, nb0, nb1, eL_0, ltL_0, gtL_0, leL_0, geL_0, eL_1, ltL_1, gtL_1, leL_1, geL_1, eL_2, ltL_2, gtL_2, leL_2, geL_2, eL_3, ltL_3, gtL_3, leL_3, geL_3, eL_4, ltL_4, gtL_4, leL_4, geL_4, eL_5, ltL_5, gtL_5, leL_5, geL_5, eL_6, ltL_6, gtL_6, leL_6, geL_6, eL_7, ltL_7, gtL_7, leL_7, geL_7, eL_8, ltL_8, gtL_8, leL_8, geL_8, eL_9, ltL_9, gtL_9, leL_9, geL_9, eL_10, ltL_10, gtL_10, leL_10, geL_10, eL_16, ltL_16, gtL_16, leL_16, geL_16, eL_20, ltL_20, gtL_20, leL_20, geL_20, eL_32, ltL_32, gtL_32, leL_32, geL_32, eL_40, ltL_40, gtL_40, leL_40, geL_40, eL_100, ltL_100, gtL_100, leL_100, geL_100, eL_200, ltL_200, gtL_200, leL_200, geL_200, eL_255, ltL_255, gtL_255, leL_255, geL_255, eL_256, ltL_256, gtL_256, leL_256, geL_256, eL_400, ltL_400, gtL_400, leL_400, geL_400, eL_9999, ltL_9999, gtL_9999, leL_9999, geL_9999, eL_20000, ltL_20000, gtL_20000, leL_20000, geL_20000, iL_0, tL_0, iL_1, tL_1, iL_2, tL_2, iL_3, tL_3, iL_4, tL_4, iL_5, tL_5, iL_6, tL_6, iL_7, tL_7, c_inT]
      refine ⟨fun q3 => ?_, fun q3 => ?_⟩
      · rw [if_neg (by rintro (z | z); exact q z; simp only [Int32.le_iff_toInt_le, Int32.lt_iff_toInt_lt] at *; omega)] at k
        rcases pk_ix i (n := fN σ 5 (6 * j + 3)) (by omega) with z | z | ⟨i', z1, z2⟩
        · exact absurd z q
        · exact absurd z (by simp only [Int32.le_iff_toInt_le, Int32.lt_iff_toInt_lt] at *; omega)
        · subst z2
          rw [nI_clamp (by omega)] at k
          simp (disch := omega) only [forall_eq, tg_sI, gI_sI, gR_sI, aI_sI, aR_sI, ln_sI, tg_sR, gI_sR, gR_sR, aI_sR, aR_sR, ln_sR, tg_wI, gI_wI, gR_wI, aI_wI, aR_wI, ln_wI, tg_wR, gI_wR, gR_wR, aI_wR, aR_wR, ln_wR, tg_wC, gI_wC, gR_wC, aI_wC, aR_wC, ln_wC, tg_nO, gI_nO, gR_nO, aI_nO, aR_nO, ln_nO, tg_nA, gI_nA, gR_nA, aI_nA, aR_nA, ln_nA, Nat.reduceEqDiff, reduceCtorEq, false_and, true_and, and_true, and_false, and_self, if_true, if_false, ↓reduceIte, forall_const, true_implies, imp_self, not_true, not_false_eq_true, implies_true, not_false, eq_self, Nat.reduceLT, Nat.reduceLeDiff, h.1, r5, t5, l5, n5, r6, t6, l6, n6, c_mul2, c_mul3, c_mul6, c_mul10, c_mul40, c_mul100, c_mul200, c_add2, c_add3, c_add4, c_add5, nI_1, nI_add, nI_clamp, c_sub1, c_eq, c_le, c_lt, zz, nb0, nb1, eL_0, ltL_0, gtL_0, leL_0, geL_0, eL_1, ltL_1, gtL_1, leL_1, geL_1, eL_2, ltL_2, gtL_2, leL_2, geL_2, eL_3, ltL_3, gtL_3, leL_3, geL_3, eL_4, ltL_4, gtL_4, leL_4, geL_4, eL_5, ltL_5, gtL_5, leL_5, geL_5, eL_6, ltL_6, gtL_6, leL_6, geL_6, eL_7, ltL_7, gtL_7, leL_7, geL_7, eL_8, ltL_8, gtL_8, leL_8, geL_8, eL_9, ltL_9, gtL_9, leL_9, geL_9, eL_10, ltL_10, gtL_10, leL_10, geL_10, eL_16, ltL_16, gtL_16, leL_16, geL_16, eL_20, ltL_20, gtL_20, leL_20, geL_20, eL_32, ltL_32, gtL_32, leL_32, geL_32, eL_40, ltL_40, gtL_40, leL_40, geL_40, eL_100, ltL_100, gtL_100, leL_100, geL_100, eL_200, ltL_200, gtL_200, leL_200, geL_200, eL_255, ltL_255, gtL_255, leL_255, geL_255, eL_256, ltL_256, gtL_256, leL_256, geL_256, eL_400, ltL_400, gtL_400, leL_400, geL_400, eL_9999, ltL_9999, gtL_9999, leL_9999, geL_9999, eL_20000, ltL_20000, gtL_20000, leL_20000, geL_20000, iL_0, tL_0, iL_1, tL_1, iL_2, tL_2, iL_3, tL_3, iL_4, tL_4, iL_5, tL_5, iL_6, tL_6, iL_7, tL_7, c_inT]
          exact k m h
      · rw [if_pos (Or.inr (lt_no q3))] at k
        exact k m h
abbrev okS (s v : Int32) : Prop := (s = 0 ∧ ¬ v < 0 ∧ ¬ 3 < v) ∨ (s = 1 ∧ ¬ v < 1 ∧ ¬ 9 < v) ∨ ((s = 2 ∨ s = 3) ∧ ¬ v < 0 ∧ ¬ 1 < v)
theorem w_isSetting {m : Mm} {s v : Int32} {P : Int32 → Mm → Prop} (hn : ¬ okS s v → P 0 m) (hy : okS s v → P 1 m) : wp_Mo_isSetting m s v P := by
  unfold wp_Mo_isSetting wp_Mo_isSetting_0 wp_Mo_isSetting_38
  refine ⟨fun e => w_in (fun q => ⟨Or.inl rfl, hn ?_⟩) (fun q1 q2 => ⟨Or.inr rfl, hy (Or.inl ⟨e, q1, q2⟩)⟩), fun e => ⟨fun e1 => w_in (fun q => ⟨Or.inl rfl, hn ?_⟩) (fun q1 q2 => ⟨Or.inr rfl, hy (Or.inr (Or.inl ⟨e1, q1, q2⟩))⟩), fun e1 => ⟨fun e2 => w_in (fun q => ⟨fun _ => hn ?_, fun z => absurd rfl z⟩) (fun q1 q2 => ⟨fun z => absurd z (by decide), fun _ => hy (Or.inr (Or.inr ⟨Or.inl e2, q1, q2⟩))⟩), fun e2 => ⟨fun e3 => w_in (fun q => ⟨fun _ => hn ?_, fun z => absurd rfl z⟩) (fun q1 q2 => ⟨fun z => absurd z (by decide), fun _ => hy (Or.inr (Or.inr ⟨Or.inr e3, q1, q2⟩))⟩), fun e3 => hn ?_⟩⟩⟩⟩
  · subst e; rintro (⟨-, a, b⟩ | ⟨c, -, -⟩ | ⟨c | c, -, -⟩)
    · exact q.elim a b
    all_goals exact absurd c (by decide)
  · subst e1; rintro (⟨c, -, -⟩ | ⟨-, a, b⟩ | ⟨c | c, -, -⟩)
    · exact absurd c (by decide)
    · exact q.elim a b
    all_goals exact absurd c (by decide)
  · subst e2; rintro (⟨c, -, -⟩ | ⟨c, -, -⟩ | ⟨-, a, b⟩)
    · exact absurd c (by decide)
    · exact absurd c (by decide)
    · exact q.elim a b
  · subst e3; rintro (⟨c, -, -⟩ | ⟨c, -, -⟩ | ⟨-, a, b⟩)
    · exact absurd c (by decide)
    · exact absurd c (by decide)
    · exact q.elim a b
  · rintro (⟨c, -, -⟩ | ⟨c, -, -⟩ | ⟨c | c, -, -⟩)
    · exact e c
    · exact e1 c
    · exact e2 c
    · exact e3 c
theorem okS_nat {s v : Int32} (h : okS s v) : ∃ i j : Nat, i ≤ 3 ∧ j ≤ 9 ∧ s = nI i ∧ v = nI j ∧ ((i = 0 ∧ j ≤ 3) ∨ (i = 1 ∧ 1 ≤ j) ∨ (2 ≤ i ∧ j ≤ 1)) := by
  rcases h with ⟨rfl, a, b⟩ | ⟨rfl, a, b⟩ | ⟨c, a, b⟩
  · obtain ⟨j, hj, rfl⟩ := ix_of (n := 3) rfl a b
    exact ⟨0, j, by omega, by omega, rfl, rfl, Or.inl ⟨rfl, hj⟩⟩
  · obtain ⟨j, hj, rfl⟩ := ix_of (n := 9) rfl (fun z => a (by simp only [Int32.lt_iff_toInt_lt, Int32.toInt_zero, show (1 : Int32).toInt = 1 from rfl] at *; omega)) b
    refine ⟨1, j, by omega, by omega, rfl, rfl, Or.inr (Or.inl ⟨rfl, ?_⟩)⟩
    rw [ltL_1 (by omega)] at a; omega
  · obtain ⟨j, hj, rfl⟩ := ix_of (n := 1) rfl a b
    rcases c with rfl | rfl
    · exact ⟨2, j, by omega, by omega, rfl, rfl, Or.inr (Or.inr ⟨by omega, hj⟩)⟩
    · exact ⟨3, j, by omega, by omega, rfl, rfl, Or.inr (Or.inr ⟨by omega, hj⟩)⟩
def spDevice (σ : Sg) (s v : Int32) : Int32 × Sg := if okS s v then (1, uN σ 7 s.toNatClampNeg v.toNatClampNeg) else (0, σ)
theorem w_device {m : Mm} {a : Nat} {B : Nat → Nat} {Z : Mm → Prop} {σ : Sg} (h : RZ Z m a B σ) (hI : Inv σ) {s v : Int32} {P : Int32 → Mm → Prop} (k : ∀ m', RZ Z m' a B (spDevice σ s v).2 → P (spDevice σ s v).1 m') : wp_Mo_device m a s v P := by
  unfold wp_Mo_device wp_Mo_device_0
  refine ⟨h.1, fun m1 e1 => ?_⟩
  subst e1
  replace h := h.code 0
  generalize sI m 11 0 a 0 = m at h ⊢
  unfold spDevice at k
  refine w_isSetting (fun q => ?_) (fun q => ?_)
  · rw [if_neg q] at k
    exact ⟨fun _ => k m h, fun z => absurd rfl z⟩
  · rw [if_pos q] at k
    obtain ⟨i, j, h1, h2, rfl, rfl, -⟩ := okS_nat q
    refine ⟨fun z => absurd z (by decide), fun _ => ?_⟩
    rw [nI_clamp (by omega), nI_clamp (by omega)] at k
    have r7 : gR m 11 7 a = B 7 := (h.2.1 7 (by decide)).1
    have t7 : tg m (B 7) = 32 := (h.2.1 7 (by decide)).2.1
    have l7 : ln m (B 7) = 4 := (h.2.1 7 (by decide)).2.2
    have n7 : ∀ i, i < 4 → aI m 32 (B 7) i = nI (fN σ 7 i) := h.2.2.2.2.1 7 (by decide)
    simp (disch := omega) only [forall_eq, tg_sI, gI_sI, gR_sI, aI_sI, aR_sI, ln_sI, tg_sR, gI_sR, gR_sR, aI_sR, aR_sR, ln_sR, tg_wI, gI_wI, gR_wI, aI_wI, aR_wI, ln_wI, tg_wR, gI_wR, gR_wR, aI_wR, aR_wR, ln_wR, tg_wC, gI_wC, gR_wC, aI_wC, aR_wC, ln_wC, tg_nO, gI_nO, gR_nO, aI_nO, aR_nO, ln_nO, tg_nA, gI_nA, gR_nA, aI_nA, aR_nA, ln_nA, Nat.reduceEqDiff, reduceCtorEq, false_and, true_and, and_true, and_false, and_self, if_true, if_false, ↓reduceIte, forall_const, true_implies, imp_self, not_true, not_false_eq_true, implies_true, not_false, eq_self, Nat.reduceLT, Nat.reduceLeDiff, h.1, r7, t7, l7, n7, c_mul2, c_mul3, c_mul6, c_mul10, c_mul40, c_mul100, c_mul200, c_add2, c_add3, c_add4, c_add5, nI_1, nI_add, nI_clamp, c_sub1, c_eq, c_le, c_lt, zz, nb0, nb1, eL_0, ltL_0, gtL_0, leL_0, geL_0, eL_1, ltL_1, gtL_1, leL_1, geL_1, eL_2, ltL_2, gtL_2, leL_2, geL_2, eL_3, ltL_3, gtL_3, leL_3, geL_3, eL_4, ltL_4, gtL_4, leL_4, geL_4, eL_5, ltL_5, gtL_5, leL_5, geL_5, eL_6, ltL_6, gtL_6, leL_6, geL_6, eL_7, ltL_7, gtL_7, leL_7, geL_7, eL_8, ltL_8, gtL_8, leL_8, geL_8, eL_9, ltL_9, gtL_9, leL_9, geL_9, eL_10, ltL_10, gtL_10, leL_10, geL_10, eL_16, ltL_16, gtL_16, leL_16, geL_16, eL_20, ltL_20, gtL_20, leL_20, geL_20, eL_32, ltL_32, gtL_32, leL_32, geL_32, eL_40, ltL_40, gtL_40, leL_40, geL_40, eL_100, ltL_100, gtL_100, leL_100, geL_100, eL_200, ltL_200, gtL_200, leL_200, geL_200, eL_255, ltL_255, gtL_255, leL_255, geL_255, eL_256, ltL_256, gtL_256, leL_256, geL_256, eL_400, ltL_400, gtL_400, leL_400, geL_400, eL_9999, ltL_9999, gtL_9999, leL_9999, geL_9999, eL_20000, ltL_20000, gtL_20000, leL_20000, geL_20000, iL_0, tL_0, iL_1, tL_1, iL_2, tL_2, iL_3, tL_3, iL_4, tL_4, iL_5, tL_5, iL_6, tL_6, iL_7, tL_7, c_inT]
    exact k _ (h.wN 7 i j (by decide))
def spDefine (σ : Sg) (c n v : Int32) : Int32 × Sg := if c < 0 ∨ 3 < c ∨ n < 0 ∨ 9 < n then (-1, σ) else if v < 0 ∨ 9999 < v then (-2, σ) else (1, uD σ 8 (10 * c.toNatClampNeg + n.toNatClampNeg) v)
theorem w_define {m : Mm} {a : Nat} {B : Nat → Nat} {Z : Mm → Prop} {σ : Sg} (h : RZ Z m a B σ) (hI : Inv σ) {c n v : Int32} {P : Int32 → Mm → Prop} (k : ∀ m', RZ Z m' a B (spDefine σ c n v).2 → P (spDefine σ c n v).1 m') : wp_Mo_define m a c n v P := by
  unfold wp_Mo_define wp_Mo_define_0
  refine ⟨h.1, fun m1 e1 => ?_⟩
  subst e1
  replace h := h.code 0
  generalize sI m 11 0 a 0 = m at h ⊢
  unfold spDefine at k
  refine w_in (fun q => ?_) (fun q1 q2 => ?_)
  · rw [if_pos (by rcases q with q | q; exact Or.inl q; exact Or.inr (Or.inl q))] at k
    exact ⟨fun _ => k m h, fun z => absurd rfl z⟩
  · refine ⟨fun z => absurd z (by decide), fun _ => ?_⟩
    refine w_in (fun q => ?_) (fun q3 q4 => ?_)
    · rw [if_pos (by rcases q with q | q; exact Or.inr (Or.inr (Or.inl q)); exact Or.inr (Or.inr (Or.inr q)))] at k
      exact ⟨fun _ => k m h, fun z => absurd rfl z⟩
    · refine ⟨fun z => absurd z (by decide), fun _ => ?_⟩
      rw [if_neg (by rintro (z | z | z | z); exact q1 z; exact q2 z; exact q3 z; exact q4 z)] at k
      refine w_in (fun q => ?_) (fun q5 q6 => ?_)
      · rw [if_pos q] at k
        exact ⟨fun _ => k m h, fun z => absurd rfl z⟩
      · rw [if_neg (by rintro (z | z); exact q5 z; exact q6 z)] at k
        refine ⟨fun z => absurd z (by decide), fun _ => ?_⟩
        obtain ⟨i, hi, rfl⟩ := ix_of (n := 3) rfl q1 q2
        obtain ⟨j, hj, rfl⟩ := ix_of (n := 9) rfl q3 q4
        rw [nI_clamp (by omega), nI_clamp (by omega)] at k
        have r8 : gR m 11 8 a = B 8 := (h.2.1 8 (by decide)).1
        have t8 : tg m (B 8) = 33 := (h.2.1 8 (by decide)).2.1
        have l8 : ln m (B 8) = 40 := (h.2.1 8 (by decide)).2.2
        have n8 : ∀ i, i < 40 → aI m 33 (B 8) i = fD σ 8 i := h.2.2.2.2.2.1 8 (by decide)
        simp (disch := omega) only [forall_eq, tg_sI, gI_sI, gR_sI, aI_sI, aR_sI, ln_sI, tg_sR, gI_sR, gR_sR, aI_sR, aR_sR, ln_sR, tg_wI, gI_wI, gR_wI, aI_wI, aR_wI, ln_wI, tg_wR, gI_wR, gR_wR, aI_wR, aR_wR, ln_wR, tg_wC, gI_wC, gR_wC, aI_wC, aR_wC, ln_wC, tg_nO, gI_nO, gR_nO, aI_nO, aR_nO, ln_nO, tg_nA, gI_nA, gR_nA, aI_nA, aR_nA, ln_nA, Nat.reduceEqDiff, reduceCtorEq, false_and, true_and, and_true, and_false, and_self, if_true, if_false, ↓reduceIte, forall_const, true_implies, imp_self, not_true, not_false_eq_true, implies_true, not_false, eq_self, Nat.reduceLT, Nat.reduceLeDiff, h.1, r8, t8, l8, n8, c_mul2, c_mul3, c_mul6, c_mul10, c_mul40, c_mul100, c_mul200, c_add2, c_add3, c_add4, c_add5, nI_1, nI_add, nI_clamp, c_sub1, c_eq, c_le, c_lt, zz, nb0, nb1, eL_0, ltL_0, gtL_0, leL_0, geL_0, eL_1, ltL_1, gtL_1, leL_1, geL_1, eL_2, ltL_2, gtL_2, leL_2, geL_2, eL_3, ltL_3, gtL_3, leL_3, geL_3, eL_4, ltL_4, gtL_4, leL_4, geL_4, eL_5, ltL_5, gtL_5, leL_5, geL_5, eL_6, ltL_6, gtL_6, leL_6, geL_6, eL_7, ltL_7, gtL_7, leL_7, geL_7, eL_8, ltL_8, gtL_8, leL_8, geL_8, eL_9, ltL_9, gtL_9, leL_9, geL_9, eL_10, ltL_10, gtL_10, leL_10, geL_10, eL_16, ltL_16, gtL_16, leL_16, geL_16, eL_20, ltL_20, gtL_20, leL_20, geL_20, eL_32, ltL_32, gtL_32, leL_32, geL_32, eL_40, ltL_40, gtL_40, leL_40, geL_40, eL_100, ltL_100, gtL_100, leL_100, geL_100, eL_200, ltL_200, gtL_200, leL_200, geL_200, eL_255, ltL_255, gtL_255, leL_255, geL_255, eL_256, ltL_256, gtL_256, leL_256, geL_256, eL_400, ltL_400, gtL_400, leL_400, geL_400, eL_9999, ltL_9999, gtL_9999, leL_9999, geL_9999, eL_20000, ltL_20000, gtL_20000, leL_20000, geL_20000, iL_0, tL_0, iL_1, tL_1, iL_2, tL_2, iL_3, tL_3, iL_4, tL_4, iL_5, tL_5, iL_6, tL_6, iL_7, tL_7, c_inT]
        exact k _ (h.wD 8 _ _ (by decide))
def spResource (σ : Sg) (c n : Int32) : Int32 × Sg := if c < 0 ∨ 3 < c ∨ n < 0 ∨ 9 < n then (-1, σ) else if fD σ 8 (10 * c.toNatClampNeg + n.toNatClampNeg) < 0 then (-3, σ) else (fD σ 8 (10 * c.toNatClampNeg + n.toNatClampNeg), σ)
theorem w_resource {m : Mm} {a : Nat} {B : Nat → Nat} {Z : Mm → Prop} {σ : Sg} (h : RZ Z m a B σ) (hI : Inv σ) {c n : Int32} {P : Int32 → Mm → Prop} (k : ∀ m', RZ Z m' a B (spResource σ c n).2 → P (spResource σ c n).1 m') : wp_Mo_resource m a c n P := by
  unfold wp_Mo_resource wp_Mo_resource_0
  refine ⟨h.1, fun m1 e1 => ?_⟩
  subst e1
  replace h := h.code 0
  generalize sI m 11 0 a 0 = m at h ⊢
  unfold spResource at k
  refine w_in (fun q => ?_) (fun q1 q2 => ?_)
  · rw [if_pos (by rcases q with q | q; exact Or.inl q; exact Or.inr (Or.inl q))] at k
    exact ⟨fun _ => k m h, fun z => absurd rfl z⟩
  · refine ⟨fun z => absurd z (by decide), fun _ => ?_⟩
    refine w_in (fun q => ?_) (fun q3 q4 => ?_)
    · rw [if_pos (by rcases q with q | q; exact Or.inr (Or.inr (Or.inl q)); exact Or.inr (Or.inr (Or.inr q)))] at k
      exact ⟨fun _ => k m h, fun z => absurd rfl z⟩
    · refine ⟨fun z => absurd z (by decide), fun _ => ?_⟩
      rw [if_neg (by rintro (z | z | z | z); exact q1 z; exact q2 z; exact q3 z; exact q4 z)] at k
      obtain ⟨i, hi, rfl⟩ := ix_of (n := 3) rfl q1 q2
      obtain ⟨j, hj, rfl⟩ := ix_of (n := 9) rfl q3 q4
      rw [nI_clamp (by omega), nI_clamp (by omega)] at k
      have r8 : gR m 11 8 a = B 8 := (h.2.1 8 (by decide)).1
      have t8 : tg m (B 8) = 33 := (h.2.1 8 (by decide)).2.1
      have l8 : ln m (B 8) = 40 := (h.2.1 8 (by decide)).2.2
      have n8 : ∀ i, i < 40 → aI m 33 (B 8) i = fD σ 8 i := h.2.2.2.2.2.1 8 (by decide)
      simp (disch := omega) only [forall_eq, tg_sI, gI_sI, gR_sI, aI_sI, aR_sI, ln_sI, tg_sR, gI_sR, gR_sR, aI_sR, aR_sR, ln_sR, tg_wI, gI_wI, gR_wI, aI_wI, aR_wI, ln_wI, tg_wR, gI_wR, gR_wR, aI_wR, aR_wR, ln_wR, tg_wC, gI_wC, gR_wC, aI_wC, aR_wC, ln_wC, tg_nO, gI_nO, gR_nO, aI_nO, aR_nO, ln_nO, tg_nA, gI_nA, gR_nA, aI_nA, aR_nA, ln_nA, Nat.reduceEqDiff, reduceCtorEq, false_and, true_and, and_true, and_false, and_self, if_true, if_false, ↓reduceIte, forall_const, true_implies, imp_self, not_true, not_false_eq_true, implies_true, not_false, eq_self, Nat.reduceLT, Nat.reduceLeDiff, h.1, r8, t8, l8, n8, c_mul2, c_mul3, c_mul6, c_mul10, c_mul40, c_mul100, c_mul200, c_add2, c_add3, c_add4, c_add5, nI_1, nI_add, nI_clamp, c_sub1, c_eq, c_le, c_lt, zz, nb0, nb1, eL_0, ltL_0, gtL_0, leL_0, geL_0, eL_1, ltL_1, gtL_1, leL_1, geL_1, eL_2, ltL_2, gtL_2, leL_2, geL_2, eL_3, ltL_3, gtL_3, leL_3, geL_3, eL_4, ltL_4, gtL_4, leL_4, geL_4, eL_5, ltL_5, gtL_5, leL_5, geL_5, eL_6, ltL_6, gtL_6, leL_6, geL_6, eL_7, ltL_7, gtL_7, leL_7, geL_7, eL_8, ltL_8, gtL_8, leL_8, geL_8, eL_9, ltL_9, gtL_9, leL_9, geL_9, eL_10, ltL_10, gtL_10, leL_10, geL_10, eL_16, ltL_16, gtL_16, leL_16, geL_16, eL_20, ltL_20, gtL_20, leL_20, geL_20, eL_32, ltL_32, gtL_32, leL_32, geL_32, eL_40, ltL_40, gtL_40, leL_40, geL_40, eL_100, ltL_100, gtL_100, leL_100, geL_100, eL_200, ltL_200, gtL_200, leL_200, geL_200, eL_255, ltL_255, gtL_255, leL_255, geL_255, eL_256, ltL_256, gtL_256, leL_256, geL_256, eL_400, ltL_400, gtL_400, leL_400, geL_400, eL_9999, ltL_9999, gtL_9999, leL_9999, geL_9999, eL_20000, ltL_20000, gtL_20000, leL_20000, geL_20000, iL_0, tL_0, iL_1, tL_1, iL_2, tL_2, iL_3, tL_3, iL_4, tL_4, iL_5, tL_5, iL_6, tL_6, iL_7, tL_7, c_inT]
      refine ⟨fun z => ?_, fun z => ?_⟩
      · rw [if_neg (by simp only [Int32.le_iff_toInt_le, Int32.lt_iff_toInt_lt] at *; omega)] at k
        exact k m h
      · rw [if_pos (by simp only [Int32.le_iff_toInt_le, Int32.lt_iff_toInt_lt] at *; omega)] at k
        exact k m h
