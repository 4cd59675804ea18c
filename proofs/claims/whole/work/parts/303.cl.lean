/-! THE CLASS: what a write does to the relation -/
def wu (w : Nat → Nat) (h v : Nat) : Nat → Nat := fun i => if i = h then v else w i
theorem RC.ww {m : Mm} {A : Nat → Nat} {σ : Sg} {w : Nat → Nat} {c : Nat → Prop} {w' : Nat → Nat} (h : RC m A σ w c) (e : ∀ i, 1 ≤ i → i < 8 → w' i = w i) : RC m A σ w' c := by
  obtain ⟨h1, h2, h3, h4, h5, h6, h7, h8, h9, h10⟩ := h
  exact ⟨h1, h2, h3, h4, h5, h6, h7, fun i a1 a2 => by rw [e i a1 a2]; exact h8 i a1 a2, h9, h10⟩
theorem RC.det {m : Mm} {A : Nat → Nat} {σ : Sg} {w : Nat → Nat} {c : Nat → Prop} (h : RC m A σ w c) {i : Nat} (i1 : 1 ≤ i) (i2 : i < 8) : RC (dtM m (A (50 + i))) A (uN σ 16 i 0) (wu w i 0) c := by
  obtain ⟨h1, h2, h3, h4, h5, h6, h7, h8, h9, h10⟩ := h
  refine ⟨h1, h2, h3, h4, h5, h6, fun j a1 a2 => ?_, fun j a1 a2 => ?_, h9, h10⟩
  · have q := h7 j a1 a2
    by_cases e : j = i
    · subst e
      refine ⟨fun _ => ?_, fun z => absurd ?_ z, q.2.2⟩
      · unfold dtM; simp (disch := omega) only [forall_eq, tg_sI, gI_sI, gR_sI, aI_sI, aR_sI, ln_sI, tg_sR, gI_sR, gR_sR, aI_sR, aR_sR, ln_sR, tg_wI, gI_wI, gR_wI, aI_wI, aR_wI, ln_wI, tg_wR, gI_wR, gR_wR, aI_wR, aR_wR, ln_wR, tg_wC, gI_wC, gR_wC, aI_wC, aR_wC, ln_wC, tg_nO, gI_nO, gR_nO, aI_nO, aR_nO, ln_nO, tg_nA, gI_nA, gR_nA, aI_nA, aR_nA, ln_nA, Nat.reduceEqDiff, reduceCtorEq, false_and, true_and, and_true, and_false, and_self, if_true, if_false, ↓reduceIte, forall_const, true_implies, imp_self, not_true, not_false_eq_true, implies_true, not_false, eq_self, Nat.reduceLT, Nat.reduceLeDiff, fF_uF, fN_uF, fD_uF, fM_uF, fF_uN, fN_uN, fD_uN, fM_uN, fF_uD, fN_uD, fD_uD, fM_uD, fF_uM, fN_uM, fD_uM, fM_uM]
      · simp (disch := omega) only [forall_eq, tg_sI, gI_sI, gR_sI, aI_sI, aR_sI, ln_sI, tg_sR, gI_sR, gR_sR, aI_sR, aR_sR, ln_sR, tg_wI, gI_wI, gR_wI, aI_wI, aR_wI, ln_wI, tg_wR, gI_wR, gR_wR, aI_wR, aR_wR, ln_wR, tg_wC, gI_wC, gR_wC, aI_wC, aR_wC, ln_wC, tg_nO, gI_nO, gR_nO, aI_nO, aR_nO, ln_nO, tg_nA, gI_nA, gR_nA, aI_nA, aR_nA, ln_nA, Nat.reduceEqDiff, reduceCtorEq, false_and, true_and, and_true, and_false, and_self, if_true, if_false, ↓reduceIte, forall_const, true_implies, imp_self, not_true, not_false_eq_true, implies_true, not_false, eq_self, Nat.reduceLT, Nat.reduceLeDiff, fF_uF, fN_uF, fD_uF, fM_uF, fF_uN, fN_uN, fD_uN, fM_uN, fF_uD, fN_uD, fD_uD, fM_uD, fF_uM, fN_uM, fD_uM, fM_uM]
    · have ne : (A (50 + j) = A (50 + i)) = False := by rw [h2.e50 a1 a2 i1 i2]; exact eq_false e
      unfold HC hsA dtM
      simp (disch := omega) only [forall_eq, tg_sI, gI_sI, gR_sI, aI_sI, aR_sI, ln_sI, tg_sR, gI_sR, gR_sR, aI_sR, aR_sR, ln_sR, tg_wI, gI_wI, gR_wI, aI_wI, aR_wI, ln_wI, tg_wR, gI_wR, gR_wR, aI_wR, aR_wR, ln_wR, tg_wC, gI_wC, gR_wC, aI_wC, aR_wC, ln_wC, tg_nO, gI_nO, gR_nO, aI_nO, aR_nO, ln_nO, tg_nA, gI_nA, gR_nA, aI_nA, aR_nA, ln_nA, Nat.reduceEqDiff, reduceCtorEq, false_and, true_and, and_true, and_false, and_self, if_true, if_false, ↓reduceIte, forall_const, true_implies, imp_self, not_true, not_false_eq_true, implies_true, not_false, eq_self, Nat.reduceLT, Nat.reduceLeDiff, fF_uF, fN_uF, fD_uF, fM_uF, fF_uN, fN_uN, fD_uN, fM_uN, fF_uD, fN_uD, fD_uD, fM_uD, fF_uM, fN_uM, fD_uM, fM_uM, ne, e]
      exact q
  · have q := h8 j a1 a2
    by_cases e : j = i
    · subst e
      unfold dtM wu
      simp (disch := omega) only [forall_eq, tg_sI, gI_sI, gR_sI, aI_sI, aR_sI, ln_sI, tg_sR, gI_sR, gR_sR, aI_sR, aR_sR, ln_sR, tg_wI, gI_wI, gR_wI, aI_wI, aR_wI, ln_wI, tg_wR, gI_wR, gR_wR, aI_wR, aR_wR, ln_wR, tg_wC, gI_wC, gR_wC, aI_wC, aR_wC, ln_wC, tg_nO, gI_nO, gR_nO, aI_nO, aR_nO, ln_nO, tg_nA, gI_nA, gR_nA, aI_nA, aR_nA, ln_nA, Nat.reduceEqDiff, reduceCtorEq, false_and, true_and, and_true, and_false, and_self, if_true, if_false, ↓reduceIte, forall_const, true_implies, imp_self, not_true, not_false_eq_true, implies_true, not_false, eq_self, Nat.reduceLT, Nat.reduceLeDiff, fF_uF, fN_uF, fD_uF, fM_uF, fF_uN, fN_uN, fD_uN, fM_uN, fF_uD, fN_uD, fD_uD, fM_uD, fF_uM, fN_uM, fD_uM, fM_uM]
      rfl
    · have ne : (A (50 + j) = A (50 + i)) = False := by rw [h2.e50 a1 a2 i1 i2]; exact eq_false e
      unfold dtM wu
      simp (disch := omega) only [forall_eq, tg_sI, gI_sI, gR_sI, aI_sI, aR_sI, ln_sI, tg_sR, gI_sR, gR_sR, aI_sR, aR_sR, ln_sR, tg_wI, gI_wI, gR_wI, aI_wI, aR_wI, ln_wI, tg_wR, gI_wR, gR_wR, aI_wR, aR_wR, ln_wR, tg_wC, gI_wC, gR_wC, aI_wC, aR_wC, ln_wC, tg_nO, gI_nO, gR_nO, aI_nO, aR_nO, ln_nO, tg_nA, gI_nA, gR_nA, aI_nA, aR_nA, ln_nA, Nat.reduceEqDiff, reduceCtorEq, false_and, true_and, and_true, and_false, and_self, if_true, if_false, ↓reduceIte, forall_const, true_implies, imp_self, not_true, not_false_eq_true, implies_true, not_false, eq_self, Nat.reduceLT, Nat.reduceLeDiff, fF_uF, fN_uF, fD_uF, fM_uF, fF_uN, fN_uN, fD_uN, fM_uN, fF_uD, fN_uD, fD_uD, fM_uD, fF_uM, fN_uM, fD_uM, fM_uM, ne, e]
      exact q
theorem RC.att {m : Mm} {A : Nat → Nat} {σ : Sg} {w : Nat → Nat} {c : Nat → Prop} (h : RC m A σ w c) {i n md : Nat} {v : Int32} {o : Nat} (i1 : 2 ≤ i) (i2 : i < 8) (hv : v = nI md) : RC (atM m (A (50 + i)) (A (30 + n)) v (nI o)) A (uN (uN (uN (uN (uN σ 16 i 1) 17 i n) 18 i md) 19 i 0) 20 i 0) (wu w i o) c := by
  obtain ⟨h1, h2, h3, h4, h5, h6, h7, h8, h9, h10⟩ := h
  subst hv
  refine ⟨h1, h2, h3, h4, h5, h6, fun j a1 a2 => ?_, fun j a1 a2 => ?_, h9, h10⟩
  · have q := h7 j a1 a2
    by_cases e : j = i
    · subst e
      refine ⟨fun z => ?_, fun z => ?_, q.2.2⟩
      · revert z; simp (disch := omega) only [forall_eq, tg_sI, gI_sI, gR_sI, aI_sI, aR_sI, ln_sI, tg_sR, gI_sR, gR_sR, aI_sR, aR_sR, ln_sR, tg_wI, gI_wI, gR_wI, aI_wI, aR_wI, ln_wI, tg_wR, gI_wR, gR_wR, aI_wR, aR_wR, ln_wR, tg_wC, gI_wC, gR_wC, aI_wC, aR_wC, ln_wC, tg_nO, gI_nO, gR_nO, aI_nO, aR_nO, ln_nO, tg_nA, gI_nA, gR_nA, aI_nA, aR_nA, ln_nA, Nat.reduceEqDiff, reduceCtorEq, false_and, true_and, and_true, and_false, and_self, if_true, if_false, ↓reduceIte, forall_const, true_implies, imp_self, not_true, not_false_eq_true, implies_true, not_false, eq_self, Nat.reduceLT, Nat.reduceLeDiff, fF_uF, fN_uF, fD_uF, fM_uF, fF_uN, fN_uN, fD_uN, fM_uN, fF_uD, fN_uD, fD_uD, fM_uD, fF_uM, fN_uM, fD_uM, fM_uM]; intro z; exact absurd z (by decide)
      · have e1 : ¬ j = 1 := by omega
        unfold atM dtM hsA
        simp (disch := omega) only [forall_eq, tg_sI, gI_sI, gR_sI, aI_sI, aR_sI, ln_sI, tg_sR, gI_sR, gR_sR, aI_sR, aR_sR, ln_sR, tg_wI, gI_wI, gR_wI, aI_wI, aR_wI, ln_wI, tg_wR, gI_wR, gR_wR, aI_wR, aR_wR, ln_wR, tg_wC, gI_wC, gR_wC, aI_wC, aR_wC, ln_wC, tg_nO, gI_nO, gR_nO, aI_nO, aR_nO, ln_nO, tg_nA, gI_nA, gR_nA, aI_nA, aR_nA, ln_nA, Nat.reduceEqDiff, reduceCtorEq, false_and, true_and, and_true, and_false, and_self, if_true, if_false, ↓reduceIte, forall_const, true_implies, imp_self, not_true, not_false_eq_true, implies_true, not_false, eq_self, Nat.reduceLT, Nat.reduceLeDiff, fF_uF, fN_uF, fD_uF, fM_uF, fF_uN, fN_uN, fD_uN, fM_uN, fF_uD, fN_uD, fD_uD, fM_uD, fF_uM, fN_uM, fD_uM, fM_uM, e1]
        rfl
    · have ne : (A (50 + j) = A (50 + i)) = False := by rw [h2.e50 a1 a2 (by omega) i2]; exact eq_false e
      unfold HC hsA atM dtM
      simp (disch := omega) only [forall_eq, tg_sI, gI_sI, gR_sI, aI_sI, aR_sI, ln_sI, tg_sR, gI_sR, gR_sR, aI_sR, aR_sR, ln_sR, tg_wI, gI_wI, gR_wI, aI_wI, aR_wI, ln_wI, tg_wR, gI_wR, gR_wR, aI_wR, aR_wR, ln_wR, tg_wC, gI_wC, gR_wC, aI_wC, aR_wC, ln_wC, tg_nO, gI_nO, gR_nO, aI_nO, aR_nO, ln_nO, tg_nA, gI_nA, gR_nA, aI_nA, aR_nA, ln_nA, Nat.reduceEqDiff, reduceCtorEq, false_and, true_and, and_true, and_false, and_self, if_true, if_false, ↓reduceIte, forall_const, true_implies, imp_self, not_true, not_false_eq_true, implies_true, not_false, eq_self, Nat.reduceLT, Nat.reduceLeDiff, fF_uF, fN_uF, fD_uF, fM_uF, fF_uN, fN_uN, fD_uN, fM_uN, fF_uD, fN_uD, fD_uD, fM_uD, fF_uM, fN_uM, fD_uM, fM_uM, ne, e]
      exact q
  · have q := h8 j a1 a2
    by_cases e : j = i
    · subst e
      unfold atM dtM wu
      simp (disch := omega) only [forall_eq, tg_sI, gI_sI, gR_sI, aI_sI, aR_sI, ln_sI, tg_sR, gI_sR, gR_sR, aI_sR, aR_sR, ln_sR, tg_wI, gI_wI, gR_wI, aI_wI, aR_wI, ln_wI, tg_wR, gI_wR, gR_wR, aI_wR, aR_wR, ln_wR, tg_wC, gI_wC, gR_wC, aI_wC, aR_wC, ln_wC, tg_nO, gI_nO, gR_nO, aI_nO, aR_nO, ln_nO, tg_nA, gI_nA, gR_nA, aI_nA, aR_nA, ln_nA, Nat.reduceEqDiff, reduceCtorEq, false_and, true_and, and_true, and_false, and_self, if_true, if_false, ↓reduceIte, forall_const, true_implies, imp_self, not_true, not_false_eq_true, implies_true, not_false, eq_self, Nat.reduceLT, Nat.reduceLeDiff, fF_uF, fN_uF, fD_uF, fM_uF, fF_uN, fN_uN, fD_uN, fM_uN, fF_uD, fN_uD, fD_uD, fM_uD, fF_uM, fN_uM, fD_uM, fM_uM]
    · have ne : (A (50 + j) = A (50 + i)) = False := by rw [h2.e50 a1 a2 (by omega) i2]; exact eq_false e
      unfold atM dtM wu
      simp (disch := omega) only [forall_eq, tg_sI, gI_sI, gR_sI, aI_sI, aR_sI, ln_sI, tg_sR, gI_sR, gR_sR, aI_sR, aR_sR, ln_sR, tg_wI, gI_wI, gR_wI, aI_wI, aR_wI, ln_wI, tg_wR, gI_wR, gR_wR, aI_wR, aR_wR, ln_wR, tg_wC, gI_wC, gR_wC, aI_wC, aR_wC, ln_wC, tg_nO, gI_nO, gR_nO, aI_nO, aR_nO, ln_nO, tg_nA, gI_nA, gR_nA, aI_nA, aR_nA, ln_nA, Nat.reduceEqDiff, reduceCtorEq, false_and, true_and, and_true, and_false, and_self, if_true, if_false, ↓reduceIte, forall_const, true_implies, imp_self, not_true, not_false_eq_true, implies_true, not_false, eq_self, Nat.reduceLT, Nat.reduceLeDiff, fF_uF, fN_uF, fD_uF, fM_uF, fF_uN, fN_uN, fD_uN, fM_uN, fF_uD, fN_uD, fD_uD, fM_uD, fF_uM, fN_uM, fD_uM, fM_uM, ne, e]
      exact q
def meM (m : Mm) (s : Nat) : Mm := sI (sI m 9 2 s 1) 9 1 s 0
theorem RC.emp {m : Mm} {A : Nat → Nat} {σ : Sg} {w : Nat → Nat} {c : Nat → Prop} (h : RC m A σ w c) {n : Nat} (hn : n ≤ 9) : RC (meM m (A (30 + n))) A (uN (uN σ 12 n 0) 11 n 1) w c := by
  obtain ⟨h1, h2, h3, h4, h5, h6, h7, h8, h9, h10⟩ := h
  refine ⟨h1, h2, h3, h4, h5, ⟨fun j a1 => ?_, ?_, h6.2.2⟩, h7, h8, h9, h10⟩
  · have q := h6.1 j a1
    by_cases e : j = n
    · subst e
      refine ⟨?_, ?_, q.2.2⟩
      · unfold meM; simp (disch := omega) only [forall_eq, tg_sI, gI_sI, gR_sI, aI_sI, aR_sI, ln_sI, tg_sR, gI_sR, gR_sR, aI_sR, aR_sR, ln_sR, tg_wI, gI_wI, gR_wI, aI_wI, aR_wI, ln_wI, tg_wR, gI_wR, gR_wR, aI_wR, aR_wR, ln_wR, tg_wC, gI_wC, gR_wC, aI_wC, aR_wC, ln_wC, tg_nO, gI_nO, gR_nO, aI_nO, aR_nO, ln_nO, tg_nA, gI_nA, gR_nA, aI_nA, aR_nA, ln_nA, Nat.reduceEqDiff, reduceCtorEq, false_and, true_and, and_true, and_false, and_self, if_true, if_false, ↓reduceIte, forall_const, true_implies, imp_self, not_true, not_false_eq_true, implies_true, not_false, eq_self, Nat.reduceLT, Nat.reduceLeDiff, fF_uF, fN_uF, fD_uF, fM_uF, fF_uN, fN_uN, fD_uN, fM_uN, fF_uD, fN_uD, fD_uD, fM_uD, fF_uM, fN_uM, fD_uM, fM_uM]; rfl
      · unfold meM; simp (disch := omega) only [forall_eq, tg_sI, gI_sI, gR_sI, aI_sI, aR_sI, ln_sI, tg_sR, gI_sR, gR_sR, aI_sR, aR_sR, ln_sR, tg_wI, gI_wI, gR_wI, aI_wI, aR_wI, ln_wI, tg_wR, gI_wR, gR_wR, aI_wR, aR_wR, ln_wR, tg_wC, gI_wC, gR_wC, aI_wC, aR_wC, ln_wC, tg_nO, gI_nO, gR_nO, aI_nO, aR_nO, ln_nO, tg_nA, gI_nA, gR_nA, aI_nA, aR_nA, ln_nA, Nat.reduceEqDiff, reduceCtorEq, false_and, true_and, and_true, and_false, and_self, if_true, if_false, ↓reduceIte, forall_const, true_implies, imp_self, not_true, not_false_eq_true, implies_true, not_false, eq_self, Nat.reduceLT, Nat.reduceLeDiff, fF_uF, fN_uF, fD_uF, fM_uF, fF_uN, fN_uN, fD_uN, fM_uN, fF_uD, fN_uD, fD_uD, fM_uD, fF_uM, fN_uM, fD_uM, fM_uM]; rfl
    · have ne : (A (30 + j) = A (30 + n)) = False := by rw [h2.e30 a1 (by omega)]; exact eq_false e
      unfold meM
      simp (disch := omega) only [forall_eq, tg_sI, gI_sI, gR_sI, aI_sI, aR_sI, ln_sI, tg_sR, gI_sR, gR_sR, aI_sR, aR_sR, ln_sR, tg_wI, gI_wI, gR_wI, aI_wI, aR_wI, ln_wI, tg_wR, gI_wR, gR_wR, aI_wR, aR_wR, ln_wR, tg_wC, gI_wC, gR_wC, aI_wC, aR_wC, ln_wC, tg_nO, gI_nO, gR_nO, aI_nO, aR_nO, ln_nO, tg_nA, gI_nA, gR_nA, aI_nA, aR_nA, ln_nA, Nat.reduceEqDiff, reduceCtorEq, false_and, true_and, and_true, and_false, and_self, if_true, if_false, ↓reduceIte, forall_const, true_implies, imp_self, not_true, not_false_eq_true, implies_true, not_false, eq_self, Nat.reduceLT, Nat.reduceLeDiff, fF_uF, fN_uF, fD_uF, fM_uF, fF_uN, fN_uN, fD_uN, fM_uN, fF_uD, fN_uD, fD_uD, fM_uD, fF_uM, fN_uM, fD_uM, fM_uM, ne, e]
      exact q
  · have ne := h2.n11' (i := n) (by omega)
    unfold meM
    simp (disch := omega) only [forall_eq, tg_sI, gI_sI, gR_sI, aI_sI, aR_sI, ln_sI, tg_sR, gI_sR, gR_sR, aI_sR, aR_sR, ln_sR, tg_wI, gI_wI, gR_wI, aI_wI, aR_wI, ln_wI, tg_wR, gI_wR, gR_wR, aI_wR, aR_wR, ln_wR, tg_wC, gI_wC, gR_wC, aI_wC, aR_wC, ln_wC, tg_nO, gI_nO, gR_nO, aI_nO, aR_nO, ln_nO, tg_nA, gI_nA, gR_nA, aI_nA, aR_nA, ln_nA, Nat.reduceEqDiff, reduceCtorEq, false_and, true_and, and_true, and_false, and_self, if_true, if_false, ↓reduceIte, forall_const, true_implies, imp_self, not_true, not_false_eq_true, implies_true, not_false, eq_self, Nat.reduceLT, Nat.reduceLeDiff, fF_uF, fN_uF, fD_uF, fM_uF, fF_uN, fN_uN, fD_uN, fM_uN, fF_uD, fN_uD, fD_uD, fM_uD, fF_uM, fN_uM, fD_uM, fM_uM, ne]
    exact h6.2.1
theorem RC.pl {m : Mm} {A : Nat → Nat} {σ : Sg} {w : Nat → Nat} {c : Nat → Prop} (h : RC m A σ w c) {i p : Nat} (i1 : 1 ≤ i) (i2 : i < 8) : RC (sI m 10 3 (A (50 + i)) (nI p)) A (uN σ 19 i p) w c := by
  obtain ⟨h1, h2, h3, h4, h5, h6, h7, h8, h9, h10⟩ := h
  refine ⟨h1, h2, h3, h4, h5, h6, fun j a1 a2 => ?_, h8, h9, h10⟩
  have q := h7 j a1 a2
  by_cases e : j = i
  · subst e
    refine ⟨q.1, fun z => ?_, q.2.2⟩
    have q2 := q.2.1 z
    refine ⟨q2.1, q2.2.1, ?_, q2.2.2.2⟩
    simp (disch := omega) only [forall_eq, tg_sI, gI_sI, gR_sI, aI_sI, aR_sI, ln_sI, tg_sR, gI_sR, gR_sR, aI_sR, aR_sR, ln_sR, tg_wI, gI_wI, gR_wI, aI_wI, aR_wI, ln_wI, tg_wR, gI_wR, gR_wR, aI_wR, aR_wR, ln_wR, tg_wC, gI_wC, gR_wC, aI_wC, aR_wC, ln_wC, tg_nO, gI_nO, gR_nO, aI_nO, aR_nO, ln_nO, tg_nA, gI_nA, gR_nA, aI_nA, aR_nA, ln_nA, Nat.reduceEqDiff, reduceCtorEq, false_and, true_and, and_true, and_false, and_self, if_true, if_false, ↓reduceIte, forall_const, true_implies, imp_self, not_true, not_false_eq_true, implies_true, not_false, eq_self, Nat.reduceLT, Nat.reduceLeDiff, fF_uF, fN_uF, fD_uF, fM_uF, fF_uN, fN_uN, fD_uN, fM_uN, fF_uD, fN_uD, fD_uD, fM_uD, fF_uM, fN_uM, fD_uM, fM_uM]
  · have ne : (A (50 + j) = A (50 + i)) = False := by rw [h2.e50 a1 a2 i1 i2]; exact eq_false e
    unfold HC hsA
    simp (disch := omega) only [forall_eq, tg_sI, gI_sI, gR_sI, aI_sI, aR_sI, ln_sI, tg_sR, gI_sR, gR_sR, aI_sR, aR_sR, ln_sR, tg_wI, gI_wI, gR_wI, aI_wI, aR_wI, ln_wI, tg_wR, gI_wR, gR_wR, aI_wR, aR_wR, ln_wR, tg_wC, gI_wC, gR_wC, aI_wC, aR_wC, ln_wC, tg_nO, gI_nO, gR_nO, aI_nO, aR_nO, ln_nO, tg_nA, gI_nA, gR_nA, aI_nA, aR_nA, ln_nA, Nat.reduceEqDiff, reduceCtorEq, false_and, true_and, and_true, and_false, and_self, if_true, if_false, ↓reduceIte, forall_const, true_implies, imp_self, not_true, not_false_eq_true, implies_true, not_false, eq_self, Nat.reduceLT, Nat.reduceLeDiff, fF_uF, fN_uF, fD_uF, fM_uF, fF_uN, fN_uN, fD_uN, fM_uN, fF_uD, fN_uD, fD_uD, fM_uD, fF_uM, fN_uM, fD_uM, fM_uM, ne, e]
    exact q
theorem RC.fl {m : Mm} {A : Nat → Nat} {σ : Sg} {w : Nat → Nat} {c : Nat → Prop} (h : RC m A σ w c) {i k x : Nat} (i1 : 1 ≤ i) (i2 : i < 8) (hk : k < 3) : RC (sI (wI m 27 (A (60 + i)) k (nI x)) 10 1 (A (50 + i)) (nI (k + 1))) A (uN (uN σ 21 (3 * i + k) x) 20 i (k + 1)) w c := by
  obtain ⟨h1, h2, h3, h4, h5, h6, h7, h8, h9, h10⟩ := h
  refine ⟨h1, h2, h3, h4, h5, h6, fun j a1 a2 => ?_, h8, h9, h10⟩
  have q := h7 j a1 a2
  by_cases e : j = i
  · subst e
    refine ⟨q.1, fun z => ?_, fun t ht => ?_⟩
    · have q2 := q.2.1 z
      refine ⟨q2.1, ?_, q2.2.2⟩
      simp (disch := omega) only [forall_eq, tg_sI, gI_sI, gR_sI, aI_sI, aR_sI, ln_sI, tg_sR, gI_sR, gR_sR, aI_sR, aR_sR, ln_sR, tg_wI, gI_wI, gR_wI, aI_wI, aR_wI, ln_wI, tg_wR, gI_wR, gR_wR, aI_wR, aR_wR, ln_wR, tg_wC, gI_wC, gR_wC, aI_wC, aR_wC, ln_wC, tg_nO, gI_nO, gR_nO, aI_nO, aR_nO, ln_nO, tg_nA, gI_nA, gR_nA, aI_nA, aR_nA, ln_nA, Nat.reduceEqDiff, reduceCtorEq, false_and, true_and, and_true, and_false, and_self, if_true, if_false, ↓reduceIte, forall_const, true_implies, imp_self, not_true, not_false_eq_true, implies_true, not_false, eq_self, Nat.reduceLT, Nat.reduceLeDiff, fF_uF, fN_uF, fD_uF, fM_uF, fF_uN, fN_uN, fD_uN, fM_uN, fF_uD, fN_uD, fD_uD, fM_uD, fF_uM, fN_uM, fD_uM, fM_uM]
    · have q3 := q.2.2 t ht
      by_cases et : t = k
      · subst et; simp (disch := omega) only [forall_eq, tg_sI, gI_sI, gR_sI, aI_sI, aR_sI, ln_sI, tg_sR, gI_sR, gR_sR, aI_sR, aR_sR, ln_sR, tg_wI, gI_wI, gR_wI, aI_wI, aR_wI, ln_wI, tg_wR, gI_wR, gR_wR, aI_wR, aR_wR, ln_wR, tg_wC, gI_wC, gR_wC, aI_wC, aR_wC, ln_wC, tg_nO, gI_nO, gR_nO, aI_nO, aR_nO, ln_nO, tg_nA, gI_nA, gR_nA, aI_nA, aR_nA, ln_nA, Nat.reduceEqDiff, reduceCtorEq, false_and, true_and, and_true, and_false, and_self, if_true, if_false, ↓reduceIte, forall_const, true_implies, imp_self, not_true, not_false_eq_true, implies_true, not_false, eq_self, Nat.reduceLT, Nat.reduceLeDiff, fF_uF, fN_uF, fD_uF, fM_uF, fF_uN, fN_uN, fD_uN, fM_uN, fF_uD, fN_uD, fD_uD, fM_uD, fF_uM, fN_uM, fD_uM, fM_uM]
      · have e2 : ¬ 3 * j + t = 3 * j + k := by omega
        simp (disch := omega) only [forall_eq, tg_sI, gI_sI, gR_sI, aI_sI, aR_sI, ln_sI, tg_sR, gI_sR, gR_sR, aI_sR, aR_sR, ln_sR, tg_wI, gI_wI, gR_wI, aI_wI, aR_wI, ln_wI, tg_wR, gI_wR, gR_wR, aI_wR, aR_wR, ln_wR, tg_wC, gI_wC, gR_wC, aI_wC, aR_wC, ln_wC, tg_nO, gI_nO, gR_nO, aI_nO, aR_nO, ln_nO, tg_nA, gI_nA, gR_nA, aI_nA, aR_nA, ln_nA, Nat.reduceEqDiff, reduceCtorEq, false_and, true_and, and_true, and_false, and_self, if_true, if_false, ↓reduceIte, forall_const, true_implies, imp_self, not_true, not_false_eq_true, implies_true, not_false, eq_self, Nat.reduceLT, Nat.reduceLeDiff, fF_uF, fN_uF, fD_uF, fM_uF, fF_uN, fN_uN, fD_uN, fM_uN, fF_uD, fN_uD, fD_uD, fM_uD, fF_uM, fN_uM, fD_uM, fM_uM, et, e2]
        exact q3
  · have ne : (A (50 + j) = A (50 + i)) = False := by rw [h2.e50 a1 a2 i1 i2]; exact eq_false e
    have ne2 : (A (60 + j) = A (60 + i)) = False := by rw [h2.e60 a1 a2 i1 i2]; exact eq_false e
    refine ⟨q.1, fun z => ?_, fun t ht => ?_⟩
    · have q2 := q.2.1 z
      refine ⟨q2.1, ?_, q2.2.2⟩
      simp (disch := omega) only [forall_eq, tg_sI, gI_sI, gR_sI, aI_sI, aR_sI, ln_sI, tg_sR, gI_sR, gR_sR, aI_sR, aR_sR, ln_sR, tg_wI, gI_wI, gR_wI, aI_wI, aR_wI, ln_wI, tg_wR, gI_wR, gR_wR, aI_wR, aR_wR, ln_wR, tg_wC, gI_wC, gR_wC, aI_wC, aR_wC, ln_wC, tg_nO, gI_nO, gR_nO, aI_nO, aR_nO, ln_nO, tg_nA, gI_nA, gR_nA, aI_nA, aR_nA, ln_nA, Nat.reduceEqDiff, reduceCtorEq, false_and, true_and, and_true, and_false, and_self, if_true, if_false, ↓reduceIte, forall_const, true_implies, imp_self, not_true, not_false_eq_true, implies_true, not_false, eq_self, Nat.reduceLT, Nat.reduceLeDiff, fF_uF, fN_uF, fD_uF, fM_uF, fF_uN, fN_uN, fD_uN, fM_uN, fF_uD, fN_uD, fD_uD, fM_uD, fF_uM, fN_uM, fD_uM, fM_uM, ne, e]
      exact q2.2.1
    · have q3 := q.2.2 t ht
      have e2 : ¬ 3 * j + t = 3 * i + k := by omega
      simp (disch := omega) only [forall_eq, tg_sI, gI_sI, gR_sI, aI_sI, aR_sI, ln_sI, tg_sR, gI_sR, gR_sR, aI_sR, aR_sR, ln_sR, tg_wI, gI_wI, gR_wI, aI_wI, aR_wI, ln_wI, tg_wR, gI_wR, gR_wR, aI_wR, aR_wR, ln_wR, tg_wC, gI_wC, gR_wC, aI_wC, aR_wC, ln_wC, tg_nO, gI_nO, gR_nO, aI_nO, aR_nO, ln_nO, tg_nA, gI_nA, gR_nA, aI_nA, aR_nA, ln_nA, Nat.reduceEqDiff, reduceCtorEq, false_and, true_and, and_true, and_false, and_self, if_true, if_false, ↓reduceIte, forall_const, true_implies, imp_self, not_true, not_false_eq_true, implies_true, not_false, eq_self, Nat.reduceLT, Nat.reduceLeDiff, fF_uF, fN_uF, fD_uF, fM_uF, fF_uN, fN_uN, fD_uN, fM_uN, fF_uD, fN_uD, fD_uD, fM_uD, fF_uM, fN_uM, fD_uM, fM_uM, ne, ne2, e, e2]
      exact q3
theorem RC.wo {m : Mm} {A : Nat → Nat} {σ : Sg} {w : Nat → Nat} {c : Nat → Prop} (h : RC m A σ w c) {v : Int32} : RC (sI (wI m 26 (A 20) (fF σ 15) v) 9 1 (A 11) (nI (fF σ 15 + 1))) A (uF (uD σ 14 (fF σ 15) v) 15 (fF σ 15 + 1)) w c := by
  obtain ⟨h1, h2, h3, h4, h5, h6, h7, h8, h9, h10⟩ := h
  refine ⟨h1, h2, h3, h4, h5, ⟨fun j a1 => ?_, ?_, fun j a1 => ?_⟩, h7, h8, h9, h10⟩
  · have q := h6.1 j a1
    have n1 := h2.n11 (i := j) a1
    have n2 := h2.n20 (i := j) a1
    refine ⟨?_, q.2.1, fun t ht => ?_⟩
    · simp (disch := omega) only [forall_eq, tg_sI, gI_sI, gR_sI, aI_sI, aR_sI, ln_sI, tg_sR, gI_sR, gR_sR, aI_sR, aR_sR, ln_sR, tg_wI, gI_wI, gR_wI, aI_wI, aR_wI, ln_wI, tg_wR, gI_wR, gR_wR, aI_wR, aR_wR, ln_wR, tg_wC, gI_wC, gR_wC, aI_wC, aR_wC, ln_wC, tg_nO, gI_nO, gR_nO, aI_nO, aR_nO, ln_nO, tg_nA, gI_nA, gR_nA, aI_nA, aR_nA, ln_nA, Nat.reduceEqDiff, reduceCtorEq, false_and, true_and, and_true, and_false, and_self, if_true, if_false, ↓reduceIte, forall_const, true_implies, imp_self, not_true, not_false_eq_true, implies_true, not_false, eq_self, Nat.reduceLT, Nat.reduceLeDiff, fF_uF, fN_uF, fD_uF, fM_uF, fF_uN, fN_uN, fD_uN, fM_uN, fF_uD, fN_uD, fD_uD, fM_uD, fF_uM, fN_uM, fD_uM, fM_uM, n1, n2]; exact q.1
    · simp (disch := omega) only [forall_eq, tg_sI, gI_sI, gR_sI, aI_sI, aR_sI, ln_sI, tg_sR, gI_sR, gR_sR, aI_sR, aR_sR, ln_sR, tg_wI, gI_wI, gR_wI, aI_wI, aR_wI, ln_wI, tg_wR, gI_wR, gR_wR, aI_wR, aR_wR, ln_wR, tg_wC, gI_wC, gR_wC, aI_wC, aR_wC, ln_wC, tg_nO, gI_nO, gR_nO, aI_nO, aR_nO, ln_nO, tg_nA, gI_nA, gR_nA, aI_nA, aR_nA, ln_nA, Nat.reduceEqDiff, reduceCtorEq, false_and, true_and, and_true, and_false, and_self, if_true, if_false, ↓reduceIte, forall_const, true_implies, imp_self, not_true, not_false_eq_true, implies_true, not_false, eq_self, Nat.reduceLT, Nat.reduceLeDiff, fF_uF, fN_uF, fD_uF, fM_uF, fF_uN, fN_uN, fD_uN, fM_uN, fF_uD, fN_uD, fD_uD, fM_uD, fF_uM, fN_uM, fD_uM, fM_uM, n1, n2]; exact q.2.2 t ht
  · simp (disch := omega) only [forall_eq, tg_sI, gI_sI, gR_sI, aI_sI, aR_sI, ln_sI, tg_sR, gI_sR, gR_sR, aI_sR, aR_sR, ln_sR, tg_wI, gI_wI, gR_wI, aI_wI, aR_wI, ln_wI, tg_wR, gI_wR, gR_wR, aI_wR, aR_wR, ln_wR, tg_wC, gI_wC, gR_wC, aI_wC, aR_wC, ln_wC, tg_nO, gI_nO, gR_nO, aI_nO, aR_nO, ln_nO, tg_nA, gI_nA, gR_nA, aI_nA, aR_nA, ln_nA, Nat.reduceEqDiff, reduceCtorEq, false_and, true_and, and_true, and_false, and_self, if_true, if_false, ↓reduceIte, forall_const, true_implies, imp_self, not_true, not_false_eq_true, implies_true, not_false, eq_self, Nat.reduceLT, Nat.reduceLeDiff, fF_uF, fN_uF, fD_uF, fM_uF, fF_uN, fN_uN, fD_uN, fM_uN, fF_uD, fN_uD, fD_uD, fM_uD, fF_uM, fN_uM, fD_uM, fM_uM]
  · by_cases e : j = fF σ 15
    · subst e; simp (disch := omega) only [forall_eq, tg_sI, gI_sI, gR_sI, aI_sI, aR_sI, ln_sI, tg_sR, gI_sR, gR_sR, aI_sR, aR_sR, ln_sR, tg_wI, gI_wI, gR_wI, aI_wI, aR_wI, ln_wI, tg_wR, gI_wR, gR_wR, aI_wR, aR_wR, ln_wR, tg_wC, gI_wC, gR_wC, aI_wC, aR_wC, ln_wC, tg_nO, gI_nO, gR_nO, aI_nO, aR_nO, ln_nO, tg_nA, gI_nA, gR_nA, aI_nA, aR_nA, ln_nA, Nat.reduceEqDiff, reduceCtorEq, false_and, true_and, and_true, and_false, and_self, if_true, if_false, ↓reduceIte, forall_const, true_implies, imp_self, not_true, not_false_eq_true, implies_true, not_false, eq_self, Nat.reduceLT, Nat.reduceLeDiff, fF_uF, fN_uF, fD_uF, fM_uF, fF_uN, fN_uN, fD_uN, fM_uN, fF_uD, fN_uD, fD_uD, fM_uD, fF_uM, fN_uM, fD_uM, fM_uM]
    · simp (disch := omega) only [forall_eq, tg_sI, gI_sI, gR_sI, aI_sI, aR_sI, ln_sI, tg_sR, gI_sR, gR_sR, aI_sR, aR_sR, ln_sR, tg_wI, gI_wI, gR_wI, aI_wI, aR_wI, ln_wI, tg_wR, gI_wR, gR_wR, aI_wR, aR_wR, ln_wR, tg_wC, gI_wC, gR_wC, aI_wC, aR_wC, ln_wC, tg_nO, gI_nO, gR_nO, aI_nO, aR_nO, ln_nO, tg_nA, gI_nA, gR_nA, aI_nA, aR_nA, ln_nA, Nat.reduceEqDiff, reduceCtorEq, false_and, true_and, and_true, and_false, and_self, if_true, if_false, ↓reduceIte, forall_const, true_implies, imp_self, not_true, not_false_eq_true, implies_true, not_false, eq_self, Nat.reduceLT, Nat.reduceLeDiff, fF_uF, fN_uF, fD_uF, fM_uF, fF_uN, fN_uN, fD_uN, fM_uN, fF_uD, fN_uD, fD_uD, fM_uD, fF_uM, fN_uM, fD_uM, fM_uM, e]; exact h6.2.2 j a1
theorem RC.wn {m : Mm} {A : Nat → Nat} {σ : Sg} {w : Nat → Nat} {c : Nat → Prop} (h : RC m A σ w c) {n : Nat} (hn : n ≤ 9) (hl : fN σ 12 n < 100) {v : Int32} : RC (sI (wI m 26 (A (40 + n)) (fN σ 12 n) v) 9 1 (A (30 + n)) (nI (fN σ 12 n + 1))) A (uN (uD σ 13 (100 * n + fN σ 12 n) v) 12 n (fN σ 12 n + 1)) w c := by
  obtain ⟨h1, h2, h3, h4, h5, h6, h7, h8, h9, h10⟩ := h
  refine ⟨h1, h2, h3, h4, h5, ⟨fun j a1 => ?_, ?_, fun j a1 => ?_⟩, h7, h8, h9, h10⟩
  · have q := h6.1 j a1
    by_cases e : j = n
    · subst e
      refine ⟨?_, q.2.1, fun t ht => ?_⟩
      · simp (disch := omega) only [forall_eq, tg_sI, gI_sI, gR_sI, aI_sI, aR_sI, ln_sI, tg_sR, gI_sR, gR_sR, aI_sR, aR_sR, ln_sR, tg_wI, gI_wI, gR_wI, aI_wI, aR_wI, ln_wI, tg_wR, gI_wR, gR_wR, aI_wR, aR_wR, ln_wR, tg_wC, gI_wC, gR_wC, aI_wC, aR_wC, ln_wC, tg_nO, gI_nO, gR_nO, aI_nO, aR_nO, ln_nO, tg_nA, gI_nA, gR_nA, aI_nA, aR_nA, ln_nA, Nat.reduceEqDiff, reduceCtorEq, false_and, true_and, and_true, and_false, and_self, if_true, if_false, ↓reduceIte, forall_const, true_implies, imp_self, not_true, not_false_eq_true, implies_true, not_false, eq_self, Nat.reduceLT, Nat.reduceLeDiff, fF_uF, fN_uF, fD_uF, fM_uF, fF_uN, fN_uN, fD_uN, fM_uN, fF_uD, fN_uD, fD_uD, fM_uD, fF_uM, fN_uM, fD_uM, fM_uM]
      · by_cases et : t = fN σ 12 j
        · subst et; simp (disch := omega) only [forall_eq, tg_sI, gI_sI, gR_sI, aI_sI, aR_sI, ln_sI, tg_sR, gI_sR, gR_sR, aI_sR, aR_sR, ln_sR, tg_wI, gI_wI, gR_wI, aI_wI, aR_wI, ln_wI, tg_wR, gI_wR, gR_wR, aI_wR, aR_wR, ln_wR, tg_wC, gI_wC, gR_wC, aI_wC, aR_wC, ln_wC, tg_nO, gI_nO, gR_nO, aI_nO, aR_nO, ln_nO, tg_nA, gI_nA, gR_nA, aI_nA, aR_nA, ln_nA, Nat.reduceEqDiff, reduceCtorEq, false_and, true_and, and_true, and_false, and_self, if_true, if_false, ↓reduceIte, forall_const, true_implies, imp_self, not_true, not_false_eq_true, implies_true, not_false, eq_self, Nat.reduceLT, Nat.reduceLeDiff, fF_uF, fN_uF, fD_uF, fM_uF, fF_uN, fN_uN, fD_uN, fM_uN, fF_uD, fN_uD, fD_uD, fM_uD, fF_uM, fN_uM, fD_uM, fM_uM]
        · have e2 : ¬ 100 * j + t = 100 * j + fN σ 12 j := by omega
          simp (disch := omega) only [forall_eq, tg_sI, gI_sI, gR_sI, aI_sI, aR_sI, ln_sI, tg_sR, gI_sR, gR_sR, aI_sR, aR_sR, ln_sR, tg_wI, gI_wI, gR_wI, aI_wI, aR_wI, ln_wI, tg_wR, gI_wR, gR_wR, aI_wR, aR_wR, ln_wR, tg_wC, gI_wC, gR_wC, aI_wC, aR_wC, ln_wC, tg_nO, gI_nO, gR_nO, aI_nO, aR_nO, ln_nO, tg_nA, gI_nA, gR_nA, aI_nA, aR_nA, ln_nA, Nat.reduceEqDiff, reduceCtorEq, false_and, true_and, and_true, and_false, and_self, if_true, if_false, ↓reduceIte, forall_const, true_implies, imp_self, not_true, not_false_eq_true, implies_true, not_false, eq_self, Nat.reduceLT, Nat.reduceLeDiff, fF_uF, fN_uF, fD_uF, fM_uF, fF_uN, fN_uN, fD_uN, fM_uN, fF_uD, fN_uD, fD_uD, fM_uD, fF_uM, fN_uM, fD_uM, fM_uM, et, e2]
          exact q.2.2 t ht
    · have ne : (A (30 + j) = A (30 + n)) = False := by rw [h2.e30 a1 (by omega)]; exact eq_false e
      have ne2 : (A (40 + j) = A (40 + n)) = False := by rw [h2.e40 a1 (by omega)]; exact eq_false e
      refine ⟨?_, q.2.1, fun t ht => ?_⟩
      · simp (disch := omega) only [forall_eq, tg_sI, gI_sI, gR_sI, aI_sI, aR_sI, ln_sI, tg_sR, gI_sR, gR_sR, aI_sR, aR_sR, ln_sR, tg_wI, gI_wI, gR_wI, aI_wI, aR_wI, ln_wI, tg_wR, gI_wR, gR_wR, aI_wR, aR_wR, ln_wR, tg_wC, gI_wC, gR_wC, aI_wC, aR_wC, ln_wC, tg_nO, gI_nO, gR_nO, aI_nO, aR_nO, ln_nO, tg_nA, gI_nA, gR_nA, aI_nA, aR_nA, ln_nA, Nat.reduceEqDiff, reduceCtorEq, false_and, true_and, and_true, and_false, and_self, if_true, if_false, ↓reduceIte, forall_const, true_implies, imp_self, not_true, not_false_eq_true, implies_true, not_false, eq_self, Nat.reduceLT, Nat.reduceLeDiff, fF_uF, fN_uF, fD_uF, fM_uF, fF_uN, fN_uN, fD_uN, fM_uN, fF_uD, fN_uD, fD_uD, fM_uD, fF_uM, fN_uM, fD_uM, fM_uM, ne, e]; exact q.1
      · have e2 : ¬ 100 * j + t = 100 * n + fN σ 12 n := by omega
        simp (disch := omega) only [forall_eq, tg_sI, gI_sI, gR_sI, aI_sI, aR_sI, ln_sI, tg_sR, gI_sR, gR_sR, aI_sR, aR_sR, ln_sR, tg_wI, gI_wI, gR_wI, aI_wI, aR_wI, ln_wI, tg_wR, gI_wR, gR_wR, aI_wR, aR_wR, ln_wR, tg_wC, gI_wC, gR_wC, aI_wC, aR_wC, ln_wC, tg_nO, gI_nO, gR_nO, aI_nO, aR_nO, ln_nO, tg_nA, gI_nA, gR_nA, aI_nA, aR_nA, ln_nA, Nat.reduceEqDiff, reduceCtorEq, false_and, true_and, and_true, and_false, and_self, if_true, if_false, ↓reduceIte, forall_const, true_implies, imp_self, not_true, not_false_eq_true, implies_true, not_false, eq_self, Nat.reduceLT, Nat.reduceLeDiff, fF_uF, fN_uF, fD_uF, fM_uF, fF_uN, fN_uN, fD_uN, fM_uN, fF_uD, fN_uD, fD_uD, fM_uD, fF_uM, fN_uM, fD_uM, fM_uM, ne, ne2, e, e2]
        exact q.2.2 t ht
  · have ne := h2.n11' (i := n) (by omega)
    simp (disch := omega) only [forall_eq, tg_sI, gI_sI, gR_sI, aI_sI, aR_sI, ln_sI, tg_sR, gI_sR, gR_sR, aI_sR, aR_sR, ln_sR, tg_wI, gI_wI, gR_wI, aI_wI, aR_wI, ln_wI, tg_wR, gI_wR, gR_wR, aI_wR, aR_wR, ln_wR, tg_wC, gI_wC, gR_wC, aI_wC, aR_wC, ln_wC, tg_nO, gI_nO, gR_nO, aI_nO, aR_nO, ln_nO, tg_nA, gI_nA, gR_nA, aI_nA, aR_nA, ln_nA, Nat.reduceEqDiff, reduceCtorEq, false_and, true_and, and_true, and_false, and_self, if_true, if_false, ↓reduceIte, forall_const, true_implies, imp_self, not_true, not_false_eq_true, implies_true, not_false, eq_self, Nat.reduceLT, Nat.reduceLeDiff, fF_uF, fN_uF, fD_uF, fM_uF, fF_uN, fN_uN, fD_uN, fM_uN, fF_uD, fN_uD, fD_uD, fM_uD, fF_uM, fN_uM, fD_uM, fM_uM, ne]
    exact h6.2.1
  · have ne := h2.n20' (i := n) (by omega)
    simp (disch := omega) only [forall_eq, tg_sI, gI_sI, gR_sI, aI_sI, aR_sI, ln_sI, tg_sR, gI_sR, gR_sR, aI_sR, aR_sR, ln_sR, tg_wI, gI_wI, gR_wI, aI_wI, aR_wI, ln_wI, tg_wR, gI_wR, gR_wR, aI_wR, aR_wR, ln_wR, tg_wC, gI_wC, gR_wC, aI_wC, aR_wC, ln_wC, tg_nO, gI_nO, gR_nO, aI_nO, aR_nO, ln_nO, tg_nA, gI_nA, gR_nA, aI_nA, aR_nA, ln_nA, Nat.reduceEqDiff, reduceCtorEq, false_and, true_and, and_true, and_false, and_self, if_true, if_false, ↓reduceIte, forall_const, true_implies, imp_self, not_true, not_false_eq_true, implies_true, not_false, eq_self, Nat.reduceLT, Nat.reduceLeDiff, fF_uF, fN_uF, fD_uF, fM_uF, fF_uN, fN_uN, fD_uN, fM_uN, fF_uD, fN_uD, fD_uD, fM_uD, fF_uM, fN_uM, fD_uM, fM_uM, ne]
    exact h6.2.2 j a1
