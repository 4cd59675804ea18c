/-! THE CLASS: the signs one after the other -/
theorem nI_sub2 {n p : Nat} (h : p < n) (hn : n < 2 ^ 30) : nI n - nI p - 1 = nI (n - p - 1) := by
  have e : nI n = nI (n - p - 1) + 1 + nI p := by rw [nI_1, nI_add]; congr 1; omega
  rw [e, Int32.add_sub_cancel, Int32.add_sub_cancel]

/-- the job has told; what was kept is kept -/
def RF (m : Mm) (A : Nat → Nat) (σ : Sg) (a : Nat) (B : Nat → Nat) (τ : Sg) : Prop := RC m A σ (fun h => fN σ 23 h) (fun _ => True) ∧ K5 m A σ ∧ KF m A σ ∧ RM m a B τ
theorem tl0 (o : Nat) (σ : Sg) : fN (tell o σ) 5 (6 * fF σ 25) = o ∧ fN (tell o σ) 5 (6 * fF σ 25 + 1) = fF σ 35 ∧ fN (tell o σ) 5 (6 * fF σ 25 + 2) = (if 0 < fF σ 35 then fF σ 26 else 0) ∧ fN (tell o σ) 5 (6 * fF σ 25 + 3) = fF σ 31 ∧ fN (tell o σ) 5 (6 * fF σ 25 + 4) = fF σ 27 ∧ fN (tell o σ) 5 (6 * fF σ 25 + 5) = (if 0 < fF σ 35 then siz σ - fF σ 26 - 1 else 0) := by
  unfold tell
  simp only [fN_uN, fF_uN, true_and, if_true, siz]
  refine ⟨?_, ?_, ?_, ?_, ?_, ?_⟩
  · rw [if_neg (by omega), if_neg (by omega), if_neg (by omega), if_neg (by omega), if_neg (by omega)]
  · rw [if_neg (by omega), if_neg (by omega), if_neg (by omega), if_neg (by omega)]
  · rw [if_neg (by omega), if_neg (by omega), if_neg (by omega)]
  · rw [if_neg (by omega), if_neg (by omega)]
  · rw [if_neg (by omega)]
  · trivial
theorem tl1 (o : Nat) (σ : Sg) {i : Nat} (h : i < 6 * fF σ 25 ∨ 6 * fF σ 25 + 5 < i) : fN (tell o σ) 5 i = fN σ 5 i := by
  unfold tell
  simp only [fN_uN, true_and]
  rw [if_neg (by omega), if_neg (by omega), if_neg (by omega), if_neg (by omega), if_neg (by omega), if_neg (by omega)]
theorem tell_RF {m : Mm} {A : Nat → Nat} {σ τ : Sg} {a : Nat} {B : Nat → Nat} {o : Nat} (rc : RC m A σ (fun h => fN σ 23 h) (fun j => j ≠ fF σ 25)) (k5 : K5 m A σ) (kf : KF m A σ) (hm : RM m a B τ) (t4 : gI m 8 4 (A (100 + fF σ 25)) = nI o) (t5 : gI m 8 5 (A (100 + fF σ 25)) = nI (fF σ 35)) (t6 : gI m 8 6 (A (100 + fF σ 25)) = nI (if 0 < fF σ 35 then fF σ 26 else 0)) (t3 : gI m 8 3 (A (100 + fF σ 25)) = nI (fF σ 31)) (t7 : gI m 8 7 (A (100 + fF σ 25)) = nI (fF σ 27)) (t8 : gI m 8 8 (A (100 + fF σ 25)) = nI (if 0 < fF σ 35 then siz σ - fF σ 26 - 1 else 0)) (tp : ∀ i, i < fF σ 31 → aI m 25 (A (160 + fF σ 25)) i = fD σ 6 (40 * fF σ 25 + i)) : RF m A (tell o σ) a B τ := by
  refine ⟨?_, k5, kf, hm⟩
  obtain ⟨h1, h2, h3, h4, h5, h6, h7, h8, h9, h10⟩ := rc
  refine ⟨h1, h2, h3, h4, h5, h6, h7, h8, h9, fun j hj _ => ?_⟩
  by_cases e : j = fF σ 25
  · subst e
    obtain ⟨e0, e1, e2, e3, e4, e5⟩ := tl0 o σ
    unfold JT
    rw [e0, e1, e2, e3, e4, e5]
    exact ⟨t4, t5, t6, t3, t7, t8, tp⟩
  · have q := h10 j hj e
    unfold JT at q ⊢
    rw [tl1 o σ (by omega), tl1 o σ (by omega), tl1 o σ (by omega), tl1 o σ (by omega), tl1 o σ (by omega), tl1 o σ (by omega)]
    exact q
/-- the job's own fields while it runs -/
theorem RC.jf {m : Mm} {A : Nat → Nat} {σ : Sg} {w : Nat → Nat} {c : Nat → Prop} {j : Nat} (h : RC m A σ w c) (hc : ∀ i, c i → i ≠ j) (hj : j < fF σ 2) (f : Nat) (hf : 4 ≤ f) (v : Int32) : RC (sI m 8 f (A (100 + j)) v) A σ w c := by
  obtain ⟨h1, h2, h3, h4, h5, h6, h7, h8, h9, h10⟩ := h
  refine ⟨h1, h2, h3, h4, h5, h6, h7, h8, fun i hi => ?_, fun i hi hci => ?_⟩
  · refine ⟨?_, (h9 i hi).2⟩
    rw [gI_sI, if_neg (by omega)]
    exact (h9 i hi).1
  · have q := h10 i hi hci
    have ne : ¬ A (100 + i) = A (100 + j) := by rw [h2.e100 hi hj]; exact hc i hci
    obtain ⟨q1, q2, q3, q4, q5, q6, q7⟩ := q
    exact ⟨by rw [gI_sI, if_neg (fun e => ne e.2.2)]; exact q1, by rw [gI_sI, if_neg (fun e => ne e.2.2)]; exact q2, by rw [gI_sI, if_neg (fun e => ne e.2.2)]; exact q3, by rw [gI_sI, if_neg (fun e => ne e.2.2)]; exact q4, by rw [gI_sI, if_neg (fun e => ne e.2.2)]; exact q5, by rw [gI_sI, if_neg (fun e => ne e.2.2)]; exact q6, q7⟩
theorem y_exit {m : Mm} {A : Nat → Nat} {σ : Sg} {w : Nat → Nat} {c : Nat → Prop} {j : Nat} (h : RC m A σ w c) (hj : j < fF σ 2) (ho : ¬ gI m 8 4 (A (100 + j)) = 0) {v : Int32} {P : Mm → Prop} (k : wp_Machine_finish m (A 2) P) : wp_Machine_execute_7 P 1 m (A 2) (A (100 + j)) v := by
  unfold wp_Machine_execute_7 wp_Machine_execute_114
  have T2 := h.1.T2
  have T8 := (h.2.1.2.2.1 j hj).2.1
  refine ⟨T2, fun u eu => ⟨fun _ => ⟨T2, k⟩, fun _ => ⟨T8, fun u eu => ?_⟩⟩⟩
  subst eu
  exact ⟨fun z => absurd z ho, fun _ => ⟨T2, k⟩⟩
theorem jx0 {m : Mm} {A : Nat → Nat} {σ τ : Sg} {x a : Nat} {B : Nat → Nat} (r : RJ m A σ x a B τ) (h0 : fF σ 35 = 0) {o : Nat} (t4 : gI m 8 4 (A (100 + fF σ 25)) = nI o) : RF m A (tell o σ) a B τ := by
  obtain ⟨c1, c2, c3, c4, c5, c6, c7⟩ := r.2.1.2.2.2.2.2.1
  refine tell_RF r.1 r.2.1.2.2.2.2.1 r.2.2.1 r.2.2.2.1 t4 ?_ ?_ c6 c5 ?_ c7
  · rw [h0]; exact c2
  · rw [h0]; exact c3
  · rw [h0]; exact c4
theorem RJ.o4 {m : Mm} {A : Nat → Nat} {σ τ : Sg} {x a : Nat} {B : Nat → Nat} (r : RJ m A σ x a B τ) (h0 : fF σ 35 = 0) (o : Nat) : RF (sI m 8 4 (A (100 + fF σ 25)) (nI o)) A (tell o σ) a B τ := by
  obtain ⟨c1, c2, c3, c4, c5, c6, c7⟩ := r.2.1.2.2.2.2.2.1
  refine tell_RF (r.1.jf (j := fF σ 25) (fun _ q => q) r.2.2.2.2 4 (by decide) _) r.2.1.2.2.2.2.1 r.2.2.1 (r.2.2.2.1.oI (by decide) _ _ _) ?_ ?_ ?_ c6 c5 ?_ c7
  · rw [gI_sI, if_pos ⟨rfl, rfl, rfl⟩]
  · rw [h0]; exact c2
  · rw [h0]; exact c3
  · rw [h0]; exact c4
theorem y_step {m : Mm} {A : Nat → Nat} {σ τ : Sg} {a : Nat} {B : Nat → Nat} (r : RJ m A σ (fF σ 26) a B τ) (h : LpS σ) (h1 : nd (sgn σ) (siz σ) (fF σ 26) < siz σ) (h2 : fF σ 27 ≠ fF σ 1) {K : Mm → Nat → Nat → Int32 → Prop} {P : Mm → Prop} (k0 : fF (nxS σ) 35 = 0 → ∀ m', RJ m' A (nxS σ) (fF (nxS σ) 26 + 1) a B τ → K m' (A 2) (A (100 + fF σ 25)) (nI (fF σ 27 + 1))) (k1 : fF (nxS σ) 35 ≠ 0 → ∀ m', RF m' A (tell 2 (nxS σ)) a B τ → ¬ gI m' 8 4 (A (100 + fF σ 25)) = 0 → K m' (A 2) (A (100 + fF σ 25)) (nI (fF σ 27 + 1))) : wp_Plan_firstDoneFrom (sI m 8 7 (A (100 + fF σ 25)) (nI (fF σ 27 + 1))) (A 15) (nI (nd (sgn σ) (siz σ) (fF σ 26) + 1)) (fun r_24 m_23 => (tg m_23 (A 2) = 2 ∧ ∀ m_27 : Mm, m_27 = sI m_23 2 9 (A 2) r_24 → (tg m_27 (A (100 + fF σ 25)) = 8 ∧ wp_Job_signAt m_27 (A (100 + fF σ 25)) (nI (nd (sgn σ) (siz σ) (fF σ 26))) (fun r_29 m_28 => (tg m_28 (A 2) = 2 ∧ wp_Machine_doSign m_28 (A 2) (A (100 + fF σ 25)) r_29 (nI (nd (sgn σ) (siz σ) (fF σ 26))) (fun r_32 m_31 => ((r_32 = 0 → wp_Machine_execute_108 K P m_31 (A 2) (A (100 + fF σ 25)) (nI (fF σ 27))) ∧ (¬ r_32 = 0 → (tg m_31 (A (100 + fF σ 25)) = 8 ∧ wp_Job_fail m_31 (A (100 + fF σ 25)) r_32 (nI (nd (sgn σ) (siz σ) (fF σ 26))) (fun m_35 => wp_Machine_execute_108 K P m_35 (A 2) (A (100 + fF σ 25)) (nI (fF σ 27))))))))))))  := by
  obtain ⟨g1, hd, g2, kp, n1, n2⟩ := nx_ok h h1 h2
  have sz : siz σ ≤ 200 := h.1.1.size _
  have hP := r.2.1.2.2.2.1
  have hS := r.1.1
  have T2 := r.1.1.T2
  have hjj := r.2.2.2.2
  obtain ⟨-, T8, R80, -, T24, L24, -, -⟩ := r.1.2.1.2.2.1 _ hjj
  obtain ⟨s1, s2⟩ := r.1.2.2.2.2.2.2.2.2.1 _ hjj
  refine y_first (m := sI m 8 7 (A (100 + fF σ 25)) (nI (fF σ 27 + 1))) (g := sgn σ) (n := siz σ) (p := nd (sgn σ) (siz σ) (fF σ 26) + 1) hS hP sz (by omega) ⟨T2, fun m1 e1 => ⟨by rw [e1]; exact T8, ?_⟩⟩
  have r1 : RJ m1 A (uF (uF σ 26 (nd (sgn σ) (siz σ) (fF σ 26))) 27 (fF σ 27 + 1)) (nd (sgn σ) (siz σ) (fF σ 26) + 1) a B τ := by
    rw [e1]
    have rc := r.1.jf (j := fF σ 25) (fun _ q => q) hjj 7 (by decide) (nI (fF σ 27 + 1))
    obtain ⟨c1, c2, c3, c4, c5, c6, c7⟩ := r.2.1.2.2.2.2.2.1
    refine ⟨rc, ⟨r.2.1.1, r.2.1.2.1, r.2.1.2.2.1, r.2.1.2.2.2.1, r.2.1.2.2.2.2.1, ⟨c1, c2, c3, c4, ?_, c6, c7⟩, ?_⟩, r.2.2.1, (r.2.2.2.1.oI (by decide) _ _ _).oI (by decide) _ _ _, hjj⟩
    · show gI (sI (sI m 8 7 (A (100 + fF σ 25)) (nI (fF σ 27 + 1))) 2 9 (A 2) (nI (nd (sgn σ) (siz σ) (nd (sgn σ) (siz σ) (fF σ 26) + 1)))) 8 7 (A (100 + fF σ 25)) = nI (fF σ 27 + 1)
      simp (disch := omega) only [forall_eq, tg_sI, gI_sI, gR_sI, aI_sI, aR_sI, ln_sI, tg_sR, gI_sR, gR_sR, aI_sR, aR_sR, ln_sR, tg_wI, gI_wI, gR_wI, aI_wI, aR_wI, ln_wI, tg_wR, gI_wR, gR_wR, aI_wR, aR_wR, ln_wR, tg_wC, gI_wC, gR_wC, aI_wC, aR_wC, ln_wC, tg_nO, gI_nO, gR_nO, aI_nO, aR_nO, ln_nO, tg_nA, gI_nA, gR_nA, aI_nA, aR_nA, ln_nA, Nat.reduceEqDiff, reduceCtorEq, false_and, true_and, and_true, and_false, and_self, if_true, if_false, ↓reduceIte, forall_const, true_implies, imp_self, not_true, not_false_eq_true, implies_true, not_false, eq_self, Nat.reduceLT, Nat.reduceLeDiff, fF_uF, fN_uF, fD_uF, fM_uF, fF_uN, fN_uN, fD_uN, fM_uN, fF_uD, fN_uD, fD_uD, fM_uD, fF_uM, fN_uM, fD_uM, fM_uM]
    · simp (disch := omega) only [forall_eq, tg_sI, gI_sI, gR_sI, aI_sI, aR_sI, ln_sI, tg_sR, gI_sR, gR_sR, aI_sR, aR_sR, ln_sR, tg_wI, gI_wI, gR_wI, aI_wI, aR_wI, ln_wI, tg_wR, gI_wR, gR_wR, aI_wR, aR_wR, ln_wR, tg_wC, gI_wC, gR_wC, aI_wC, aR_wC, ln_wC, tg_nO, gI_nO, gR_nO, aI_nO, aR_nO, ln_nO, tg_nA, gI_nA, gR_nA, aI_nA, aR_nA, ln_nA, Nat.reduceEqDiff, reduceCtorEq, false_and, true_and, and_true, and_false, and_self, if_true, if_false, ↓reduceIte, forall_const, true_implies, imp_self, not_true, not_false_eq_true, implies_true, not_false, eq_self, Nat.reduceLT, Nat.reduceLeDiff, fF_uF, fN_uF, fD_uF, fM_uF, fF_uN, fN_uN, fD_uN, fM_uN, fF_uD, fN_uD, fD_uD, fM_uD, fF_uM, fN_uM, fD_uM, fM_uM]
      rfl
  have hPB : PB m1 A (A (100 + fF σ 25)) (A (130 + fF σ 25)) (sgn σ) (siz σ) := by
    rw [e1]
    exact ⟨T8, s1, R80, T24, L24, s2, hS, hP.1, sz⟩
  clear e1
  refine y_sign hPB h1 ⟨r1.1.1.T2, ?_⟩
  have hbb : bl (uF (uF σ 26 (nd (sgn σ) (siz σ) (fF σ 26))) 27 (fF σ 27 + 1)) (fF σ 32) = opn (sgn σ) (nd (sgn σ) (siz σ) (fF σ 26)) := by
    rw [bl_uF, bl_uF, (nd_ok (g := sgn σ) (n := siz σ) _ (fF σ 26) rfl h.2.1.2.2).2.2.1]
    exact h.2.1.2.1
  refine y_do (σ := uF (uF σ 26 (nd (sgn σ) (siz σ) (fF σ 26))) 27 (fF σ 27 + 1)) r1 g1 h.2.2.1 h1 hd hbb rfl (fun m2 r2 => ?_)
  have r2' : RJ m2 A (nxS σ) (fF (nxS σ) 26 + 1) a B τ := r2
  have e35 : fF (nxS σ) 35 ≤ 7 := g2.2.2.2.2.2.2.2.2.2.1
  have e25 : fF (nxS σ) 25 = fF σ 25 := kp.1
  have e2 : fF (nxS σ) 2 = fF σ 2 := kp.2.2.1
  have esz : siz (nxS σ) = siz σ := (kp_siz kp).trans rfl
  show (nI (fF (nxS σ) 35) = 0 → _) ∧ (¬ nI (fF (nxS σ) 35) = 0 → _)
  rw [eL_0 (by omega)]
  unfold wp_Machine_execute_108
  refine ⟨fun q u eu => ?_, fun q => ?_⟩
  · rw [eu, nI_1]
    exact k0 q m2 r2'
  · have T8' := (r2'.1.2.1.2.2.1 _ r2'.2.2.2.2).2.1
    rw [e25] at T8'
    refine ⟨T8', ?_⟩
    unfold wp_Job_fail wp_Job_fail_0
    have s1' := (r2'.1.2.2.2.2.2.2.2.2.1 _ r2'.2.2.2.2).1
    have s2' : gI m2 8 2 (A (100 + fF σ 25)) = nI (siz σ) := by
      rw [← esz, ← e25]; exact s1'
    have es : nI (siz σ) - nI (nd (sgn σ) (siz σ) (fF σ 26)) - 1 = nI (siz σ - nd (sgn σ) (siz σ) (fF σ 26) - 1) := nI_sub2 (by omega) (by omega)
    simp only [forall_eq, T8', tg_sI, gI_sI, Nat.reduceEqDiff, false_and, and_false, if_false, s2', true_and, nI_1, es]
    refine k1 q _ ?_ ?_
    · obtain ⟨c1, c2, c3, c4, c5, c6, c7⟩ := r2'.2.1.2.2.2.2.2.1
      have jf := fun {m : Mm} (h : RC m A (nxS σ) (fun h => fN (nxS σ) 23 h) (fun j => j ≠ fF (nxS σ) 25)) (f : Nat) (hf : 4 ≤ f) (v : Int32) => h.jf (j := fF (nxS σ) 25) (fun _ q => q) r2'.2.2.2.2 f hf v
      rw [← e25]
      refine tell_RF (jf (jf (jf (jf r2'.1 4 (by decide) _) 5 (by decide) _) 6 (by decide) _) 8 (by decide) _) r2'.2.1.2.2.2.2.1 r2'.2.2.1 ((((r2'.2.2.2.1.oI (by decide) _ _ _).oI (by decide) _ _ _).oI (by decide) _ _ _).oI (by decide) _ _ _) ?_ ?_ ?_ ?_ ?_ ?_ c7
      · simp (disch := omega) only [forall_eq, tg_sI, gI_sI, gR_sI, aI_sI, aR_sI, ln_sI, tg_sR, gI_sR, gR_sR, aI_sR, aR_sR, ln_sR, tg_wI, gI_wI, gR_wI, aI_wI, aR_wI, ln_wI, tg_wR, gI_wR, gR_wR, aI_wR, aR_wR, ln_wR, tg_wC, gI_wC, gR_wC, aI_wC, aR_wC, ln_wC, tg_nO, gI_nO, gR_nO, aI_nO, aR_nO, ln_nO, tg_nA, gI_nA, gR_nA, aI_nA, aR_nA, ln_nA, Nat.reduceEqDiff, reduceCtorEq, false_and, true_and, and_true, and_false, and_self, if_true, if_false, ↓reduceIte, forall_const, true_implies, imp_self, not_true, not_false_eq_true, implies_true, not_false, eq_self, Nat.reduceLT, Nat.reduceLeDiff, fF_uF, fN_uF, fD_uF, fM_uF, fF_uN, fN_uN, fD_uN, fM_uN, fF_uD, fN_uD, fD_uD, fM_uD, fF_uM, fN_uM, fD_uM, fM_uM]; rfl
      · simp (disch := omega) only [forall_eq, tg_sI, gI_sI, gR_sI, aI_sI, aR_sI, ln_sI, tg_sR, gI_sR, gR_sR, aI_sR, aR_sR, ln_sR, tg_wI, gI_wI, gR_wI, aI_wI, aR_wI, ln_wI, tg_wR, gI_wR, gR_wR, aI_wR, aR_wR, ln_wR, tg_wC, gI_wC, gR_wC, aI_wC, aR_wC, ln_wC, tg_nO, gI_nO, gR_nO, aI_nO, aR_nO, ln_nO, tg_nA, gI_nA, gR_nA, aI_nA, aR_nA, ln_nA, Nat.reduceEqDiff, reduceCtorEq, false_and, true_and, and_true, and_false, and_self, if_true, if_false, ↓reduceIte, forall_const, true_implies, imp_self, not_true, not_false_eq_true, implies_true, not_false, eq_self, Nat.reduceLT, Nat.reduceLeDiff, fF_uF, fN_uF, fD_uF, fM_uF, fF_uN, fN_uN, fD_uN, fM_uN, fF_uD, fN_uD, fD_uD, fM_uD, fF_uM, fN_uM, fD_uM, fM_uM]; rfl
      · rw [if_pos (by omega), n1 q]; simp (disch := omega) only [forall_eq, tg_sI, gI_sI, gR_sI, aI_sI, aR_sI, ln_sI, tg_sR, gI_sR, gR_sR, aI_sR, aR_sR, ln_sR, tg_wI, gI_wI, gR_wI, aI_wI, aR_wI, ln_wI, tg_wR, gI_wR, gR_wR, aI_wR, aR_wR, ln_wR, tg_wC, gI_wC, gR_wC, aI_wC, aR_wC, ln_wC, tg_nO, gI_nO, gR_nO, aI_nO, aR_nO, ln_nO, tg_nA, gI_nA, gR_nA, aI_nA, aR_nA, ln_nA, Nat.reduceEqDiff, reduceCtorEq, false_and, true_and, and_true, and_false, and_self, if_true, if_false, ↓reduceIte, forall_const, true_implies, imp_self, not_true, not_false_eq_true, implies_true, not_false, eq_self, Nat.reduceLT, Nat.reduceLeDiff, fF_uF, fN_uF, fD_uF, fM_uF, fF_uN, fN_uN, fD_uN, fM_uN, fF_uD, fN_uD, fD_uD, fM_uD, fF_uM, fN_uM, fD_uM, fM_uM]
      · simp (disch := omega) only [forall_eq, tg_sI, gI_sI, gR_sI, aI_sI, aR_sI, ln_sI, tg_sR, gI_sR, gR_sR, aI_sR, aR_sR, ln_sR, tg_wI, gI_wI, gR_wI, aI_wI, aR_wI, ln_wI, tg_wR, gI_wR, gR_wR, aI_wR, aR_wR, ln_wR, tg_wC, gI_wC, gR_wC, aI_wC, aR_wC, ln_wC, tg_nO, gI_nO, gR_nO, aI_nO, aR_nO, ln_nO, tg_nA, gI_nA, gR_nA, aI_nA, aR_nA, ln_nA, Nat.reduceEqDiff, reduceCtorEq, false_and, true_and, and_true, and_false, and_self, if_true, if_false, ↓reduceIte, forall_const, true_implies, imp_self, not_true, not_false_eq_true, implies_true, not_false, eq_self, Nat.reduceLT, Nat.reduceLeDiff, fF_uF, fN_uF, fD_uF, fM_uF, fF_uN, fN_uN, fD_uN, fM_uN, fF_uD, fN_uD, fD_uD, fM_uD, fF_uM, fN_uM, fD_uM, fM_uM]; exact c6
      · simp (disch := omega) only [forall_eq, tg_sI, gI_sI, gR_sI, aI_sI, aR_sI, ln_sI, tg_sR, gI_sR, gR_sR, aI_sR, aR_sR, ln_sR, tg_wI, gI_wI, gR_wI, aI_wI, aR_wI, ln_wI, tg_wR, gI_wR, gR_wR, aI_wR, aR_wR, ln_wR, tg_wC, gI_wC, gR_wC, aI_wC, aR_wC, ln_wC, tg_nO, gI_nO, gR_nO, aI_nO, aR_nO, ln_nO, tg_nA, gI_nA, gR_nA, aI_nA, aR_nA, ln_nA, Nat.reduceEqDiff, reduceCtorEq, false_and, true_and, and_true, and_false, and_self, if_true, if_false, ↓reduceIte, forall_const, true_implies, imp_self, not_true, not_false_eq_true, implies_true, not_false, eq_self, Nat.reduceLT, Nat.reduceLeDiff, fF_uF, fN_uF, fD_uF, fM_uF, fF_uN, fN_uN, fD_uN, fM_uN, fF_uD, fN_uD, fD_uD, fM_uD, fF_uM, fN_uM, fD_uM, fM_uM]; exact c5
      · rw [if_pos (by omega), n1 q, esz]; simp (disch := omega) only [forall_eq, tg_sI, gI_sI, gR_sI, aI_sI, aR_sI, ln_sI, tg_sR, gI_sR, gR_sR, aI_sR, aR_sR, ln_sR, tg_wI, gI_wI, gR_wI, aI_wI, aR_wI, ln_wI, tg_wR, gI_wR, gR_wR, aI_wR, aR_wR, ln_wR, tg_wC, gI_wC, gR_wC, aI_wC, aR_wC, ln_wC, tg_nO, gI_nO, gR_nO, aI_nO, aR_nO, ln_nO, tg_nA, gI_nA, gR_nA, aI_nA, aR_nA, ln_nA, Nat.reduceEqDiff, reduceCtorEq, false_and, true_and, and_true, and_false, and_self, if_true, if_false, ↓reduceIte, forall_const, true_implies, imp_self, not_true, not_false_eq_true, implies_true, not_false, eq_self, Nat.reduceLT, Nat.reduceLeDiff, fF_uF, fN_uF, fD_uF, fM_uF, fF_uN, fN_uN, fD_uN, fM_uN, fF_uD, fN_uD, fD_uD, fM_uD, fF_uM, fN_uM, fD_uM, fM_uM]
    · simp (disch := omega) only [forall_eq, tg_sI, gI_sI, gR_sI, aI_sI, aR_sI, ln_sI, tg_sR, gI_sR, gR_sR, aI_sR, aR_sR, ln_sR, tg_wI, gI_wI, gR_wI, aI_wI, aR_wI, ln_wI, tg_wR, gI_wR, gR_wR, aI_wR, aR_wR, ln_wR, tg_wC, gI_wC, gR_wC, aI_wC, aR_wC, ln_wC, tg_nO, gI_nO, gR_nO, aI_nO, aR_nO, ln_nO, tg_nA, gI_nA, gR_nA, aI_nA, aR_nA, ln_nA, Nat.reduceEqDiff, reduceCtorEq, false_and, true_and, and_true, and_false, and_self, if_true, if_false, ↓reduceIte, forall_const, true_implies, imp_self, not_true, not_false_eq_true, implies_true, not_false, eq_self, Nat.reduceLT, Nat.reduceLeDiff, fF_uF, fN_uF, fD_uF, fM_uF, fF_uN, fN_uN, fD_uN, fM_uN, fF_uD, fN_uD, fD_uD, fM_uD, fF_uM, fN_uM, fD_uM, fM_uM]; decide
theorem y_exec {A : Nat → Nat} {τ : Sg} {a : Nat} {B : Nat → Nat} {P : Mm → Prop} : ∀ (k : Nat) (σ : Sg), k = fF σ 1 + 1 - fF σ 27 → LpS σ → (∀ m', RF m' A (tell (runS k σ).1 (runS k σ).2) a B τ → wp_Machine_finish m' (A 2) P) → ∃ f, ∀ m, RJ m A σ (fF σ 26) a B τ → wp_Machine_execute_7 P f m (A 2) (A (100 + fF σ 25)) (nI (fF σ 27))
  | 0, σ, hk, h, _ => by
    have := h.1.2.2.2.2.1
    omega
  | k + 1, σ, hk, h, kf => by
    have b27 := h.1.2.2.2.2.1
    have b1 := h.1.1.most
    have sz : siz σ ≤ 200 := h.1.1.size _
    have ndl := (nd_ok (g := sgn σ) (n := siz σ) _ (fF σ 26) rfl h.2.1.2.2).2.1
    rw [runS_nx] at kf
    have head : ∀ (f : Nat) (m : Mm), RJ m A σ (fF σ 26) a B τ → ((¬ nd (sgn σ) (siz σ) (fF σ 26) < siz σ) → wp_Machine_execute_7 P f (sI m 8 4 (A (100 + fF σ 25)) 1) (A 2) (A (100 + fF σ 25)) (nI (fF σ 27 + 1))) → (nd (sgn σ) (siz σ) (fF σ 26) < siz σ → fF σ 27 = fF σ 1 → wp_Machine_execute_7 P f (sI m 8 4 (A (100 + fF σ 25)) 3) (A 2) (A (100 + fF σ 25)) (nI (fF σ 27 + 1))) → (nd (sgn σ) (siz σ) (fF σ 26) < siz σ → fF σ 27 ≠ fF σ 1 → wp_Plan_firstDoneFrom (sI m 8 7 (A (100 + fF σ 25)) (nI (fF σ 27 + 1))) (A 15) (nI (nd (sgn σ) (siz σ) (fF σ 26) + 1)) (fun r_24 m_23 => (tg m_23 (A 2) = 2 ∧ ∀ m_27 : Mm, m_27 = sI m_23 2 9 (A 2) r_24 → (tg m_27 (A (100 + fF σ 25)) = 8 ∧ wp_Job_signAt m_27 (A (100 + fF σ 25)) (nI (nd (sgn σ) (siz σ) (fF σ 26))) (fun r_29 m_28 => (tg m_28 (A 2) = 2 ∧ wp_Machine_doSign m_28 (A 2) (A (100 + fF σ 25)) r_29 (nI (nd (sgn σ) (siz σ) (fF σ 26))) (fun r_32 m_31 => ((r_32 = 0 → wp_Machine_execute_108 (wp_Machine_execute_7 P f) P m_31 (A 2) (A (100 + fF σ 25)) (nI (fF σ 27))) ∧ (¬ r_32 = 0 → (tg m_31 (A (100 + fF σ 25)) = 8 ∧ wp_Job_fail m_31 (A (100 + fF σ 25)) r_32 (nI (nd (sgn σ) (siz σ) (fF σ 26))) (fun m_35 => wp_Machine_execute_108 (wp_Machine_execute_7 P f) P m_35 (A 2) (A (100 + fF σ 25)) (nI (fF σ 27)))))))))))))  → wp_Machine_execute_7 P (f + 1) m (A 2) (A (100 + fF σ 25)) (nI (fF σ 27)) := fun f m r a1 a2 a3 => by
      have T2 := r.1.1.T2
      have T15 := r.1.1.T15
      have R25 := r.1.1.R2_5
      have T8 := (r.1.2.1.2.2.1 _ r.2.2.2.2).2.1
      have l3 : gI m 2 3 (A 2) = nI (fF σ 1) := r.1.2.2.1.2.2
      have j4 : gI m 8 4 (A (100 + fF σ 25)) = nI (fF σ 36) := r.2.1.2.2.2.2.2.1.1
      rw [h.2.2.2] at j4
      have np : gI m 2 9 (A 2) = nI (nd (sgn σ) (siz σ) (fF σ 26)) := r.2.1.2.2.2.2.2.2
      have js : gI m 8 2 (A (100 + fF σ 25)) = nI (siz σ) := (r.1.2.2.2.2.2.2.2.2.1 _ r.2.2.2.2).1
      have j7 : gI m 8 7 (A (100 + fF σ 25)) = nI (fF σ 27) := r.2.1.2.2.2.2.2.1.2.2.2.2.1
      unfold wp_Machine_execute_7
      refine ⟨T2, fun u eu => ?_⟩
      rw [l3] at eu
      subst eu
      rw [c_lt (by omega) (by omega)]
      refine ⟨fun q => absurd q (by omega), fun _ => ⟨T8, fun u eu => ?_⟩⟩
      rw [j4] at eu
      subst eu
      refine ⟨fun _ => ⟨T2, fun u eu => ?_⟩, fun q => absurd rfl q⟩
      rw [np] at eu
      subst eu
      refine ⟨T8, fun u eu => ?_⟩
      rw [js] at eu
      subst eu
      rw [c_lt (by omega) (by omega)]
      refine ⟨fun q => ⟨T2, fun u eu => ?_⟩, fun q => ⟨T8, fun m1 e1 => ?_⟩⟩
      · rw [l3] at eu
        subst eu
        rw [c_eq (by omega) (by omega)]
        refine ⟨fun q1 => ⟨T8, fun m1 e1 => ?_⟩, fun q1 => ⟨T8, fun u eu => ?_⟩⟩
        · rw [e1]
          unfold wp_Machine_execute_108
          intro u eu
          rw [eu, nI_1]
          exact a2 q q1
        · rw [j7] at eu
          subst eu
          intro u eu
          subst eu
          refine ⟨T8, fun m1 e1 => ?_⟩
          rw [nI_1] at e1
          subst e1
          refine ⟨T2, fun u eu => ?_⟩
          rw [show gR (sI m 8 7 (A (100 + fF σ 25)) (nI (fF σ 27 + 1))) 2 5 (A 2) = A 15 from R25] at eu
          subst eu
          intro u eu
          rw [nI_1] at eu
          subst eu
          exact ⟨T15, a3 q q1⟩
      · rw [e1]
        unfold wp_Machine_execute_108
        intro u eu
        rw [eu, nI_1]
        exact a1 q
    by_cases q : nd (sgn σ) (siz σ) (fF σ 26) < siz σ
    · rw [if_neg (by omega)] at kf
      by_cases q1 : fF σ 27 = fF σ 1
      · rw [if_pos q1] at kf
        refine ⟨2, fun m r => head 1 m r (fun z => absurd q z) (fun _ _ => ?_) (fun _ z => absurd q1 z)⟩
        have rf := r.o4 h.2.2.1 3
        exact y_exit rf.1 r.2.2.2.2 (by rw [gI_sI, if_pos ⟨rfl, rfl, rfl⟩]; decide) (kf _ rf)
      · rw [if_neg q1] at kf
        obtain ⟨g1, hd, g2, kp, n1, n2⟩ := nx_ok h q q1
        have e25 : fF (nxS σ) 25 = fF σ 25 := kp.1
        have e2 : fF (nxS σ) 2 = fF σ 2 := kp.2.2.1
        have e27 : fF (nxS σ) 27 = fF σ 27 + 1 := kp.2.2.2.2.1
        have e1' : fF (nxS σ) 1 = fF σ 1 := kp.2.1
        by_cases q2 : fF (nxS σ) 35 = 0
        · rw [if_neg (by omega)] at kf
          by_cases q3 : fF (nxS σ) 36 = 0
          · rw [if_neg (by omega)] at kf
            obtain ⟨f, hf⟩ := y_exec k (uF (nxS σ) 26 (fF (nxS σ) 26 + 1)) (by show k = fF (nxS σ) 1 + 1 - fF (nxS σ) 27; omega) ((n2 q2).2 q3) kf
            refine ⟨f + 1, fun m r => head f m r (fun z => absurd q z) (fun _ z => absurd z q1) (fun _ _ => y_step r h q q1 (fun _ m' r' => ?_) (fun z => absurd q2 z))⟩
            have := hf m' r'
            rw [show fF (uF (nxS σ) 26 (fF (nxS σ) 26 + 1)) 25 = fF σ 25 from e25, show fF (uF (nxS σ) 26 (fF (nxS σ) 26 + 1)) 27 = fF σ 27 + 1 from e27] at this
            exact this
          · rw [if_pos q3] at kf
            have q36 : fF (nxS σ) 36 = 1 := by have := g2.2.2.2.2.2.2.2.2.2.2; omega
            refine ⟨2, fun m r => head 1 m r (fun z => absurd q z) (fun _ z => absurd z q1) (fun _ _ => y_step r h q q1 (fun _ m' r' => ?_) (fun z => absurd q2 z))⟩
            have o4 : gI m' 8 4 (A (100 + fF (nxS σ) 25)) = nI 1 := by have := r'.2.1.2.2.2.2.2.1.1; rw [q36] at this; exact this
            have rf := jx0 r' q2 o4
            rw [e25] at o4
            exact y_exit rf.1 (by show fF σ 25 < fF (nxS σ) 2; rw [e2]; exact r.2.2.2.2) (by rw [o4]; decide) (kf _ rf)
        · rw [if_pos q2] at kf
          refine ⟨2, fun m r => head 1 m r (fun z => absurd q z) (fun _ z => absurd z q1) (fun _ _ => y_step r h q q1 (fun z => absurd z q2) (fun _ m' rf ho => ?_))⟩
          exact y_exit rf.1 (by show fF σ 25 < fF (nxS σ) 2; rw [e2]; exact r.2.2.2.2) ho (kf _ rf)
    · rw [if_pos (by omega)] at kf
      refine ⟨2, fun m r => head 1 m r (fun _ => ?_) (fun z => absurd z q) (fun z => absurd z q)⟩
      have rf := r.o4 h.2.2.1 1
      exact y_exit rf.1 r.2.2.2.2 (by rw [gI_sI, if_pos ⟨rfl, rfl, rfl⟩]; decide) (kf _ rf)
