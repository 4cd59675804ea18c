/-! pages and loops -/
theorem f40 : ∀ n, n ≤ 40 → (40 : Int32) - nI n = nI (40 - n) := by
  have : ∀ n, n < 41 → (40 : Int32) - nI n = nI (40 - n) := by decide +kernel
  exact fun n h => this n (by omega)
theorem pg35 : ∀ (c : Nat) (σ : Sg), fF (pgS c σ) 35 = fF σ 35
  | 0, _ => rfl
  | c + 1, σ => (pg35 c _).trans rfl

theorem y_first {m : Mm} {A : Nat → Nat} {g : Nat → Int32} {n p : Nat} (hS : ShF m A) (hP : PL m A g n) (hn : n ≤ 200) (hp : p < 2 ^ 31) {P : Int32 → Mm → Prop} (k : P (nI (nd g n p)) m) : wp_Plan_firstDoneFrom m (A 15) (nI p) P := by
  unfold wp_Plan_firstDoneFrom wp_Plan_firstDoneFrom_0 wp_Plan_firstDoneFrom_12
  have T15 := hS.T15
  have T16 := hS.T16
  have L16 := hS.L16
  have R := hS.R7_0
  have l := hP.1
  rw [ltL_0 hp]
  refine ⟨fun z => absurd z (by omega), fun _ => ?_⟩
  simp only [forall_eq, T15, T16, L16, R, l, true_and]
  rw [c_lt hp (by omega)]
  refine ⟨fun z => ?_, fun z => ?_⟩
  · have e := hP.2.1 p z
    rw [nI_clamp hp, e]
    exact ⟨c_in (by decide) (by omega), k⟩
  · rw [nd_ge (by omega)] at k; exact k
theorem y_mate {m : Mm} {A : Nat → Nat} {g : Nat → Int32} {n p : Nat} (hS : ShF m A) (hP : PL m A g n) (hn : n ≤ 200) (hp : p < n) {P : Int32 → Mm → Prop} (k : P (aI m 22 (A 17) p) m) : wp_Plan_mateOf m (A 15) (nI p) P := by
  unfold wp_Plan_mateOf wp_Plan_mateOf_0 wp_Plan_mateOf_12
  have T15 := hS.T15
  have T17 := hS.T17
  have L17 := hS.L17
  have R := hS.R7_1
  have l := hP.1
  rw [ltL_0 (by omega)]
  refine ⟨fun z => absurd z (by omega), fun _ => ?_⟩
  simp only [forall_eq, T15, T17, L17, R, l, true_and]
  rw [c_lt (by omega) (by omega)]
  refine ⟨fun z => ?_, fun z => absurd hp z⟩
  rw [nI_clamp (by omega)]
  exact ⟨c_in (by decide) (by omega), k⟩
theorem RJ.pg {m : Mm} {A : Nat → Nat} {σ τ : Sg} {x a : Nat} {B : Nat → Nat} (r : RJ m A σ x a B τ) (hI : Inv σ) (h31 : fF σ 31 < 40) : RJ (sI (wI m 25 (A (160 + fF σ 25)) (fF σ 31) (fM σ)) 8 3 (A (100 + fF σ 25)) (nI (fF σ 31 + 1))) A (uF (uD σ 6 (40 * fF σ 25 + fF σ 31) (fM σ)) 31 (fF σ 31 + 1)) x a B τ := by
  obtain ⟨⟨h1, h2, h3, h4, h5, h6, h7, h8, h9, h10⟩, ⟨x1, x2, x3, x4, x5, x6, x7⟩, kf, hm, hj⟩ := r
  refine ⟨⟨h1, h2, h3, h4, h5, h6, h7, h8, h9, fun j hj1 hj2 => ?_⟩, ⟨x1, x2, x3, x4, x5, ⟨x6.1, x6.2.1, x6.2.2.1, x6.2.2.2.1, x6.2.2.2.2.1, ?_, fun i hi => ?_⟩, x7⟩, kf, (hm.oW (by decide) _ _ _).oI (by decide) _ _ _, hj⟩
  · have q := h10 j hj1 hj2
    have e : ¬ j = fF σ 25 := hj2
    have ne : (A (100 + j) = A (100 + fF σ 25)) = False := by rw [h2.e100 hj1 hj]; exact eq_false e
    have ne2 : (A (160 + j) = A (160 + fF σ 25)) = False := by rw [h2.e160 hj1 hj]; exact eq_false e
    have pg := hI.pages j
    obtain ⟨q1, q2, q3, q4, q5, q6, q7⟩ := q
    refine ⟨q1, q2, q3, ?_, q5, q6, fun i hi => ?_⟩
    · simp (disch := omega) only [forall_eq, tg_sI, gI_sI, gR_sI, aI_sI, aR_sI, ln_sI, tg_sR, gI_sR, gR_sR, aI_sR, aR_sR, ln_sR, tg_wI, gI_wI, gR_wI, aI_wI, aR_wI, ln_wI, tg_wR, gI_wR, gR_wR, aI_wR, aR_wR, ln_wR, tg_wC, gI_wC, gR_wC, aI_wC, aR_wC, ln_wC, tg_nO, gI_nO, gR_nO, aI_nO, aR_nO, ln_nO, tg_nA, gI_nA, gR_nA, aI_nA, aR_nA, ln_nA, Nat.reduceEqDiff, reduceCtorEq, false_and, true_and, and_true, and_false, and_self, if_true, if_false, ↓reduceIte, forall_const, true_implies, imp_self, not_true, not_false_eq_true, implies_true, not_false, eq_self, Nat.reduceLT, Nat.reduceLeDiff, fF_uF, fN_uF, fD_uF, fM_uF, fF_uN, fN_uN, fD_uN, fM_uN, fF_uD, fN_uD, fD_uD, fM_uD, fF_uM, fN_uM, fD_uM, fM_uM, ne]; exact q4
    · have hi' : i < fN σ 5 (6 * j + 3) := hi
      have e2 : ¬ 40 * j + i = 40 * fF σ 25 + fF σ 31 := by omega
      have := q7 i hi'
      simp (disch := omega) only [forall_eq, tg_sI, gI_sI, gR_sI, aI_sI, aR_sI, ln_sI, tg_sR, gI_sR, gR_sR, aI_sR, aR_sR, ln_sR, tg_wI, gI_wI, gR_wI, aI_wI, aR_wI, ln_wI, tg_wR, gI_wR, gR_wR, aI_wR, aR_wR, ln_wR, tg_wC, gI_wC, gR_wC, aI_wC, aR_wC, ln_wC, tg_nO, gI_nO, gR_nO, aI_nO, aR_nO, ln_nO, tg_nA, gI_nA, gR_nA, aI_nA, aR_nA, ln_nA, Nat.reduceEqDiff, reduceCtorEq, false_and, true_and, and_true, and_false, and_self, if_true, if_false, ↓reduceIte, forall_const, true_implies, imp_self, not_true, not_false_eq_true, implies_true, not_false, eq_self, Nat.reduceLT, Nat.reduceLeDiff, fF_uF, fN_uF, fD_uF, fM_uF, fF_uN, fN_uN, fD_uN, fM_uN, fF_uD, fN_uD, fD_uD, fM_uD, fF_uM, fN_uM, fD_uM, fM_uM, ne2, e2]
      exact this
  · show gI (sI (wI m 25 (A (160 + fF σ 25)) (fF σ 31) (fM σ)) 8 3 (A (100 + fF σ 25)) (nI (fF σ 31 + 1))) 8 3 (A (100 + fF σ 25)) = nI (fF σ 31 + 1)
    simp (disch := omega) only [forall_eq, tg_sI, gI_sI, gR_sI, aI_sI, aR_sI, ln_sI, tg_sR, gI_sR, gR_sR, aI_sR, aR_sR, ln_sR, tg_wI, gI_wI, gR_wI, aI_wI, aR_wI, ln_wI, tg_wR, gI_wR, gR_wR, aI_wR, aR_wR, ln_wR, tg_wC, gI_wC, gR_wC, aI_wC, aR_wC, ln_wC, tg_nO, gI_nO, gR_nO, aI_nO, aR_nO, ln_nO, tg_nA, gI_nA, gR_nA, aI_nA, aR_nA, ln_nA, Nat.reduceEqDiff, reduceCtorEq, false_and, true_and, and_true, and_false, and_self, if_true, if_false, ↓reduceIte, forall_const, true_implies, imp_self, not_true, not_false_eq_true, implies_true, not_false, eq_self, Nat.reduceLT, Nat.reduceLeDiff, fF_uF, fN_uF, fD_uF, fM_uF, fF_uN, fN_uN, fD_uN, fM_uN, fF_uD, fN_uD, fD_uD, fM_uD, fF_uM, fN_uM, fD_uM, fM_uM]
  · have hi' : i < fF σ 31 + 1 := hi
    show aI (sI (wI m 25 (A (160 + fF σ 25)) (fF σ 31) (fM σ)) 8 3 (A (100 + fF σ 25)) (nI (fF σ 31 + 1))) 25 (A (160 + fF σ 25)) i = fD (uF (uD σ 6 (40 * fF σ 25 + fF σ 31) (fM σ)) 31 (fF σ 31 + 1)) 6 (40 * fF σ 25 + i)
    by_cases e : i = fF σ 31
    · subst e; simp (disch := omega) only [forall_eq, tg_sI, gI_sI, gR_sI, aI_sI, aR_sI, ln_sI, tg_sR, gI_sR, gR_sR, aI_sR, aR_sR, ln_sR, tg_wI, gI_wI, gR_wI, aI_wI, aR_wI, ln_wI, tg_wR, gI_wR, gR_wR, aI_wR, aR_wR, ln_wR, tg_wC, gI_wC, gR_wC, aI_wC, aR_wC, ln_wC, tg_nO, gI_nO, gR_nO, aI_nO, aR_nO, ln_nO, tg_nA, gI_nA, gR_nA, aI_nA, aR_nA, ln_nA, Nat.reduceEqDiff, reduceCtorEq, false_and, true_and, and_true, and_false, and_self, if_true, if_false, ↓reduceIte, forall_const, true_implies, imp_self, not_true, not_false_eq_true, implies_true, not_false, eq_self, Nat.reduceLT, Nat.reduceLeDiff, fF_uF, fN_uF, fD_uF, fM_uF, fF_uN, fN_uN, fD_uN, fM_uN, fF_uD, fN_uD, fD_uD, fM_uD, fF_uM, fN_uM, fD_uM, fM_uM]
    · have e2 : ¬ 40 * fF σ 25 + i = 40 * fF σ 25 + fF σ 31 := by omega
      have := x6.2.2.2.2.2.2 i (by omega)
      simp (disch := omega) only [forall_eq, tg_sI, gI_sI, gR_sI, aI_sI, aR_sI, ln_sI, tg_sR, gI_sR, gR_sR, aI_sR, aR_sR, ln_sR, tg_wI, gI_wI, gR_wI, aI_wI, aR_wI, ln_wI, tg_wR, gI_wR, gR_wR, aI_wR, aR_wR, ln_wR, tg_wC, gI_wC, gR_wC, aI_wC, aR_wC, ln_wC, tg_nO, gI_nO, gR_nO, aI_nO, aR_nO, ln_nO, tg_nA, gI_nA, gR_nA, aI_nA, aR_nA, ln_nA, Nat.reduceEqDiff, reduceCtorEq, false_and, true_and, and_true, and_false, and_self, if_true, if_false, ↓reduceIte, forall_const, true_implies, imp_self, not_true, not_false_eq_true, implies_true, not_false, eq_self, Nat.reduceLT, Nat.reduceLeDiff, fF_uF, fN_uF, fD_uF, fM_uF, fF_uN, fN_uN, fD_uN, fM_uN, fF_uD, fN_uD, fD_uD, fM_uD, fF_uM, fN_uM, fD_uM, fM_uM, e, e2]
      exact this
theorem y_pg {A : Nat → Nat} {τ : Sg} {x a cp : Nat} {B : Nat → Nat} {P : Int32 → Mm → Prop} (hcp : cp ≤ 9) : ∀ (c i : Nat) (m : Mm) (σ : Sg), c + i = cp → Inv σ → fF σ 31 + c ≤ 40 → RJ m A σ x a B τ → (∀ m', RJ m' A (pgS c σ) x a B τ → P 1 m') → ∃ f, wp_Job_show_15 P f m (A (100 + fF σ 25)) (fM σ) (nI cp) (nI i)
  | 0, i, m, σ, hc, _, _, r, k => ⟨1, by
    unfold wp_Job_show_15
    rw [c_le (by omega) (by omega)]
    exact ⟨fun _ => k m r, fun z => absurd (by omega) z⟩⟩
  | c + 1, i, m, σ, hc, hI, h31, r, k => by
    obtain ⟨f, hf⟩ := y_pg hcp c (i + 1) _ _ (by omega) (show Inv (uF (uD σ 6 (40 * fF σ 25 + fF σ 31) (fM σ)) 31 (fF σ 31 + 1)) from hI) (show fF σ 31 + 1 + c ≤ 40 by omega) (r.pg hI (by omega)) k
    refine ⟨f + 1, ?_⟩
    obtain ⟨-, T8, -, R81, -, -, T25, L25⟩ := r.1.2.1.2.2.1 _ r.2.2.2.2
    have s3 := r.2.1.2.2.2.2.2.1.2.2.2.2.2.1
    unfold wp_Job_show_15
    rw [c_le (by omega) (by omega)]
    refine ⟨fun z => absurd z (by omega), fun _ => ?_⟩
    simp (disch := omega) only [forall_eq, T8, R81, T25, L25, s3, true_and, c_inT, nI_clamp, tg_wI, gI_wI, nI_1]
    exact hf
theorem y_show {m : Mm} {A : Nat → Nat} {σ τ : Sg} {x a : Nat} {B : Nat → Nat} (r : RJ m A σ x a B τ) (hI : Inv σ) (h31 : fF σ 31 ≤ 40) (h0 : fF σ 35 = 0) {P : Int32 → Mm → Prop} (k : ∀ m', RJ m' A (showS σ) x a B τ → P (nI (fF (showS σ) 35)) m') : wp_Machine_showPage m (A 2) (A (100 + fF σ 25)) P := by
  unfold wp_Machine_showPage wp_Machine_showPage_0 wp_Device_copies wp_Device_copies_0
  have T2 := r.1.1.T2
  have T3 := r.1.1.T3
  have T4 := r.1.1.T4
  have L4 := r.1.1.L4
  have R := r.1.1.R2_0
  have R3 := r.1.1.R3_0
  have s1 := r.1.2.2.2.1 1 (by decide)
  have b := hI.set
  have mk := r.2.1.2.2.1
  obtain ⟨-, T8, -, -, -, -, -, -⟩ := r.1.2.1.2.2.1 _ r.2.2.2.2
  have s3 := r.2.1.2.2.2.2.2.1.2.2.2.2.2.1
  simp (disch := omega) only [forall_eq, T2, T3, T4, R, R3, L4, true_and, iL_1, tL_1, s1, mk, T8]
  unfold wp_Job_show wp_Job_show_0
  simp only [forall_eq, T8, s3, true_and]
  have e40 : (40 : Int32) - nI (fF σ 31) = nI (40 - fF σ 31) := f40 _ h31
  rw [e40, c_le (by omega) (by omega)]
  unfold showS at k
  refine ⟨fun q => ?_, fun q => ⟨fun _ => ?_, fun z => absurd trivial z⟩⟩
  · rw [if_neg (by omega)] at k
    refine y_pg (cp := fN σ 7 1) (by omega) (fN σ 7 1) 0 m σ rfl hI (by omega) r (fun m' r' => ⟨fun z => absurd z (by decide), fun _ => ⟨r'.1.1.T2, ?_⟩⟩)
    have e35 : fF (uM (pgS (fN σ 7 1) σ) 0) 35 = 0 := (pg35 _ σ).trans h0
    rw [e35] at k
    refine k _ ⟨r'.1, ⟨r'.2.1.1, r'.2.1.2.1, ?_, r'.2.1.2.2.2⟩, r'.2.2.1, r'.2.2.2.1.oI (by decide) _ _ _, r'.2.2.2.2⟩
    simp (disch := omega) only [forall_eq, tg_sI, gI_sI, gR_sI, aI_sI, aR_sI, ln_sI, tg_sR, gI_sR, gR_sR, aI_sR, aR_sR, ln_sR, tg_wI, gI_wI, gR_wI, aI_wI, aR_wI, ln_wI, tg_wR, gI_wR, gR_wR, aI_wR, aR_wR, ln_wR, tg_wC, gI_wC, gR_wC, aI_wC, aR_wC, ln_wC, tg_nO, gI_nO, gR_nO, aI_nO, aR_nO, ln_nO, tg_nA, gI_nA, gR_nA, aI_nA, aR_nA, ln_nA, Nat.reduceEqDiff, reduceCtorEq, false_and, true_and, and_true, and_false, and_self, if_true, if_false, ↓reduceIte, forall_const, true_implies, imp_self, not_true, not_false_eq_true, implies_true, not_false, eq_self, Nat.reduceLT, Nat.reduceLeDiff, fF_uF, fN_uF, fD_uF, fM_uF, fF_uN, fN_uN, fD_uN, fM_uN, fF_uD, fN_uD, fD_uD, fM_uD, fF_uM, fN_uM, fD_uM, fM_uM]
  · rw [if_pos (by omega)] at k
    exact k m r
theorem m1n (b : Nat) (hb : b < 2 ^ 31) : ¬ nI b = -1 := n_m1 hb
theorem y_begin {m : Mm} {A : Nat → Nat} {σ τ : Sg} {x a : Nat} {B : Nat → Nat} (r : RJ m A σ x a B τ) (hI : Inv σ) (hJ : JI σ) (h0 : fF σ 35 = 0) (hx : x = fF σ 26 + 1) (hat : fF σ 26 < siz σ) (hd : dn (sgn σ) (fF σ 26) = true) (hs : sgn σ (fF σ 26) = 123) {v : Int32} {P : Int32 → Mm → Prop} (k : ∀ m', RJ m' A (beginS σ v) (fF (beginS σ v) 26 + 1) a B τ → P (nI (fF (beginS σ v) 35)) m') : wp_Machine_enterLoop m (A 2) (nI (fF σ 26)) v P := by
  unfold wp_Machine_enterLoop wp_Machine_enterLoop_0
  subst hx
  have T2 := r.1.1.T2
  have T15 := r.1.1.T15
  have T19 := r.1.1.T19
  have L19 := r.1.1.L19
  have R := r.1.1.R2_5
  have R6 := r.1.1.R2_6
  have l7 := r.2.1.2.1.1
  have sz : siz σ ≤ 200 := hI.size _
  have h32 := hJ.2.2.2.2.2.1
  have hP := r.2.1.2.2.2.1
  simp only [forall_eq, T2, T15, R, l7, true_and]
  rw [ltL_4 (by omega)]
  unfold beginS at k
  refine ⟨fun q => y_mate r.1.1 hP sz hat ?_, fun q => ?_⟩
  · rw [if_neg (by omega)] at k
    rw [(hP.2.2 _ hat hd).2 hs]
    cases he : eo (sgn σ) (siz σ) (fF σ 26) with
    | none =>
      rw [he] at k
      exact ⟨fun _ => k m r, fun z => absurd rfl z⟩
    | some e =>
      rw [he] at k
      obtain ⟨b1, b2, b3, b4, b5⟩ := (eo_scan hat hd hs).1 e he
      refine ⟨fun z => absurd z (m1n e (by omega)), fun _ => ⟨fun z => ?_, fun z => ?_⟩⟩
      · have z' : ¬ v < 1 := fun q => by simp only [Int32.le_iff_toInt_le, Int32.lt_iff_toInt_lt] at *; omega
        simp only [if_neg z'] at k
        simp (disch := omega) only [forall_eq, T2, T19, L19, R6, l7, true_and, c_inT, nI_clamp, tg_wI, gI_wI, nI_1]
        have e0 : fF (uF (uD (uN σ 33 (fF σ 32) (fF σ 26)) 34 (fF σ 32) v) 32 (fF σ 32 + 1)) 35 = 0 := h0
        rw [e0] at k
        refine k _ ⟨r.1, ⟨r.2.1.1, ⟨?_, fun i hi => ?_⟩, r.2.1.2.2⟩, r.2.2.1, (r.2.2.2.1.oW (by decide) _ _ _).oI (by decide) _ _ _, r.2.2.2.2⟩
        · simp (disch := omega) only [forall_eq, tg_sI, gI_sI, gR_sI, aI_sI, aR_sI, ln_sI, tg_sR, gI_sR, gR_sR, aI_sR, aR_sR, ln_sR, tg_wI, gI_wI, gR_wI, aI_wI, aR_wI, ln_wI, tg_wR, gI_wR, gR_wR, aI_wR, aR_wR, ln_wR, tg_wC, gI_wC, gR_wC, aI_wC, aR_wC, ln_wC, tg_nO, gI_nO, gR_nO, aI_nO, aR_nO, ln_nO, tg_nA, gI_nA, gR_nA, aI_nA, aR_nA, ln_nA, Nat.reduceEqDiff, reduceCtorEq, false_and, true_and, and_true, and_false, and_self, if_true, if_false, ↓reduceIte, forall_const, true_implies, imp_self, not_true, not_false_eq_true, implies_true, not_false, eq_self, Nat.reduceLT, Nat.reduceLeDiff, fF_uF, fN_uF, fD_uF, fM_uF, fF_uN, fN_uN, fD_uN, fM_uN, fF_uD, fN_uD, fD_uD, fM_uD, fF_uM, fN_uM, fD_uM, fM_uM]
        · have hi' : i < fF σ 32 + 1 := hi
          by_cases e : i = fF σ 32
          · subst e; simp (disch := omega) only [forall_eq, tg_sI, gI_sI, gR_sI, aI_sI, aR_sI, ln_sI, tg_sR, gI_sR, gR_sR, aI_sR, aR_sR, ln_sR, tg_wI, gI_wI, gR_wI, aI_wI, aR_wI, ln_wI, tg_wR, gI_wR, gR_wR, aI_wR, aR_wR, ln_wR, tg_wC, gI_wC, gR_wC, aI_wC, aR_wC, ln_wC, tg_nO, gI_nO, gR_nO, aI_nO, aR_nO, ln_nO, tg_nA, gI_nA, gR_nA, aI_nA, aR_nA, ln_nA, Nat.reduceEqDiff, reduceCtorEq, false_and, true_and, and_true, and_false, and_self, if_true, if_false, ↓reduceIte, forall_const, true_implies, imp_self, not_true, not_false_eq_true, implies_true, not_false, eq_self, Nat.reduceLT, Nat.reduceLeDiff, fF_uF, fN_uF, fD_uF, fM_uF, fF_uN, fN_uN, fD_uN, fM_uN, fF_uD, fN_uD, fD_uD, fM_uD, fF_uM, fN_uM, fD_uM, fM_uM]
          · have := r.2.1.2.1.2 i (by omega)
            simp (disch := omega) only [forall_eq, tg_sI, gI_sI, gR_sI, aI_sI, aR_sI, ln_sI, tg_sR, gI_sR, gR_sR, aI_sR, aR_sR, ln_sR, tg_wI, gI_wI, gR_wI, aI_wI, aR_wI, ln_wI, tg_wR, gI_wR, gR_wR, aI_wR, aR_wR, ln_wR, tg_wC, gI_wC, gR_wC, aI_wC, aR_wC, ln_wC, tg_nO, gI_nO, gR_nO, aI_nO, aR_nO, ln_nO, tg_nA, gI_nA, gR_nA, aI_nA, aR_nA, ln_nA, Nat.reduceEqDiff, reduceCtorEq, false_and, true_and, and_true, and_false, and_self, if_true, if_false, ↓reduceIte, forall_const, true_implies, imp_self, not_true, not_false_eq_true, implies_true, not_false, eq_self, Nat.reduceLT, Nat.reduceLeDiff, fF_uF, fN_uF, fD_uF, fM_uF, fF_uN, fN_uN, fD_uN, fM_uN, fF_uD, fN_uD, fD_uD, fM_uD, fF_uM, fN_uM, fD_uM, fM_uM, e]
            exact this
      · have z' : v < 1 := le_no z
        simp only [if_pos z'] at k
        have e0 : fF (uF σ 26 e) 35 = 0 := h0
        rw [e0] at k
        rw [R]
        refine ⟨T2, T15, ?_⟩
        show wp_Plan_firstDoneFrom m (A 15) (nI e + 1) _
        rw [nI_1]
        refine y_first r.1.1 hP sz (by omega) ⟨T2, ?_⟩
        refine k _ ⟨r.1, ⟨r.2.1.1, r.2.1.2.1, r.2.1.2.2.1, r.2.1.2.2.2.1, r.2.1.2.2.2.2.1, r.2.1.2.2.2.2.2.1, ?_⟩, r.2.2.1, r.2.2.2.1.oI (by decide) _ _ _, r.2.2.2.2⟩
        simp (disch := omega) only [forall_eq, tg_sI, gI_sI, gR_sI, aI_sI, aR_sI, ln_sI, tg_sR, gI_sR, gR_sR, aI_sR, aR_sR, ln_sR, tg_wI, gI_wI, gR_wI, aI_wI, aR_wI, ln_wI, tg_wR, gI_wR, gR_wR, aI_wR, aR_wR, ln_wR, tg_wC, gI_wC, gR_wC, aI_wC, aR_wC, ln_wC, tg_nO, gI_nO, gR_nO, aI_nO, aR_nO, ln_nO, tg_nA, gI_nA, gR_nA, aI_nA, aR_nA, ln_nA, Nat.reduceEqDiff, reduceCtorEq, false_and, true_and, and_true, and_false, and_self, if_true, if_false, ↓reduceIte, forall_const, true_implies, imp_self, not_true, not_false_eq_true, implies_true, not_false, eq_self, Nat.reduceLT, Nat.reduceLeDiff, fF_uF, fN_uF, fD_uF, fM_uF, fF_uN, fN_uN, fD_uN, fM_uN, fF_uD, fN_uD, fD_uD, fM_uD, fF_uM, fN_uM, fD_uM, fM_uM]
        rfl
  · rw [if_pos (by omega)] at k
    exact k m r
theorem y_end {m : Mm} {A : Nat → Nat} {σ τ : Sg} {x a : Nat} {B : Nat → Nat} (r : RJ m A σ x a B τ) (hI : Inv σ) (hJ : JI σ) (h0 : fF σ 35 = 0) (hx : x = fF σ 26 + 1) (hat : fF σ 26 < siz σ) (hd : dn (sgn σ) (fF σ 26) = true) (hs : sgn σ (fF σ 26) = 125) (hb : bl σ (fF σ 32) = opn (sgn σ) (fF σ 26)) {P : Int32 → Mm → Prop} (k : ∀ m', RJ m' A (endS σ) (fF (endS σ) 26 + 1) a B τ → P (nI (fF (endS σ) 35)) m') : wp_Machine_comeToLoopEnd m (A 2) (nI (fF σ 26)) P := by
  unfold wp_Machine_comeToLoopEnd wp_Machine_comeToLoopEnd_0
  subst hx
  have T2 := r.1.1.T2
  have T15 := r.1.1.T15
  have T19 := r.1.1.T19
  have L19 := r.1.1.L19
  have R := r.1.1.R2_5
  have R6 := r.1.1.R2_6
  have l7 := r.2.1.2.1.1
  have sz : siz σ ≤ 200 := hI.size _
  have h32 := hJ.2.2.2.2.2.1
  have h33 := hJ.2.2.2.2.2.2.1 (fF σ 32 - 1)
  have hP := r.2.1.2.2.2.1
  simp only [forall_eq, T2, T15, R, true_and]
  unfold endS at k
  refine y_mate r.1.1 hP sz hat ?_
  rw [(hP.2.2 _ hat hd).1 hs, ← hb]
  by_cases q : fF σ 32 = 0
  · rw [if_pos q] at k
    rw [q]
    exact ⟨fun _ => k m r, fun z => absurd rfl z⟩
  · rw [if_neg q] at k
    obtain ⟨n, hn⟩ : ∃ n, fF σ 32 = n + 1 := ⟨fF σ 32 - 1, by omega⟩
    have hh : hdI (bl σ (fF σ 32)) = nI (fN σ 33 (fF σ 32 - 1)) := by rw [hn]; rfl
    have s13 := r.2.1.2.1.2 (fF σ 32 - 1) (by omega)
    rw [hh]
    refine ⟨fun z => absurd z (m1n _ (by omega)), fun _ => ?_⟩
    simp (disch := omega) only [forall_eq, T2, T15, T19, L19, R, R6, l7, true_and, c_inT, nI_clamp, tg_wI, gI_wI, gR_wI, ln_wI, aI_wI, nI_1, c_sub1, s13, and_self, if_true]
    rw [geL_1 (by omega)]
    refine ⟨fun _ => ⟨fun z => ?_, fun z => ?_⟩, fun z => absurd (by omega) z⟩
    · have z' : ¬ 0 < fD σ 34 (fF σ 32 - 1) - 1 := fun q => by simp only [Int32.le_iff_toInt_le, Int32.lt_iff_toInt_lt] at *; omega
      simp only [if_neg z'] at k
      have e0 : fF (uF (uD σ 34 (fF σ 32 - 1) (fD σ 34 (fF σ 32 - 1) - 1)) 32 (fF σ 32 - 1)) 35 = 0 := h0
      rw [e0] at k
      refine k _ ⟨r.1, ⟨r.2.1.1, ⟨?_, fun i hi => ?_⟩, r.2.1.2.2⟩, r.2.2.1, (r.2.2.2.1.oW (by decide) _ _ _).oI (by decide) _ _ _, r.2.2.2.2⟩
      · simp (disch := omega) only [forall_eq, tg_sI, gI_sI, gR_sI, aI_sI, aR_sI, ln_sI, tg_sR, gI_sR, gR_sR, aI_sR, aR_sR, ln_sR, tg_wI, gI_wI, gR_wI, aI_wI, aR_wI, ln_wI, tg_wR, gI_wR, gR_wR, aI_wR, aR_wR, ln_wR, tg_wC, gI_wC, gR_wC, aI_wC, aR_wC, ln_wC, tg_nO, gI_nO, gR_nO, aI_nO, aR_nO, ln_nO, tg_nA, gI_nA, gR_nA, aI_nA, aR_nA, ln_nA, Nat.reduceEqDiff, reduceCtorEq, false_and, true_and, and_true, and_false, and_self, if_true, if_false, ↓reduceIte, forall_const, true_implies, imp_self, not_true, not_false_eq_true, implies_true, not_false, eq_self, Nat.reduceLT, Nat.reduceLeDiff, fF_uF, fN_uF, fD_uF, fM_uF, fF_uN, fN_uN, fD_uN, fM_uN, fF_uD, fN_uD, fD_uD, fM_uD, fF_uM, fN_uM, fD_uM, fM_uM]
      · have hi' : i < fF σ 32 - 1 := hi
        have e : ¬ i = fF σ 32 - 1 := by omega
        have := r.2.1.2.1.2 i (by omega)
        simp (disch := omega) only [forall_eq, tg_sI, gI_sI, gR_sI, aI_sI, aR_sI, ln_sI, tg_sR, gI_sR, gR_sR, aI_sR, aR_sR, ln_sR, tg_wI, gI_wI, gR_wI, aI_wI, aR_wI, ln_wI, tg_wR, gI_wR, gR_wR, aI_wR, aR_wR, ln_wR, tg_wC, gI_wC, gR_wC, aI_wC, aR_wC, ln_wC, tg_nO, gI_nO, gR_nO, aI_nO, aR_nO, ln_nO, tg_nA, gI_nA, gR_nA, aI_nA, aR_nA, ln_nA, Nat.reduceEqDiff, reduceCtorEq, false_and, true_and, and_true, and_false, and_self, if_true, if_false, ↓reduceIte, forall_const, true_implies, imp_self, not_true, not_false_eq_true, implies_true, not_false, eq_self, Nat.reduceLT, Nat.reduceLeDiff, fF_uF, fN_uF, fD_uF, fM_uF, fF_uN, fN_uN, fD_uN, fM_uN, fF_uD, fN_uD, fD_uD, fM_uD, fF_uM, fN_uM, fD_uM, fM_uM, e]
        exact this
    · have z' : 0 < fD σ 34 (fF σ 32 - 1) - 1 := le_no z
      simp only [if_pos z'] at k
      have e0 : fF (uF (uD σ 34 (fF σ 32 - 1) (fD σ 34 (fF σ 32 - 1) - 1)) 26 (fN σ 33 (fF σ 32 - 1))) 35 = 0 := h0
      rw [e0] at k
      have hP' : PL (wI m 13 (A 19) (fF σ 32 - 1) (fD σ 34 (fF σ 32 - 1) - 1)) A (sgn σ) (siz σ) := hP
      have hS' : ShF (wI m 13 (A 19) (fF σ 32 - 1) (fD σ 34 (fF σ 32 - 1) - 1)) A := r.1.1
      refine y_first hS' hP' sz (by omega) ⟨T2, ?_⟩
      refine k _ ⟨r.1, ⟨r.2.1.1, ⟨r.2.1.2.1.1, fun i hi => ?_⟩, r.2.1.2.2.1, r.2.1.2.2.2.1, r.2.1.2.2.2.2.1, r.2.1.2.2.2.2.2.1, ?_⟩, r.2.2.1, (r.2.2.2.1.oW (by decide) _ _ _).oI (by decide) _ _ _, r.2.2.2.2⟩
      · have hi' : i < fF σ 32 := hi
        by_cases e : i = fF σ 32 - 1
        · subst e; simp (disch := omega) only [forall_eq, tg_sI, gI_sI, gR_sI, aI_sI, aR_sI, ln_sI, tg_sR, gI_sR, gR_sR, aI_sR, aR_sR, ln_sR, tg_wI, gI_wI, gR_wI, aI_wI, aR_wI, ln_wI, tg_wR, gI_wR, gR_wR, aI_wR, aR_wR, ln_wR, tg_wC, gI_wC, gR_wC, aI_wC, aR_wC, ln_wC, tg_nO, gI_nO, gR_nO, aI_nO, aR_nO, ln_nO, tg_nA, gI_nA, gR_nA, aI_nA, aR_nA, ln_nA, Nat.reduceEqDiff, reduceCtorEq, false_and, true_and, and_true, and_false, and_self, if_true, if_false, ↓reduceIte, forall_const, true_implies, imp_self, not_true, not_false_eq_true, implies_true, not_false, eq_self, Nat.reduceLT, Nat.reduceLeDiff, fF_uF, fN_uF, fD_uF, fM_uF, fF_uN, fN_uN, fD_uN, fM_uN, fF_uD, fN_uD, fD_uD, fM_uD, fF_uM, fN_uM, fD_uM, fM_uM]
        · have := r.2.1.2.1.2 i (by omega)
          simp (disch := omega) only [forall_eq, tg_sI, gI_sI, gR_sI, aI_sI, aR_sI, ln_sI, tg_sR, gI_sR, gR_sR, aI_sR, aR_sR, ln_sR, tg_wI, gI_wI, gR_wI, aI_wI, aR_wI, ln_wI, tg_wR, gI_wR, gR_wR, aI_wR, aR_wR, ln_wR, tg_wC, gI_wC, gR_wC, aI_wC, aR_wC, ln_wC, tg_nO, gI_nO, gR_nO, aI_nO, aR_nO, ln_nO, tg_nA, gI_nA, gR_nA, aI_nA, aR_nA, ln_nA, Nat.reduceEqDiff, reduceCtorEq, false_and, true_and, and_true, and_false, and_self, if_true, if_false, ↓reduceIte, forall_const, true_implies, imp_self, not_true, not_false_eq_true, implies_true, not_false, eq_self, Nat.reduceLT, Nat.reduceLeDiff, fF_uF, fN_uF, fD_uF, fM_uF, fF_uN, fN_uN, fD_uN, fM_uN, fF_uD, fN_uD, fD_uD, fM_uD, fF_uM, fN_uM, fD_uM, fM_uM, e]
          exact this
      · simp (disch := omega) only [forall_eq, tg_sI, gI_sI, gR_sI, aI_sI, aR_sI, ln_sI, tg_sR, gI_sR, gR_sR, aI_sR, aR_sR, ln_sR, tg_wI, gI_wI, gR_wI, aI_wI, aR_wI, ln_wI, tg_wR, gI_wR, gR_wR, aI_wR, aR_wR, ln_wR, tg_wC, gI_wC, gR_wC, aI_wC, aR_wC, ln_wC, tg_nO, gI_nO, gR_nO, aI_nO, aR_nO, ln_nO, tg_nA, gI_nA, gR_nA, aI_nA, aR_nA, ln_nA, Nat.reduceEqDiff, reduceCtorEq, false_and, true_and, and_true, and_false, and_self, if_true, if_false, ↓reduceIte, forall_const, true_implies, imp_self, not_true, not_false_eq_true, implies_true, not_false, eq_self, Nat.reduceLT, Nat.reduceLeDiff, fF_uF, fN_uF, fD_uF, fM_uF, fF_uN, fN_uN, fD_uN, fM_uN, fF_uD, fN_uD, fD_uD, fM_uD, fF_uM, fN_uM, fD_uM, fM_uM]
        rfl
