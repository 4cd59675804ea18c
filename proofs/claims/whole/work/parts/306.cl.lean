/-! THE CLASS WHILE A JOB RUNS -/
def hdI (l : List Nat) : Int32 := match l with
  | [] => -1
  | b :: _ => nI b
def opI (l : Option Nat) : Int32 := match l with
  | none => -1
  | some b => nI b
/-- the plan of the signs g -/
def PL (m : Mm) (A : Nat → Nat) (g : Nat → Int32) (n : Nat) : Prop := gI m 7 3 (A 15) = nI n ∧ (∀ i, i < n → aI m 21 (A 16) i = nI (nd g n i)) ∧ (∀ i, i < n → dn g i = true → (g i = 125 → aI m 22 (A 17) i = hdI (opn g i)) ∧ (g i = 123 → aI m 22 (A 17) i = opI (eo g n i)))
def JC (m : Mm) (A : Nat → Nat) (σ : Sg) : Prop := gI m 8 4 (A (100 + fF σ 25)) = nI (fF σ 36) ∧ gI m 8 5 (A (100 + fF σ 25)) = 0 ∧ gI m 8 6 (A (100 + fF σ 25)) = 0 ∧ gI m 8 8 (A (100 + fF σ 25)) = 0 ∧ gI m 8 7 (A (100 + fF σ 25)) = nI (fF σ 27) ∧ gI m 8 3 (A (100 + fF σ 25)) = nI (fF σ 31) ∧ (∀ i, i < fF σ 31 → aI m 25 (A (160 + fF σ 25)) i = fD σ 6 (40 * fF σ 25 + i))
def RX1 (m : Mm) (A : Nat → Nat) (σ : Sg) (x : Nat) : Prop := (gI m 6 1 (A 13) = nI (fF σ 28) ∧ ∀ i, i < fF σ 28 → aI m 20 (A 14) i = fD σ 29 i) ∧ (gI m 2 7 (A 2) = nI (fF σ 32) ∧ ∀ i, i < fF σ 32 → aI m 13 (A 19) i = fD σ 34 i) ∧ gI m 2 8 (A 2) = fM σ ∧ PL m A (sgn σ) (siz σ) ∧ ((∀ i, i < 4 → aI m 15 (A 5) i = nI (fN σ 9 i)) ∧ (∀ i, i < 40 → aI m 17 (A 8) i = fD σ 10 i)) ∧ JC m A σ ∧ gI m 2 9 (A 2) = nI (nd (sgn σ) (siz σ) x)
def KF (m : Mm) (A : Nat → Nat) (σ : Sg) : Prop := ∀ h, 1 ≤ h → h < 8 → fN σ 16 h ≠ 0 → fN σ 23 h = 0 → gI m 10 2 (A (50 + h)) = nI (fN σ 22 h)
def RJ (m : Mm) (A : Nat → Nat) (σ : Sg) (x a : Nat) (B : Nat → Nat) (τ : Sg) : Prop := RC m A σ (fun h => fN σ 23 h) (fun j => j ≠ fF σ 25) ∧ RX1 m A σ x ∧ KF m A σ ∧ RM m a B τ ∧ fF σ 25 < fF σ 2
theorem RJ.er {m : Mm} {A : Nat → Nat} {σ τ : Sg} {x a : Nat} {B : Nat → Nat} (r : RJ m A σ x a B τ) (e : Nat) : RJ m A (er σ e) x a B τ := r
theorem Cl.x1 (A : Nat → Nat) (σ : Sg) (x a : Nat) (B : Nat → Nat) (τ : Sg) : Cl (fun m => RX1 m A σ x ∧ RM m a B τ) := by
  refine ⟨fun m k i y v e z => ?_, fun m y v z => ⟨z.1, z.2.oR (by decide) 4 y v⟩, fun m k y i v e z => ?_⟩
  · rcases e with rfl | rfl
    · exact ⟨z.1, z.2.oI (by decide) i y v⟩
    · exact ⟨z.1, z.2.oI (by decide) i y v⟩
  · rcases e with rfl | rfl
    · exact ⟨z.1, z.2.oW (by decide) y i v⟩
    · exact ⟨z.1, z.2.oW (by decide) y i v⟩
theorem y_lay {m : Mm} {A : Nat → Nat} {σ τ : Sg} {x a : Nat} {B : Nat → Nat} (r : RJ m A σ x a B τ) (h28 : fF σ 28 ≤ 20) (h0 : fF σ 35 = 0) {v : Int32} {P : Int32 → Mm → Prop} (k : ∀ m', RJ m' A (layS σ v) x a B τ → P (nI (fF (layS σ v) 35)) m') : wp_Numbers_lay m (A 13) v P := by
  unfold wp_Numbers_lay wp_Numbers_lay_0
  have T13 := r.1.1.T13
  have T14 := r.1.1.T14
  have L14 := r.1.1.L14
  have R := r.1.1.R6_0
  have s1 := r.2.1.1.1
  simp only [forall_eq, T13, T14, L14, R, s1, true_and]
  rw [ltL_20 (by omega)]
  unfold layS at k
  refine ⟨fun q => ?_, fun q => ?_⟩
  · rw [if_neg (by omega)] at k
    simp (disch := omega) only [forall_eq, T13, T14, L14, R, s1, true_and, c_inT, nI_clamp, tg_wI, gI_wI, nI_1]
    have e : fF (uF (uD σ 29 (fF σ 28) v) 28 (fF σ 28 + 1)) 35 = 0 := h0
    rw [e] at k
    refine k _ ⟨r.1, ⟨⟨?_, fun i hi => ?_⟩, r.2.1.2⟩, r.2.2.1, (r.2.2.2.1.oW (by decide) _ _ _).oI (by decide) _ _ _, r.2.2.2.2⟩
    · simp (disch := omega) only [forall_eq, tg_sI, gI_sI, gR_sI, aI_sI, aR_sI, ln_sI, tg_sR, gI_sR, gR_sR, aI_sR, aR_sR, ln_sR, tg_wI, gI_wI, gR_wI, aI_wI, aR_wI, ln_wI, tg_wR, gI_wR, gR_wR, aI_wR, aR_wR, ln_wR, tg_wC, gI_wC, gR_wC, aI_wC, aR_wC, ln_wC, tg_nO, gI_nO, gR_nO, aI_nO, aR_nO, ln_nO, tg_nA, gI_nA, gR_nA, aI_nA, aR_nA, ln_nA, Nat.reduceEqDiff, reduceCtorEq, false_and, true_and, and_true, and_false, and_self, if_true, if_false, ↓reduceIte, forall_const, true_implies, imp_self, not_true, not_false_eq_true, implies_true, not_false, eq_self, Nat.reduceLT, Nat.reduceLeDiff, fF_uF, fN_uF, fD_uF, fM_uF, fF_uN, fN_uN, fD_uN, fM_uN, fF_uD, fN_uD, fD_uD, fM_uD, fF_uM, fN_uM, fD_uM, fM_uM]
    · have hi' : i < fF σ 28 + 1 := hi
      by_cases e : i = fF σ 28
      · subst e; simp (disch := omega) only [forall_eq, tg_sI, gI_sI, gR_sI, aI_sI, aR_sI, ln_sI, tg_sR, gI_sR, gR_sR, aI_sR, aR_sR, ln_sR, tg_wI, gI_wI, gR_wI, aI_wI, aR_wI, ln_wI, tg_wR, gI_wR, gR_wR, aI_wR, aR_wR, ln_wR, tg_wC, gI_wC, gR_wC, aI_wC, aR_wC, ln_wC, tg_nO, gI_nO, gR_nO, aI_nO, aR_nO, ln_nO, tg_nA, gI_nA, gR_nA, aI_nA, aR_nA, ln_nA, Nat.reduceEqDiff, reduceCtorEq, false_and, true_and, and_true, and_false, and_self, if_true, if_false, ↓reduceIte, forall_const, true_implies, imp_self, not_true, not_false_eq_true, implies_true, not_false, eq_self, Nat.reduceLT, Nat.reduceLeDiff, fF_uF, fN_uF, fD_uF, fM_uF, fF_uN, fN_uN, fD_uN, fM_uN, fF_uD, fN_uD, fD_uD, fM_uD, fF_uM, fN_uM, fD_uM, fM_uM]
      · have := r.2.1.1.2 i (by omega)
        simp (disch := omega) only [forall_eq, tg_sI, gI_sI, gR_sI, aI_sI, aR_sI, ln_sI, tg_sR, gI_sR, gR_sR, aI_sR, aR_sR, ln_sR, tg_wI, gI_wI, gR_wI, aI_wI, aR_wI, ln_wI, tg_wR, gI_wR, gR_wR, aI_wR, aR_wR, ln_wR, tg_wC, gI_wC, gR_wC, aI_wC, aR_wC, ln_wC, tg_nO, gI_nO, gR_nO, aI_nO, aR_nO, ln_nO, tg_nA, gI_nA, gR_nA, aI_nA, aR_nA, ln_nA, Nat.reduceEqDiff, reduceCtorEq, false_and, true_and, and_true, and_false, and_self, if_true, if_false, ↓reduceIte, forall_const, true_implies, imp_self, not_true, not_false_eq_true, implies_true, not_false, eq_self, Nat.reduceLT, Nat.reduceLeDiff, fF_uF, fN_uF, fD_uF, fM_uF, fF_uN, fN_uN, fD_uN, fM_uN, fF_uD, fN_uD, fD_uD, fM_uD, fF_uM, fN_uM, fD_uM, fM_uM, e]
        exact this
  · rw [if_pos (by omega)] at k
    exact k m r
theorem y_lay2 {m : Mm} {A : Nat → Nat} {σ τ : Sg} {x a : Nat} {B : Nat → Nat} (r : RJ m A σ x a B τ) (h28 : fF σ 28 ≤ 20) (h0 : fF σ 35 = 0) {v u : Int32} {P : Int32 → Mm → Prop} (k : ∀ m', RJ m' A (lay2 σ v u) x a B τ → P (nI (fF (lay2 σ v u) 35)) m') : wp_Numbers_layTwo m (A 13) v u P := by
  unfold wp_Numbers_layTwo wp_Numbers_layTwo_0
  refine ⟨r.1.1.T13, y_lay r h28 h0 (fun m1 r1 => ?_)⟩
  by_cases q : fF σ 28 = 20
  · have e : layS σ v = er σ 6 := if_pos q
    have e2 : lay2 σ v u = er (er σ 6) 6 := by unfold lay2; rw [e]; exact if_pos q
    rw [e2] at k
    rw [e] at r1 ⊢
    exact ⟨fun z => absurd z (by show ¬ nI 6 = 0; decide), fun _ => k m1 r1⟩
  · have e : layS σ v = uF (uD σ 29 (fF σ 28) v) 28 (fF σ 28 + 1) := if_neg q
    have e0 : fF (layS σ v) 35 = 0 := by rw [e]; exact h0
    rw [e0]
    refine ⟨fun _ => ⟨r1.1.1.T13, y_lay r1 (by rw [e]; show fF σ 28 + 1 ≤ 20; omega) e0 k⟩, fun z => absurd rfl z⟩
theorem y_take {m : Mm} {A : Nat → Nat} {σ τ : Sg} {x a : Nat} {B : Nat → Nat} {h : Nat} (r : RJ m A (uF σ 28 h) x a B τ) (h1 : 1 ≤ h) (h2 : h ≤ 20) {P : Int32 → Mm → Prop} (k : ∀ m', RJ m' A (uF σ 28 (h - 1)) x a B τ → P (fD σ 29 (h - 1)) m') : wp_Numbers_take m (A 13) P := by
  unfold wp_Numbers_take wp_Numbers_take_0
  have T13 := r.1.1.T13
  have T14 := r.1.1.T14
  have L14 := r.1.1.L14
  have R := r.1.1.R6_0
  have s1 : gI m 6 1 (A 13) = nI h := r.2.1.1.1
  have s2 : aI m 20 (A 14) (h - 1) = fD σ 29 (h - 1) := r.2.1.1.2 (h - 1) (show h - 1 < h by omega)
  simp only [forall_eq, T13, T14, L14, R, s1, true_and]
  rw [geL_1 (by omega)]
  refine ⟨fun q => ?_, fun q => absurd h1 q⟩
  simp (disch := omega) only [forall_eq, T13, T14, L14, R, true_and, c_inT, nI_clamp, tg_sI, gI_sI, gR_sI, ln_sI, aI_sI, c_sub1, s2, and_self, if_true]
  refine k _ ⟨r.1, ⟨⟨?_, fun i hi => ?_⟩, r.2.1.2⟩, r.2.2.1, r.2.2.2.1.oI (by decide) _ _ _, r.2.2.2.2⟩
  · simp (disch := omega) only [forall_eq, tg_sI, gI_sI, gR_sI, aI_sI, aR_sI, ln_sI, tg_sR, gI_sR, gR_sR, aI_sR, aR_sR, ln_sR, tg_wI, gI_wI, gR_wI, aI_wI, aR_wI, ln_wI, tg_wR, gI_wR, gR_wR, aI_wR, aR_wR, ln_wR, tg_wC, gI_wC, gR_wC, aI_wC, aR_wC, ln_wC, tg_nO, gI_nO, gR_nO, aI_nO, aR_nO, ln_nO, tg_nA, gI_nA, gR_nA, aI_nA, aR_nA, ln_nA, Nat.reduceEqDiff, reduceCtorEq, false_and, true_and, and_true, and_false, and_self, if_true, if_false, ↓reduceIte, forall_const, true_implies, imp_self, not_true, not_false_eq_true, implies_true, not_false, eq_self, Nat.reduceLT, Nat.reduceLeDiff, fF_uF, fN_uF, fD_uF, fM_uF, fF_uN, fN_uN, fD_uN, fM_uN, fF_uD, fN_uD, fD_uD, fM_uD, fF_uM, fN_uM, fD_uM, fM_uM]
  · have hi' : i < h - 1 := hi
    exact r.2.1.1.2 i (show i < h by omega)
theorem y_unless {m : Mm} {A : Nat → Nat} {σ τ : Sg} {x a : Nat} {B : Nat → Nat} (r : RJ m A σ x a B τ) (h28 : fF σ 28 ≤ 20) (h0 : fF σ 35 = 0) {v : Int32} {e : Nat} {P : Int32 → Mm → Prop} (k : ∀ m', RJ m' A (if v < 0 then er σ e else layS σ v) x a B τ → P (nI (fF (if v < 0 then er σ e else layS σ v) 35)) m') : wp_Machine_layUnlessRefused m (A 2) v (nI e) P := by
  unfold wp_Machine_layUnlessRefused wp_Machine_layUnlessRefused_0
  have T2 := r.1.1.T2
  have T13 := r.1.1.T13
  have R := r.1.1.R2_4
  refine ⟨fun q => ?_, fun q => ?_⟩
  · rw [if_neg (in0 q)] at k
    simp only [forall_eq, T2, T13, R, true_and]
    exact y_lay r h28 h0 k
  · rw [if_pos (le_no q)] at k
    exact k m r
theorem y_errif {m : Mm} {v w : Int32} {P : Int32 → Mm → Prop} (k0 : ¬ v < 0 → P 0 m) (k1 : v < 0 → P w m) : wp_Machine_errorIfRefused m v w P := by
  unfold wp_Machine_errorIfRefused wp_Machine_errorIfRefused_0
  exact ⟨fun q => k0 (in0 q), fun q => k1 (le_no q)⟩
theorem y_req {m : Mm} {A : Nat → Nat} {σ τ : Sg} {x a : Nat} {B : Nat → Nat} (r : RJ m A σ x a B τ) (hI : Inv σ) (h0 : fF σ 35 = 0) {q v : Int32} {P : Int32 → Mm → Prop} (k : ∀ m', RJ m' A (setS σ q v) x a B τ → P (nI (fF (setS σ q v) 35)) m') : wp_Machine_request m (A 2) q v P := by
  unfold wp_Machine_request wp_Machine_request_0 wp_Machine_request_22 wp_Machine_request_27 wp_Device_passesOverWrongRequests wp_Device_passesOverWrongRequests_0
  have T2 := r.1.1.T2
  have T3 := r.1.1.T3
  have T4 := r.1.1.T4
  have L4 := r.1.1.L4
  have R := r.1.1.R2_0
  have R3 := r.1.1.R3_0
  have s3 := r.1.2.2.2.1 3 (by decide)
  have b3 := hI.set.2.2.2.2
  refine ⟨T2, fun u eu => ?_⟩
  rw [R] at eu
  subst eu
  refine ⟨T3, x_change r.1.1 (fun z => ?_) (fun i j h1 h2 e1 e2 z => ?_)⟩
  · refine ⟨fun _ => ?_, fun z => absurd rfl z⟩
    have e : spDevice σ q v = (0, σ) := if_neg z
    unfold setS at k
    rw [e] at k
    simp (disch := omega) only [forall_eq, T2, T3, T4, R, R3, L4, true_and, iL_3, tL_3, s3]
    rw [eL_1 (by omega)]
    refine ⟨fun z1 => ⟨fun z2 => absurd z2 (by decide), fun _ => ⟨fun z2 => absurd z2 (by decide), fun _ => ?_⟩⟩, fun z1 => ⟨fun _ => ⟨fun _ => ?_, fun z2 => absurd trivial z2⟩, fun z2 => absurd trivial z2⟩⟩
    · rw [if_neg (by omega), h0] at k; exact k m r
    · rw [if_pos ⟨rfl, by omega⟩] at k; exact k m r
  · refine ⟨fun z => absurd z (by decide), fun _ => ⟨fun z => absurd z (by decide), fun _ => ?_⟩⟩
    have e : spDevice σ q v = (1, uN σ 7 i j) := by unfold spDevice; rw [if_pos z, e1, e2, nI_clamp (by omega), nI_clamp (by omega)]
    unfold setS at k
    rw [e, if_neg (fun q => absurd q.1 (by show ¬ (1 : Int32) = 0; decide))] at k
    have e0 : fF (uN σ 7 i j) 35 = 0 := h0
    rw [e0] at k
    exact k _ ⟨r.1.set i j, r.2.1, r.2.2.1, r.2.2.2.1.oW (by decide) _ _ _, r.2.2.2.2⟩
theorem y_res {m : Mm} {A : Nat → Nat} {σ τ : Sg} {x a : Nat} {B : Nat → Nat} (r : RJ m A σ x a B τ) (hI : Inv σ) (h28 : fF σ 28 ≤ 20) (h0 : fF σ 35 = 0) {c n : Int32} {P : Int32 → Mm → Prop} (k : ∀ m', RJ m' A (resS σ c n) x a B τ → P (nI (fF (resS σ c n) 35)) m') : wp_Resources_valueAt m (A 6) c n (fun r_13 m_12 => (tg m_12 (A 2) = 2 ∧ wp_Machine_layUnlessRefused m_12 (A 2) r_13 2 (fun r_16 m_15 => P r_16 m_15))) := by
  refine x_value r.1.1 r.1.2.2.2.2.1 hI ⟨r.1.1.T2, ?_⟩
  exact y_unless (e := 2) r h28 h0 k
theorem y_def {m : Mm} {A : Nat → Nat} {σ τ : Sg} {x a : Nat} {B : Nat → Nat} (r : RJ m A σ x a B τ) (h0 : fF σ 35 = 0) {c n v : Int32} {P : Int32 → Mm → Prop} (k : ∀ m', RJ m' A (defS σ c n v) x a B τ → P (nI (fF (defS σ c n v) 35)) m') : wp_Resources_put m (A 6) c n v (fun r_5 m_4 => (wp_Machine_errorIfRefused m_4 r_5 2 (fun r_8 m_7 => P r_8 m_7))) := by
  unfold defS at k
  refine x_put r.1.1 (fun q => ?_) (fun q q1 => ?_) (fun q q1 => ?_)
  · have e : spDefine σ c n v = (-1, σ) := if_pos q
    rw [e, if_pos (show (-1 : Int32) < 0 by decide)] at k
    exact y_errif (fun z => absurd (by decide) z) (fun _ => k m r)
  · have e : spDefine σ c n v = (-2, σ) := by unfold spDefine; rw [if_neg q, if_pos q1]
    rw [e, if_pos (show (-2 : Int32) < 0 by decide)] at k
    exact y_errif (fun z => absurd (by decide) z) (fun _ => k m r)
  · have e : spDefine σ c n v = (1, uD σ 8 (10 * c.toNatClampNeg + n.toNatClampNeg) v) := by unfold spDefine; rw [if_neg q, if_neg q1]
    rw [e, if_neg (show ¬ (1 : Int32) < 0 by decide)] at k
    have e0 : fF (uD σ 8 (10 * c.toNatClampNeg + n.toNatClampNeg) v) 35 = 0 := h0
    refine y_errif (fun _ => ?_) (fun z => absurd z (by decide))
    have := k _ ⟨r.1.res _ v, r.2.1, r.2.2.1, r.2.2.2.1.oW (by decide) _ _ _, r.2.2.2.2⟩
    rw [show fF (1, uD σ 8 (10 * c.toNatClampNeg + n.toNatClampNeg) v).2 35 = 0 from h0] at this
    exact this

theorem y_wr_RJ {m : Mm} {A : Nat → Nat} {σ τ : Sg} {x a : Nat} {B : Nat → Nat} {m' : Mm} {v u : Int32} (r : RJ m A σ x a B τ) (rc : RC m' A (spWritten σ v u).2 (fun h => fN σ 23 h) (fun j => j ≠ fF σ 25)) (z : RX1 m' A σ x ∧ RM m' a B τ) (e : ∀ y, gI m' 10 2 y = gI m 10 2 y) : RJ m' A (spWritten σ v u).2 x a B τ ∧ fF (spWritten σ v u).2 35 = fF σ 35 ∧ fF (spWritten σ v u).2 28 = fF σ 28 := by
  have kf : KF m' A σ := fun h h1 h2 h3 h4 => by rw [e]; exact r.2.2.1 h h1 h2 h3 h4
  revert rc
  unfold spWritten
  split
  · exact fun rc => ⟨⟨rc, z.1, kf, z.2, r.2.2.2.2⟩, rfl, rfl⟩
  · split
    · exact fun rc => ⟨⟨rc, z.1, kf, z.2, r.2.2.2.2⟩, rfl, rfl⟩
    · split <;> split <;> exact fun rc => ⟨⟨rc, z.1, kf, z.2, r.2.2.2.2⟩, rfl, rfl⟩

theorem y_rd_RJ {m : Mm} {A : Nat → Nat} {σ τ : Sg} {x a : Nat} {B : Nat → Nat} {m' : Mm} {v : Int32} (r : RJ m A σ x a B τ) (rc : RC m' A (spTaken σ v).2 (fun h => fN σ 23 h) (fun j => j ≠ fF σ 25)) (z : RX1 m' A σ x ∧ RM m' a B τ) (e : ∀ y, gI m' 10 2 y = gI m 10 2 y) : RJ m' A (spTaken σ v).2 x a B τ ∧ fF (spTaken σ v).2 35 = fF σ 35 ∧ fF (spTaken σ v).2 28 = fF σ 28 := by
  have kf : KF m' A σ := fun h h1 h2 h3 h4 => by rw [e]; exact r.2.2.1 h h1 h2 h3 h4
  revert rc
  unfold spTaken
  split
  · exact fun rc => ⟨⟨rc, z.1, kf, z.2, r.2.2.2.2⟩, rfl, rfl⟩
  · split
    · split <;> exact fun rc => ⟨⟨rc, z.1, kf, z.2, r.2.2.2.2⟩, rfl, rfl⟩
    · exact fun rc => ⟨⟨rc, z.1, kf, z.2, r.2.2.2.2⟩, rfl, rfl⟩

theorem y_fl_RJ {m : Mm} {A : Nat → Nat} {σ τ : Sg} {x a : Nat} {B : Nat → Nat} {m' : Mm} {v u : Int32} (r : RJ m A σ x a B τ) (rc : RC m' A (spFiltered σ v u).2 (fun h => fN σ 23 h) (fun j => j ≠ fF σ 25)) (z : RX1 m' A σ x ∧ RM m' a B τ) (e : ∀ y, gI m' 10 2 y = gI m 10 2 y) : RJ m' A (spFiltered σ v u).2 x a B τ ∧ fF (spFiltered σ v u).2 35 = fF σ 35 ∧ fF (spFiltered σ v u).2 28 = fF σ 28 := by
  have kf : KF m' A σ := fun h h1 h2 h3 h4 => by rw [e]; exact r.2.2.1 h h1 h2 h3 h4
  revert rc
  unfold spFiltered
  split
  · exact fun rc => ⟨⟨rc, z.1, kf, z.2, r.2.2.2.2⟩, rfl, rfl⟩
  · split
    · exact fun rc => ⟨⟨rc, z.1, kf, z.2, r.2.2.2.2⟩, rfl, rfl⟩
    · split <;> exact fun rc => ⟨⟨rc, z.1, kf, z.2, r.2.2.2.2⟩, rfl, rfl⟩

theorem y_wr {m : Mm} {A : Nat → Nat} {σ τ : Sg} {x a : Nat} {B : Nat → Nat} (r : RJ m A σ x a B τ) (hI : Inv σ) (h0 : fF σ 35 = 0) {v u : Int32} {P : Int32 → Mm → Prop} (k : ∀ m', RJ m' A (wrS σ v u) x a B τ → P (nI (fF (wrS σ v u) 35)) m') : wp_FileTree_put m (A 9) v u (fun r_5 m_4 => (wp_Machine_errorIfRefused m_4 r_5 4 (fun r_8 m_7 => P r_8 m_7))) := by
  refine ft_put r.1 hI (Cl.x1 A σ x a B τ) ⟨r.2.1, r.2.2.2.1⟩ (fun m' rc z e => ?_)
  obtain ⟨r', e35, -⟩ := y_wr_RJ r rc z e
  unfold wrS at k
  refine y_errif (fun q => ?_) (fun q => ?_)
  · rw [if_neg q, e35, h0] at k; exact k m' r'
  · rw [if_pos q] at k; exact k m' r'

theorem y_fl {m : Mm} {A : Nat → Nat} {σ τ : Sg} {x a : Nat} {B : Nat → Nat} (r : RJ m A σ x a B τ) (hI : Inv σ) (h0 : fF σ 35 = 0) {v u : Int32} {P : Int32 → Mm → Prop} (k : ∀ m', RJ m' A (flS σ v u) x a B τ → P (nI (fF (flS σ v u) 35)) m') : wp_FileTree_putFilter m (A 9) v u (fun r_5 m_4 => (wp_Machine_errorIfRefused m_4 r_5 4 (fun r_8 m_7 => P r_8 m_7))) := by
  refine ft_filter r.1 hI (Cl.x1 A σ x a B τ) ⟨r.2.1, r.2.2.2.1⟩ (fun m' rc z e => ?_)
  obtain ⟨r', e35, -⟩ := y_fl_RJ r rc z e
  unfold flS at k
  refine y_errif (fun q => ?_) (fun q => ?_)
  · rw [if_neg q, e35, h0] at k; exact k m' r'
  · rw [if_pos q] at k; exact k m' r'

theorem y_rd {m : Mm} {A : Nat → Nat} {σ τ : Sg} {x a : Nat} {B : Nat → Nat} (r : RJ m A σ x a B τ) (hI : Inv σ) (h28 : fF σ 28 ≤ 20) (h0 : fF σ 35 = 0) {v : Int32} {P : Int32 → Mm → Prop} (k : ∀ m', RJ m' A (rdS σ v) x a B τ → P (nI (fF (rdS σ v) 35)) m') : wp_FileTree_take m (A 9) v (fun r_37 m_36 => (tg m_36 (A 2) = 2 ∧ wp_Machine_layByte m_36 (A 2) r_37 (fun r_40 m_39 => P r_40 m_39))) := by
  refine ft_take r.1 hI (Cl.x1 A σ x a B τ) ⟨r.2.1, r.2.2.2.1⟩ (fun m' rc z e => ?_)
  obtain ⟨r', e35, e28⟩ := y_rd_RJ r rc z e
  unfold rdS at k
  refine ⟨r'.1.1.T2, ?_⟩
  unfold wp_Machine_layByte wp_Machine_layByte_0
  have T2 := r'.1.1.T2
  have T13 := r'.1.1.T13
  have R := r'.1.1.R2_4
  refine ⟨fun q => ?_, fun q => ⟨T2, ?_⟩⟩
  · rw [if_neg (by rw [q]; decide), if_pos q] at k
    simp only [forall_eq, T2, T13, R, true_and]
    exact y_lay r' (by rw [e28]; exact h28) (by rw [e35]; exact h0) k
  · rw [if_neg q] at k
    exact y_unless (e := 4) r' (by rw [e28]; exact h28) (by rw [e35]; exact h0) k
theorem y_clo {m : Mm} {A : Nat → Nat} {σ τ : Sg} {x a : Nat} {B : Nat → Nat} (r : RJ m A σ x a B τ) (hI : Inv σ) (hT : Th σ) (h0 : fF σ 35 = 0) {v : Int32} {P : Int32 → Mm → Prop} (k : ∀ m', RJ m' A (cloS σ v) x a B τ → P (nI (fF (cloS σ v) 35)) m') : wp_FileTree_shutByJob m (A 9) v (fun r_5 m_4 => (wp_Machine_errorIfRefused m_4 r_5 4 (fun r_8 m_7 => P r_8 m_7))) := by
  unfold wp_FileTree_shutByJob wp_FileTree_shutByJob_0
  have T9 := r.1.1.T9
  refine ⟨T9, x_opn r.1 hI (fun q => ?_) (fun i i1 i2 i3 i4 i5 => ?_)⟩
  · simp only [cloS, q] at k
    exact ⟨fun _ => y_errif (fun z => absurd (by decide) z) (fun _ => k m r), fun z => absurd rfl z⟩
  · subst i4
    simp only [cloS, i5] at k
    have T10 := (r.1.2.1.2.1 i i1 (by omega)).2.1
    have own : gI m 10 6 (A (50 + i)) = nI (fN σ 23 i) := r.1.2.2.2.2.2.2.2.1 i i1 (by omega)
    have b := hI.own i
    refine ⟨fun z => absurd z (r.1.z50 i1 i2), fun _ => ⟨T10, fun u eu => ?_⟩⟩
    rw [own] at eu
    subst eu
    rw [eL_0 (by omega)]
    refine ⟨fun q => ?_, fun q => ⟨T10, ?_⟩⟩
    · rw [if_pos q] at k
      exact y_errif (fun z => absurd (by decide) z) (fun _ => k m r)
    · rw [if_neg q] at k
      have hi1 : i ≠ 1 := fun e => q (by rw [e]; exact hT.2)
      have i0 : 2 ≤ i := by omega
      refine x_detach T10 ?_
      refine y_errif (fun _ => ?_) (fun z => absurd z (by decide))
      have e0 : fF (uN (uN σ 16 i 0) 23 i 0) 35 = 0 := h0
      rw [e0] at k
      refine k _ ⟨?_, ((Cl.x1 A σ x a B τ).dt _ ⟨r.2.1, r.2.2.2.1⟩).1, fun h h1 h2 h3 h4 => ?_, ((Cl.x1 A σ x a B τ).dt _ ⟨r.2.1, r.2.2.2.1⟩).2, r.2.2.2.2⟩
      · have := r.1.det (i := i) (by omega) (by omega)
        refine RC.ww (w := wu (fun h => fN σ 23 h) i 0) this (fun t t1 t2 => ?_)
        unfold wu
        rw [fN_uN]
        by_cases e : t = i
        · rw [if_pos ⟨rfl, e⟩, if_pos e]
        · rw [if_neg (fun z => e z.2), if_neg e]; rfl
      · have hne : h ≠ i := fun e => h3 (by rw [e, fN_uN, if_neg (fun z => absurd z.1 (by decide)), fN_uN, if_pos ⟨rfl, rfl⟩])
        have ne : (A (50 + h) = A (50 + i)) = False := by rw [r.1.2.1.e50 h1 h2 (by omega) (by omega)]; exact eq_false hne
        have h3' : fN σ 16 h ≠ 0 := by
          rw [fN_uN, if_neg (fun z => absurd z.1 (by decide)), fN_uN, if_neg (fun z => hne z.2)] at h3; exact h3
        have h4' : fN σ 23 h = 0 := by
          rw [fN_uN, if_neg (fun z => hne z.2)] at h4; exact h4
        have := r.2.2.1 h h1 h2 h3' h4'
        unfold dtM
        simp (disch := omega) only [forall_eq, tg_sI, gI_sI, gR_sI, aI_sI, aR_sI, ln_sI, tg_sR, gI_sR, gR_sR, aI_sR, aR_sR, ln_sR, tg_wI, gI_wI, gR_wI, aI_wI, aR_wI, ln_wI, tg_wR, gI_wR, gR_wR, aI_wR, aR_wR, ln_wR, tg_wC, gI_wC, gR_wC, aI_wC, aR_wC, ln_wC, tg_nO, gI_nO, gR_nO, aI_nO, aR_nO, ln_nO, tg_nA, gI_nA, gR_nA, aI_nA, aR_nA, ln_nA, Nat.reduceEqDiff, reduceCtorEq, false_and, true_and, and_true, and_false, and_self, if_true, if_false, ↓reduceIte, forall_const, true_implies, imp_self, not_true, not_false_eq_true, implies_true, not_false, eq_self, Nat.reduceLT, Nat.reduceLeDiff, fF_uF, fN_uF, fD_uF, fM_uF, fF_uN, fN_uN, fD_uN, fM_uN, fF_uD, fN_uD, fD_uD, fM_uD, fF_uM, fN_uM, fD_uM, fM_uM, ne]
        exact this
theorem y_opn {m : Mm} {A : Nat → Nat} {σ τ : Sg} {x a : Nat} {B : Nat → Nat} (r : RJ m A σ x a B τ) (hI : Inv σ) (h28 : fF σ 28 ≤ 20) (h0 : fF σ 35 = 0) {v u : Int32} {P : Int32 → Mm → Prop} (k : ∀ m', RJ m' A (opnS σ v u) x a B τ → P (nI (fF (opnS σ v u) 35)) m') : wp_FileTree_open m (A 9) v u 1 (fun r_21 m_20 => (tg m_20 (A 2) = 2 ∧ wp_Machine_layUnlessRefused m_20 (A 2) r_21 4 (fun r_24 m_23 => P r_24 m_23))) := by
  unfold opnS at k
  refine ft_open (o := 1) r.1 hI (Cl.x1 A σ x a B τ) ⟨r.2.1, r.2.2.2.1⟩ (by omega) (fun e q => ?_) (fun i j f i1 j1 f1 f2 f3 e m' rc z g => ?_)
  · rw [if_pos q] at k
    refine ⟨r.1.1.T2, y_unless (e := 4) r h28 h0 (fun m' r' => ?_)⟩
    rw [if_pos q] at r' ⊢
    exact k m' r'
  · rw [e] at k
    have hf : ¬ nI f < 0 := by rw [ltL_0 (by omega)]; omega
    rw [if_neg hf] at k
    simp only [nI_clamp (show f < 2 ^ 31 by omega)] at k
    have r' : RJ m' A (uN (opnd σ i j f) 23 f 1) x a B τ := by
      refine ⟨?_, z.1, fun h h1 h2 h3 h4 => ?_, z.2, r.2.2.2.2⟩
      · refine RC.ww (w := wu (fun h => fN σ 23 h) f 1) rc (fun t t1 t2 => ?_)
        unfold wu
        rw [fN_uN]
        by_cases e : t = f
        · rw [if_pos ⟨rfl, e⟩, if_pos e]
        · rw [if_neg (fun z => e z.2), if_neg e]; rfl
      · have hne : h ≠ f := fun e => by
          rw [e, fN_uN, if_pos ⟨rfl, rfl⟩] at h4; exact absurd h4 (by decide)
        have ne : A (50 + h) ≠ A (50 + f) := fun q => by rw [r.1.2.1.e50 h1 h2 (by omega) (by omega)] at q; exact hne q
        have h3' : fN σ 16 h ≠ 0 := by
          revert h3
          unfold opnd
          simp (disch := omega) only [forall_eq, tg_sI, gI_sI, gR_sI, aI_sI, aR_sI, ln_sI, tg_sR, gI_sR, gR_sR, aI_sR, aR_sR, ln_sR, tg_wI, gI_wI, gR_wI, aI_wI, aR_wI, ln_wI, tg_wR, gI_wR, gR_wR, aI_wR, aR_wR, ln_wR, tg_wC, gI_wC, gR_wC, aI_wC, aR_wC, ln_wC, tg_nO, gI_nO, gR_nO, aI_nO, aR_nO, ln_nO, tg_nA, gI_nA, gR_nA, aI_nA, aR_nA, ln_nA, Nat.reduceEqDiff, reduceCtorEq, false_and, true_and, and_true, and_false, and_self, if_true, if_false, ↓reduceIte, forall_const, true_implies, imp_self, not_true, not_false_eq_true, implies_true, not_false, eq_self, Nat.reduceLT, Nat.reduceLeDiff, fF_uF, fN_uF, fD_uF, fM_uF, fF_uN, fN_uN, fD_uN, fM_uN, fF_uD, fN_uD, fD_uD, fM_uD, fF_uM, fN_uM, fD_uM, fM_uM, hne]
        have h4' : fN σ 23 h = 0 := by
          rw [fN_uN, if_neg (fun z => hne z.2)] at h4; exact h4
        rw [g _ ne]
        exact r.2.2.1 h h1 h2 h3' h4'
    refine ⟨r'.1.1.T2, y_unless (e := 4) r' h28 h0 (fun m2 r2 => ?_)⟩
    rw [if_neg hf] at r2 ⊢
    exact k m2 r2
