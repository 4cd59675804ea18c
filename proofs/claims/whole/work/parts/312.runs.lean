/-! THE CLASS: the end of a job, and all jobs -/
def RCr (m : Mm) (A : Nat → Nat) (σ : Sg) (w : Nat → Nat) (c : Nat → Prop) : Prop := ShF m A ∧ ShV m A (fF σ 2) ∧ CN m A σ ∧ CS m A σ ∧ (∀ h, 1 ≤ h → h < 8 → HC m A σ h) ∧ (∀ h, 1 ≤ h → h < 8 → gI m 10 6 (A (50 + h)) = nI (w h)) ∧ (∀ j, j < fF σ 2 → JS m A σ j) ∧ (∀ j, j < fF σ 2 → c j → JT m A σ j)
theorem RCr.ext {m : Mm} {A : Nat → Nat} {σ : Sg} {w : Nat → Nat} {c : Nat → Prop} {σ' : Sg} (h : RCr m A σ w c) (f1 : fF σ' 1 = fF σ 1) (f2 : fF σ' 2 = fF σ 2) (f15 : fF σ' 15 = fF σ 15) (f24 : fF σ' 24 = fF σ 24) (n4 : ∀ i, fN σ' 4 i = fN σ 4 i) (n5 : ∀ i, fN σ' 5 i = fN σ 5 i) (n11 : ∀ i, fN σ' 11 i = fN σ 11 i) (n12 : ∀ i, fN σ' 12 i = fN σ 12 i) (n16 : ∀ i, fN σ' 16 i = fN σ 16 i) (n17 : ∀ i, fN σ' 17 i = fN σ 17 i) (n18 : ∀ i, fN σ' 18 i = fN σ 18 i) (n19 : ∀ i, fN σ' 19 i = fN σ 19 i) (n20 : ∀ i, fN σ' 20 i = fN σ 20 i) (n21 : ∀ i, fN σ' 21 i = fN σ 21 i) (d3 : ∀ i, fD σ' 3 i = fD σ 3 i) (d6 : ∀ i, fD σ' 6 i = fD σ 6 i) (d13 : ∀ i, fD σ' 13 i = fD σ 13 i) (d14 : ∀ i, fD σ' 14 i = fD σ 14 i) : RCr m A σ' w c := by
  unfold RCr CN CS HC hsA JS JT at *
  simp only [f1, f2, f15, f24, n4, n5, n11, n12, n16, n17, n18, n19, n20, n21, d3, d6, d13, d14]
  exact h
theorem RCr.mk {m : Mm} {A : Nat → Nat} {σ : Sg} {w : Nat → Nat} {c : Nat → Prop} (h : RCr m A σ w c) (hd : CD m A σ) (hr : CR m A σ) : RC m A σ w c := ⟨h.1, h.2.1, h.2.2.1, hd, hr, h.2.2.2⟩
theorem RC.f1 {m : Mm} {A : Nat → Nat} {σ : Sg} {w : Nat → Nat} {c : Nat → Prop} (h : RC m A σ w c) {i y : Nat} (i1 : 1 ≤ i) (i2 : i < 8) {v : Int32} (hv : fN σ 16 i ≠ 0 → v = nI y) : RC (sI m 10 1 (A (50 + i)) v) A (uN σ 20 i y) w c := by
  obtain ⟨h1, h2, h3, h4, h5, h6, h7, h8, h9, h10⟩ := h
  refine ⟨h1, h2, h3, h4, h5, h6, fun j a1 a2 => ?_, h8, h9, h10⟩
  have q := h7 j a1 a2
  by_cases e : j = i
  · subst e
    refine ⟨q.1, fun z => ?_, q.2.2⟩
    have z' : fN σ 16 j ≠ 0 := z
    obtain ⟨q1, q2, q3, q4⟩ := q.2.1 z'
    refine ⟨q1, ?_, q3, q4⟩
    simp (disch := omega) only [forall_eq, tg_sI, gI_sI, gR_sI, aI_sI, aR_sI, ln_sI, tg_sR, gI_sR, gR_sR, aI_sR, aR_sR, ln_sR, tg_wI, gI_wI, gR_wI, aI_wI, aR_wI, ln_wI, tg_wR, gI_wR, gR_wR, aI_wR, aR_wR, ln_wR, tg_wC, gI_wC, gR_wC, aI_wC, aR_wC, ln_wC, tg_nO, gI_nO, gR_nO, aI_nO, aR_nO, ln_nO, tg_nA, gI_nA, gR_nA, aI_nA, aR_nA, ln_nA, Nat.reduceEqDiff, reduceCtorEq, false_and, true_and, and_true, and_false, and_self, if_true, if_false, ↓reduceIte, forall_const, true_implies, imp_self, not_true, not_false_eq_true, implies_true, not_false, eq_self, Nat.reduceLT, Nat.reduceLeDiff, fF_uF, fN_uF, fD_uF, fM_uF, fF_uN, fN_uN, fD_uN, fM_uN, fF_uD, fN_uD, fD_uD, fM_uD, fF_uM, fN_uM, fD_uM, fM_uM]
    exact hv z'
  · have ne : (A (50 + j) = A (50 + i)) = False := by rw [h2.e50 a1 a2 i1 i2]; exact eq_false e
    unfold HC hsA
    simp (disch := omega) only [forall_eq, tg_sI, gI_sI, gR_sI, aI_sI, aR_sI, ln_sI, tg_sR, gI_sR, gR_sR, aI_sR, aR_sR, ln_sR, tg_wI, gI_wI, gR_wI, aI_wI, aR_wI, ln_wI, tg_wR, gI_wR, gR_wR, aI_wR, aR_wR, ln_wR, tg_wC, gI_wC, gR_wC, aI_wC, aR_wC, ln_wC, tg_nO, gI_nO, gR_nO, aI_nO, aR_nO, ln_nO, tg_nA, gI_nA, gR_nA, aI_nA, aR_nA, ln_nA, Nat.reduceEqDiff, reduceCtorEq, false_and, true_and, and_true, and_false, and_self, if_true, if_false, ↓reduceIte, forall_const, true_implies, imp_self, not_true, not_false_eq_true, implies_true, not_false, eq_self, Nat.reduceLT, Nat.reduceLeDiff, fF_uF, fN_uF, fD_uF, fM_uF, fF_uN, fN_uN, fD_uN, fM_uN, fF_uD, fN_uD, fD_uD, fM_uD, fF_uM, fN_uM, fD_uM, fM_uM, ne, e]
    exact q
theorem RC.u20 {m : Mm} {A : Nat → Nat} {σ : Sg} {w : Nat → Nat} {c : Nat → Prop} (h : RC m A σ w c) {i : Nat} (h0 : fN σ 16 i = 0) (y : Nat) : RC m A (uN σ 20 i y) w c := by
  obtain ⟨h1, h2, h3, h4, h5, h6, h7, h8, h9, h10⟩ := h
  refine ⟨h1, h2, h3, h4, h5, h6, fun j a1 a2 => ?_, h8, h9, h10⟩
  have q := h7 j a1 a2
  by_cases e : j = i
  · subst e
    exact ⟨q.1, fun z => absurd h0 z, q.2.2⟩
  · unfold HC hsA
    simp (disch := omega) only [forall_eq, tg_sI, gI_sI, gR_sI, aI_sI, aR_sI, ln_sI, tg_sR, gI_sR, gR_sR, aI_sR, aR_sR, ln_sR, tg_wI, gI_wI, gR_wI, aI_wI, aR_wI, ln_wI, tg_wR, gI_wR, gR_wR, aI_wR, aR_wR, ln_wR, tg_wC, gI_wC, gR_wC, aI_wC, aR_wC, ln_wC, tg_nO, gI_nO, gR_nO, aI_nO, aR_nO, ln_nO, tg_nA, gI_nA, gR_nA, aI_nA, aR_nA, ln_nA, Nat.reduceEqDiff, reduceCtorEq, false_and, true_and, and_true, and_false, and_self, if_true, if_false, ↓reduceIte, forall_const, true_implies, imp_self, not_true, not_false_eq_true, implies_true, not_false, eq_self, Nat.reduceLT, Nat.reduceLeDiff, fF_uF, fN_uF, fD_uF, fM_uF, fF_uN, fN_uN, fD_uN, fM_uN, fF_uD, fN_uD, fD_uD, fM_uD, fF_uM, fN_uM, fD_uM, fM_uM, e]
    exact q
theorem uN_eq {σ : Sg} {f i v : Nat} (h : fN σ f i = v) : uN σ f i v = σ := by rw [← h]; exact uN_self σ f i
theorem y_putF {A : Nat → Nat} {τ : Sg} {a : Nat} {B : Nat → Nat} {P : Mm → Prop} : ∀ (d i : Nat) (m : Mm) (σ : Sg), d + i = 8 → 1 ≤ i → (∀ h, fN σ 16 h ≤ 1) → (∀ h, fN σ 23 h ≤ 1) → RC m A σ (fun h => if h < i then 0 else fN σ 23 h) (fun _ => True) → (∀ h, i ≤ h → h < 8 → fN σ 16 h ≠ 0 → fN σ 23 h = 0 → gI m 10 2 (A (50 + h)) = nI (fN σ 22 h)) → RM m a B τ → (∀ m', RC0 m' A (cp6 d i σ) → RM m' a B τ → P m') → ∃ f, wp_FileTree_putBack_2 P f m (A 9) (nI i)
  | 0, i, m, σ, hd, hi, _, _, h, _, hm, k => ⟨1, by
    unfold wp_FileTree_putBack_2
    rw [gtL_7 (by omega)]
    refine ⟨fun _ => k m (h.ww (fun t a b => ?_)) hm, fun q => absurd (by omega) q⟩
    show 0 = _
    rw [if_pos (by omega)]⟩
  | d + 1, i, m, σ, hd, hi, b16, b23, h, hk, hm, k => by
    have T10 := (h.2.1.2.1 i hi (by omega)).2.1
    have own : gI m 10 6 (A (50 + i)) = nI (fN σ 23 i) := by
      rw [h.2.2.2.2.2.2.2.1 i hi (by omega)]
      show nI (if i < i then 0 else fN σ 23 i) = _
      rw [if_neg (by omega)]
    have bi := b23 i
    have b6 := b16 i
    have step := fun m' => y_putF (A := A) (τ := τ) (a := a) (B := B) (P := P) d (i + 1) m' (uN (uN σ 16 i (if fN σ 16 i = 0 then 0 else if fN σ 23 i = 0 then 1 else 0)) 20 i (if fN σ 23 i = 0 then fN σ 22 i else 0)) (by omega) (by omega) (fun t => by
      rw [fN_uN, if_neg (fun e => absurd e.1 (by decide)), fN_uN]
      split
      · split
        · omega
        · split <;> omega
      · exact b16 t) b23
    have go : ∀ f, (∀ m', m' = (if fN σ 23 i = 0 then sI m 10 1 (A (50 + i)) (gI m 10 2 (A (50 + i))) else dtM m (A (50 + i))) → wp_FileTree_putBack_2 P f m' (A 9) (nI (i + 1))) → wp_FileTree_putBack_2 P (f + 1) m (A 9) (nI i) := fun f hf => by
      unfold wp_FileTree_putBack_2 wp_FileTree_putBack_32 wp_FileTree_putBack_40
      rw [gtL_7 (by omega)]
      refine ⟨fun q => absurd q (by omega), fun _ => ⟨h.1.T9, x_handle h.1 h.2.1 (fun q => ?_) (fun j j1 j2 e => ?_)⟩⟩
      · rw [ltL_1 (by omega), gtL_7 (by omega)] at q; omega
      · have ej : i = j := by rw [c_eq (by omega) (by omega)] at e; exact e
        subst ej
        have hz := h.z50 hi (by omega : i ≤ 7)
        refine ⟨fun q => absurd q hz, fun _ => ⟨T10, fun u eu => ?_⟩⟩
        rw [own] at eu
        subst eu
        rw [eL_0 (by omega)]
        refine ⟨fun q => ⟨fun z => absurd z hz, fun _ => ⟨T10, ?_⟩⟩, fun q => ⟨T10, x_detach T10 ?_⟩⟩
        · unfold wp_Handle_putBackFilters wp_Handle_putBackFilters_0
          simp only [forall_eq, T10, true_and, nI_1]
          exact hf _ (by rw [if_pos q])
        · intro u eu
          rw [eu, nI_1]
          exact hf _ (by rw [if_neg q])
    by_cases q : fN σ 23 i = 0
    · rw [if_pos q] at go
      have rc : RC (sI m 10 1 (A (50 + i)) (gI m 10 2 (A (50 + i)))) A (uN (uN σ 16 i (if fN σ 16 i = 0 then 0 else if fN σ 23 i = 0 then 1 else 0)) 20 i (if fN σ 23 i = 0 then fN σ 22 i else 0)) (fun h => if h < i + 1 then 0 else fN σ 23 h) (fun _ => True) := by
        have e16 : uN σ 16 i (if fN σ 16 i = 0 then 0 else if fN σ 23 i = 0 then 1 else 0) = σ := uN_eq (by rw [if_pos q]; split <;> omega)
        rw [e16, if_pos q]
        refine RC.ww (w := fun h => if h < i then 0 else fN σ 23 h) (h.f1 hi (by omega) (fun z => hk i (Nat.le_refl _) (by omega) z q)) (fun t t1 t2 => ?_)
        show (if t < i + 1 then 0 else fN σ 23 t) = (if t < i then 0 else fN σ 23 t)
        by_cases e : t = i
        · rw [if_pos (by omega), if_neg (by omega), e, q]
        · by_cases e2 : t < i
          · rw [if_pos (by omega), if_pos e2]
          · rw [if_neg (by omega), if_neg e2]
      obtain ⟨f, hf⟩ := step _ rc (fun t t1 t2 t3 t4 => by
        have e : ¬ t = i := by omega
        have t3' : fN σ 16 t ≠ 0 := by
          rw [fN_uN, if_neg (fun e => absurd e.1 (by decide)), fN_uN, if_neg (fun z => e z.2)] at t3; exact t3
        exact hk t (by omega) t2 t3' t4) (hm.oI (by decide) _ _ _) k
      exact ⟨f + 1, go f (fun m' e => by rw [e]; exact hf)⟩
    · rw [if_neg q] at go
      have rc : RC (dtM m (A (50 + i))) A (uN (uN σ 16 i (if fN σ 16 i = 0 then 0 else if fN σ 23 i = 0 then 1 else 0)) 20 i (if fN σ 23 i = 0 then fN σ 22 i else 0)) (fun h => if h < i + 1 then 0 else fN σ 23 h) (fun _ => True) := by
        have e16 : (if fN σ 16 i = 0 then 0 else if fN σ 23 i = 0 then 1 else 0) = 0 := by rw [if_neg q]; split <;> rfl
        rw [e16, if_neg q]
        refine RC.ww (w := wu (fun h => if h < i then 0 else fN σ 23 h) i 0) ((h.det hi (by omega)).u20 (by rw [fN_uN, if_pos ⟨rfl, rfl⟩]) 0) (fun t t1 t2 => ?_)
        show (if t < i + 1 then 0 else fN σ 23 t) = (if t = i then 0 else (if t < i then 0 else fN σ 23 t))
        by_cases e : t = i
        · rw [if_pos (by omega), if_pos e]
        · by_cases e2 : t < i
          · rw [if_pos (by omega), if_neg e, if_pos e2]
          · rw [if_neg (by omega), if_neg e, if_neg e2]
      obtain ⟨f, hf⟩ := step _ rc (fun t t1 t2 t3 t4 => by
        have e : ¬ t = i := by omega
        have ne : (A (50 + t) = A (50 + i)) = False := by rw [h.2.1.e50 (by omega) t2 hi (by omega)]; exact eq_false e
        have t3' : fN σ 16 t ≠ 0 := by
          rw [fN_uN, if_neg (fun e => absurd e.1 (by decide)), fN_uN, if_neg (fun z => e z.2)] at t3; exact t3
        have := hk t (by omega) t2 t3' t4
        unfold dtM
        simp (disch := omega) only [forall_eq, tg_sI, gI_sI, gR_sI, aI_sI, aR_sI, ln_sI, tg_sR, gI_sR, gR_sR, aI_sR, aR_sR, ln_sR, tg_wI, gI_wI, gR_wI, aI_wI, aR_wI, ln_wI, tg_wR, gI_wR, gR_wR, aI_wR, aR_wR, ln_wR, tg_wC, gI_wC, gR_wC, aI_wC, aR_wC, ln_wC, tg_nO, gI_nO, gR_nO, aI_nO, aR_nO, ln_nO, tg_nA, gI_nA, gR_nA, aI_nA, aR_nA, ln_nA, Nat.reduceEqDiff, reduceCtorEq, false_and, true_and, and_true, and_false, and_self, if_true, if_false, ↓reduceIte, forall_const, true_implies, imp_self, not_true, not_false_eq_true, implies_true, not_false, eq_self, Nat.reduceLT, Nat.reduceLeDiff, fF_uF, fN_uF, fD_uF, fM_uF, fF_uN, fN_uN, fD_uN, fM_uN, fF_uD, fN_uD, fD_uD, fM_uD, fF_uM, fN_uM, fD_uM, fM_uM, ne]
        exact this) ((Cl.rm a B τ).dt _ hm) k
      exact ⟨f + 1, go f (fun m' e => by rw [e]; exact hf)⟩
theorem y_fin {m : Mm} {A : Nat → Nat} {σ τ : Sg} {a : Nat} {B : Nat → Nat} (h : RF m A σ a B τ) (b16 : ∀ h, fN σ 16 h ≤ 1) (b23 : ∀ h, fN σ 23 h ≤ 1) {P : Mm → Prop} (k : ∀ m', RC0 m' A (finS σ) → RM m' a B τ → P m') : wp_Machine_finish m (A 2) P := by
  obtain ⟨c1, c2, c3, c4, c5, c6⟩ := cp4_ext 4 0 σ
  obtain ⟨d1, d2, d3, d4, d5, d6⟩ := cp5_ext 40 0 (cp4 4 0 σ)
  obtain ⟨rc, k5, kf, hm⟩ := h
  unfold wp_Machine_finish wp_Machine_finish_0 wp_Device_putBack wp_Device_putBack_0 wp_Resources_putBack wp_Resources_putBack_0
  have T2 := rc.1.T2
  have T3 := rc.1.T3
  have T4 := rc.1.T4
  have T5 := rc.1.T5
  have T6 := rc.1.T6
  have T7 := rc.1.T7
  have T8 := rc.1.T8
  have T9 := rc.1.T9
  have L4 := rc.1.L4
  have L5 := rc.1.L5
  have L7 := rc.1.L7
  have L8 := rc.1.L8
  have R20 := rc.1.R2_0
  have R21 := rc.1.R2_1
  have R22 := rc.1.R2_2
  have R30 := rc.1.R3_0
  have R31 := rc.1.R3_1
  have R40 := rc.1.R4_0
  have R41 := rc.1.R4_1
  have t4 : (4 : Int32).toNatClampNeg = 4 := rfl
  have t40 : (nI 40).toNatClampNeg = 40 := nI_clamp (by decide)
  have z0 : ¬ ((0 : Int32) < 0) := by decide
  have z4 : ¬ ((4 : Int32) < 0) := by decide
  have z40 : ¬ (nI 40 < 0) := by decide
  simp only [forall_eq, T2, T3, T4, T5, T6, T7, T8, T9, L4, L5, L7, L8, R20, R21, R22, R30, R31, R40, R41, tg_wC, gR_wC, ln_wC, true_and, t4, t40, zz, z0, z4, z40, not_false_eq_true, Nat.zero_add, Nat.le_refl]
  generalize hM : wC (wC m 14 (A 4) (va_cpy (fun j => aI m 15 (A 5) j) (fun j => aI m 14 (A 4) j) 0 0 4)) 16 (A 7) (va_cpy (fun j => aI (wC m 14 (A 4) (va_cpy (fun j => aI m 15 (A 5) j) (fun j => aI m 14 (A 4) j) 0 0 4)) 17 (A 8) j) (fun j => aI (wC m 14 (A 4) (va_cpy (fun j => aI m 15 (A 5) j) (fun j => aI m 14 (A 4) j) 0 0 4)) 16 (A 7) j) 0 0 40) = m1
  have hR : RCr m1 A σ (fun h => fN σ 23 h) (fun _ => True) := by
    rw [← hM]
    obtain ⟨h1, h2, h3, h4, h5, h6⟩ := rc
    exact ⟨h1, h2, h3, h6⟩
  have hmm : RM m1 a B τ := by rw [← hM]; exact (hm.oC (by decide) _ _).oC (by decide) _ _
  have hk4 : ∀ i, i < 4 → aI m1 14 (A 4) i = nI (fN σ 9 i) := fun i hi => by
    rw [← hM, aI_wC, if_neg (fun e => absurd e.1 (by decide)), aI_wC, if_pos ⟨rfl, rfl⟩, pk_cpy_in (by omega) (by omega)]
    rw [show 0 + (i - 0) = i by omega]
    exact k5.1 i hi
  have hk7 : ∀ i, i < 40 → aI m1 16 (A 7) i = fD σ 10 i := fun i hi => by
    rw [← hM, aI_wC, if_pos ⟨rfl, rfl⟩, pk_cpy_in (by omega) (by omega)]
    rw [show 0 + (i - 0) = i by omega]
    exact k5.2 i hi
  have hkf : KF m1 A σ := by rw [← hM]; exact kf
  clear hM
  have e1 : ∀ f, fF (cp5 40 0 (cp4 4 0 σ)) f = fF σ f := fun f => (d1 f).trans (c1 f)
  have e2 : ∀ f, f ≠ 7 → ∀ i, fN (cp5 40 0 (cp4 4 0 σ)) f i = fN σ f i := fun f hf i => (d3 f i).trans (c4 f i hf)
  have e3 : ∀ f, f ≠ 8 → ∀ i, fD (cp5 40 0 (cp4 4 0 σ)) f i = fD σ f i := fun f hf i => (d4 f i hf).trans (c3 f i)
  have hR1 : RC m1 A (cp5 40 0 (cp4 4 0 σ)) (fun h => fN σ 23 h) (fun _ => True) := by
    refine RCr.mk (hR.ext (e1 1) (e1 2) (e1 15) (e1 24) (e2 4 (by decide)) (e2 5 (by decide)) (e2 11 (by decide)) (e2 12 (by decide)) (e2 16 (by decide)) (e2 17 (by decide)) (e2 18 (by decide)) (e2 19 (by decide)) (e2 20 (by decide)) (e2 21 (by decide)) (e3 3 (by decide)) (e3 6 (by decide)) (e3 13 (by decide)) (e3 14 (by decide))) (fun i hi => ?_) (fun i hi => ?_)
    · rw [hk4 i hi, d3, c5 i (by omega) (by omega)]
    · rw [hk7 i hi, d5 i (by omega) (by omega), c3]
  unfold wp_FileTree_putBack wp_FileTree_putBack_0
  refine y_putF 7 1 m1 (cp5 40 0 (cp4 4 0 σ)) rfl (by omega) (fun t => by rw [e2 16 (by decide)]; exact b16 t) (fun t => by rw [e2 23 (by decide)]; exact b23 t) (hR1.ww (fun t t1 t2 => ?_)) (fun t t1 t2 t3 t4 => ?_) hmm k
  · show (if t < 1 then 0 else fN (cp5 40 0 (cp4 4 0 σ)) 23 t) = fN σ 23 t
    rw [if_neg (by omega), e2 23 (by decide)]
  · rw [e2 16 (by decide)] at t3
    rw [e2 23 (by decide)] at t4
    rw [e2 22 (by decide)]
    exact hkf t t1 t2 t3 t4
theorem y_execute {m : Mm} {A : Nat → Nat} {σ τ : Sg} {a : Nat} {B : Nat → Nat} {j : Nat} (h : RC0 m A σ) (hI : RI σ) (hm : RM m a B τ) (hj : j < fF σ 2) (hu : ∀ i, i < 6 → fN σ 5 (6 * j + i) = 0) {P : Mm → Prop} (k : ∀ m', RC0 m' A (oneS j σ) → RM m' a B τ → P m') : wp_Machine_execute m (A 2) (A (100 + j)) P := by
  unfold wp_Machine_execute wp_Machine_execute_0
  have hj20 : j < 20 := by have := hI.1.jobs; omega
  have b2 : fF (begS j σ) 25 = j := (beg_ext j σ).2.1
  have hjo := job_ok (beg_RI (k := j) hI) (by rw [b2]; exact hj20)
  refine ⟨h.1.T2, y_beg h hI.1 hm hj hu (fun m1 r1 => ?_)⟩
  obtain ⟨f, hf⟩ := y_exec (A := A) (τ := τ) (a := a) (B := B) (P := P) (fF (begS j σ) 1 + 1) (start (begS j σ)) rfl (start_Lp (beg_RI hI) (by rw [b2]; exact hj20)) (fun m2 rf => y_fin (σ := jobS (begS j σ)) rf hjo.1.1.opn hjo.1.1.own k)
  have := hf m1 r1
  rw [show fF (start (begS j σ)) 25 = j from b2] at this
  exact ⟨f, this⟩
def UT (σ : Sg) : Prop := ∀ j, fN σ 5 (6 * j) = 0 → ∀ i, i < 6 → fN σ 5 (6 * j + i) = 0
theorem one_5 {k : Nat} {σ : Sg} (hI : RI σ) (hk : k < 20) : (∀ i, (i < 6 * k ∨ 6 * k + 5 < i) → fN (oneS k σ) 5 i = fN σ 5 i) ∧ 1 ≤ fN (oneS k σ) 5 (6 * k) ∧ (∀ j, fN (oneS k σ) 4 j = fN σ 4 j) := by
  obtain ⟨b1, b2, b3, b4, -, -, -, -⟩ := beg_ext k σ
  obtain ⟨g, kr, ht, o3, o1⟩ := run_ok (fF (begS k σ) 1 + 1) (start (begS k σ)) (start_Lp (beg_RI hI) (by rw [b2]; exact hk))
  obtain ⟨-, f2, -⟩ := fin_ext (jobS (begS k σ))
  have e25 : fF (runS (fF (begS k σ) 1 + 1) (start (begS k σ))).2 25 = k := (show _ = fF (start (begS k σ)) 25 from kr.1).trans b2
  have e5 : ∀ i, fN (runS (fF (begS k σ) 1 + 1) (start (begS k σ))).2 5 i = fN σ 5 i := fun i => (show _ = fN (start (begS k σ)) 5 i from kr.2.2.2.2.2.2.2.1 i).trans (b3 5 i (by decide) (by decide) (by decide))
  have e4 : ∀ i, fN (runS (fF (begS k σ) 1 + 1) (start (begS k σ))).2 4 i = fN σ 4 i := fun i => (show _ = fN (start (begS k σ)) 4 i from kr.2.2.2.2.2.2.1 i).trans (b3 4 i (by decide) (by decide) (by decide))
  refine ⟨fun i hi => ?_, ?_, fun j => ?_⟩
  · unfold oneS
    rw [f2 5 i (by decide) (by decide) (by decide)]
    unfold jobS
    rw [tl1 _ _ (by rw [e25]; exact hi)]
    exact e5 i
  · unfold oneS
    rw [f2 5 _ (by decide) (by decide) (by decide)]
    unfold jobS
    have := (tl0 (runS (fF (begS k σ) 1 + 1) (start (begS k σ))).1 (runS (fF (begS k σ) 1 + 1) (start (begS k σ))).2).1
    rw [e25] at this
    rw [this]
    exact o1
  · unfold oneS
    rw [f2 4 _ (by decide) (by decide) (by decide)]
    exact e4 j
theorem one_UT {k : Nat} {σ : Sg} (hI : RI σ) (hk : k < 20) (h : UT σ) : UT (oneS k σ) := by
  obtain ⟨a1, a2, -⟩ := one_5 hI hk
  intro j h0 i hi
  by_cases e : j = k
  · subst e; omega
  · rw [a1 _ (by omega)] at h0 ⊢
    exact h j h0 i hi
theorem y_rest {m : Mm} {A : Nat → Nat} {σ : Sg} {n : Nat} {P : Int32 → Mm → Prop} (h : RC0 m A σ) (hI : Inv σ) (k : P (nI n) m) : ∀ d i : Nat, d + i = 20 → fF σ 2 ≤ i → wp_ML_run_14 P (d + 1) m (A 0) (nI n) (nI i)
  | 0, i, hd, _ => by
    unfold wp_ML_run_14
    rw [geL_20 (by omega)]
    exact ⟨fun _ => k, fun q => absurd (by omega) q⟩
  | d + 1, i, hd, hi => by
    have ih := y_rest h hI k d (i + 1) (by omega) (by omega)
    conv => unfold wp_ML_run_14
    rw [geL_20 (by omega)]
    refine ⟨fun q => absurd q (by omega), fun _ => ⟨h.1.T0, x_jobOrNull h hI (fun _ => ⟨fun _ => ?_, fun z => absurd rfl z⟩) (fun j j1 j2 => ?_)⟩⟩
    · unfold wp_ML_run_48
      intro u eu
      rw [eu, nI_1]
      exact ih
    · rw [c_eq (by omega) (by have := hI.jobs; omega)] at j2
      omega
theorem y_runs {A : Nat → Nat} {τ : Sg} {a : Nat} {B : Nat → Nat} {P : Int32 → Mm → Prop} : ∀ (c k n : Nat) (σ : Sg), c + k = fF σ 2 → n ≤ k → RI σ → UT σ → (∀ m', RC0 m' A (allS c k n σ).2 → RM m' a B τ → P (nI (allS c k n σ).1) m') → ∃ f, ∀ m, RC0 m A σ → RM m a B τ → wp_ML_run_14 P f m (A 0) (nI n) (nI k)
  | 0, k, n, σ, hc, hn, hI, hu, kk => by
    have hj := hI.1.jobs
    exact ⟨20 - k + 1, fun m h hm => y_rest (σ := σ) h hI.1 (kk m h hm) (20 - k) k (by omega) (by omega)⟩
  | c + 1, k, n, σ, hc, hn, hI, hu, kk => by
    have hj := hI.1.jobs
    have to := hI.1.told (6 * k)
    have head : ∀ (f : Nat) (m : Mm), RC0 m A σ → (fN σ 5 (6 * k) = 0 → wp_Machine_execute m (A 2) (A (100 + k)) (fun m_11 => (∀ x_14 : Int32, x_14 = nI n + 1 → wp_ML_run_48 (wp_ML_run_14 P f) P m_11 (A 0) x_14 (nI k)))) → (fN σ 5 (6 * k) ≠ 0 → wp_ML_run_14 P f m (A 0) (nI n) (nI (k + 1))) → wp_ML_run_14 P (f + 1) m (A 0) (nI n) (nI k) := fun f m h a1 a2 => by
      conv => unfold wp_ML_run_14
      rw [geL_20 (by omega)]
      refine ⟨fun q => absurd q (by omega), fun _ => ⟨h.1.T0, x_jobOrNull h hI.1 (fun q => ?_) (fun j j1 j2 => ?_)⟩⟩
      · exfalso
        rw [ltL_0 (by omega), c_le (by omega) (by omega)] at q
        omega
      · have ej : k = j := by rw [c_eq (by omega) (by omega)] at j2; exact j2
        subst ej
        have T8 := (h.2.1.2.2.1 k j1).2.1
        have t4 := (h.2.2.2.2.2.2.2.2.2 k j1 trivial).1
        refine ⟨fun z => absurd z (h.nz j1), fun _ => ⟨T8, fun u eu => ?_⟩⟩
        rw [t4] at eu
        subst eu
        rw [eL_0 (by omega)]
        refine ⟨fun q => ⟨h.1.T0, fun u eu => ?_⟩, fun q => ?_⟩
        · rw [h.1.R1_1] at eu
          subst eu
          exact ⟨h.1.T2, a1 q⟩
        · unfold wp_ML_run_48
          intro u eu
          rw [eu, nI_1]
          exact a2 q
    by_cases q : fN σ 5 (6 * k) = 0
    · have ea : allS (c + 1) k n σ = allS c (k + 1) (n + 1) (oneS k σ) := if_pos q
      rw [ea] at kk
      obtain ⟨r1, r2, -⟩ := one_ok (k := k) hI (by omega)
      obtain ⟨f, hf⟩ := y_runs c (k + 1) (n + 1) (oneS k σ) (by rw [r2]; omega) (by omega) r1 (one_UT hI (by omega) hu) kk
      refine ⟨f + 1, fun m h hm => head f m h (fun _ => y_execute h hI hm (by omega) (hu k q) (fun m' h' hm' u eu => ?_)) (fun z => absurd q z)⟩
      unfold wp_ML_run_48
      intro u2 eu2
      rw [eu, eu2, nI_1, nI_1]
      exact hf m' h' hm'
    · have ea : allS (c + 1) k n σ = allS c (k + 1) n σ := if_neg q
      rw [ea] at kk
      obtain ⟨f, hf⟩ := y_runs c (k + 1) n σ (by omega) (by omega) hI hu kk
      exact ⟨f + 1, fun m h hm => head f m h (fun z => absurd z q) (fun _ => hf m h hm)⟩
theorem x_run {m : Mm} {A : Nat → Nat} {σ τ : Sg} {a : Nat} {B : Nat → Nat} (h : RC0 m A σ) (hI : RI σ) (hu : UT σ) (hm : RM m a B τ) {P : Int32 → Mm → Prop} (k : ∀ m', RC0 m' A (spRun σ).2 → RM m' a B τ → P (spRun σ).1 m') : wp_ML_run m (A 0) P := by
  unfold wp_ML_run wp_ML_run_0
  have f24 := hI.1.fails
  refine ⟨h.1.T0, fun u eu => ?_⟩
  rw [h.2.2.1.2.1] at eu
  subst eu
  rw [eL_0 (by omega)]
  unfold spRun at k
  refine ⟨fun q => ?_, fun q => ?_⟩
  · rw [if_pos q] at k
    obtain ⟨f, hf⟩ := y_runs (A := A) (τ := τ) (a := a) (B := B) (P := P) (fF σ 2) 0 0 σ (by omega) (by omega) hI hu k
    exact ⟨f, hf m h hm⟩
  · rw [if_neg q] at k
    exact k m h hm
theorem all_UT : ∀ (c k n : Nat) (σ : Sg), c + k ≤ 20 → RI σ → UT σ → UT (allS c k n σ).2
  | 0, _, _, _, _, _, h => h
  | c + 1, k, n, σ, hc, hI, h => by
    unfold allS
    split
    · exact all_UT c (k + 1) (n + 1) _ (by omega) (one_ok hI (by omega)).1 (one_UT hI (by omega) h)
    · exact all_UT c (k + 1) n σ (by omega) hI h
/-- jobs that are not yet made -/
def FJ (σ : Sg) : Prop := ∀ j, fF σ 2 ≤ j → fN σ 4 j = 0 ∧ fN σ 5 (6 * j) = 0
theorem all_FJ : ∀ (c k n : Nat) (σ : Sg), c + k ≤ fF σ 2 → RI σ → FJ σ → FJ (allS c k n σ).2
  | 0, _, _, _, _, _, h => h
  | c + 1, k, n, σ, hc, hI, h => by
    have hj := hI.1.jobs
    unfold allS
    split
    · obtain ⟨r1, r2, -⟩ := one_ok (k := k) hI (by omega)
      obtain ⟨a1, a2, a3⟩ := one_5 (k := k) hI (by omega)
      refine all_FJ c (k + 1) (n + 1) _ (by rw [r2]; omega) r1 (fun j hj => ?_)
      rw [r2] at hj
      rw [a3, a1 _ (by omega)]
      exact h j hj
    · exact all_FJ c (k + 1) n σ (by omega) hI h
theorem spRun_UT {σ : Sg} (hI : RI σ) (h : UT σ) : UT (spRun σ).2 := by
  unfold spRun
  split
  · exact all_UT _ _ _ σ (by have := hI.1.jobs; omega) hI h
  · exact h
theorem spRun_FJ {σ : Sg} (hI : RI σ) (h : FJ σ) : FJ (spRun σ).2 := by
  unfold spRun
  split
  · exact all_FJ _ _ _ σ (by omega) hI h
  · exact h
