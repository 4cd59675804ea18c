/-! THE CLASS: a job from its beginning to its end -/
theorem RC.ext {m : Mm} {A : Nat → Nat} {σ : Sg} {w : Nat → Nat} {c : Nat → Prop} {σ' : Sg} (h : RC m A σ w c) (f1 : fF σ' 1 = fF σ 1) (f2 : fF σ' 2 = fF σ 2) (f15 : fF σ' 15 = fF σ 15) (f24 : fF σ' 24 = fF σ 24) (n4 : ∀ i, fN σ' 4 i = fN σ 4 i) (n5 : ∀ i, fN σ' 5 i = fN σ 5 i) (n7 : ∀ i, fN σ' 7 i = fN σ 7 i) (n11 : ∀ i, fN σ' 11 i = fN σ 11 i) (n12 : ∀ i, fN σ' 12 i = fN σ 12 i) (n16 : ∀ i, fN σ' 16 i = fN σ 16 i) (n17 : ∀ i, fN σ' 17 i = fN σ 17 i) (n18 : ∀ i, fN σ' 18 i = fN σ 18 i) (n19 : ∀ i, fN σ' 19 i = fN σ 19 i) (n20 : ∀ i, fN σ' 20 i = fN σ 20 i) (n21 : ∀ i, fN σ' 21 i = fN σ 21 i) (d3 : ∀ i, fD σ' 3 i = fD σ 3 i) (d6 : ∀ i, fD σ' 6 i = fD σ 6 i) (d8 : ∀ i, fD σ' 8 i = fD σ 8 i) (d13 : ∀ i, fD σ' 13 i = fD σ 13 i) (d14 : ∀ i, fD σ' 14 i = fD σ 14 i) : RC m A σ' w c := by
  unfold RC CN CD CR CS HC hsA JS JT at *
  simp only [f1, f2, f15, f24, n4, n5, n7, n11, n12, n16, n17, n18, n19, n20, n21, d3, d6, d8, d13, d14]
  exact h
theorem RC.cc {m : Mm} {A : Nat → Nat} {σ : Sg} {w : Nat → Nat} {c : Nat → Prop} {c' : Nat → Prop} (h : RC m A σ w c) (e : ∀ j, c' j → c j) : RC m A σ w c' := by
  obtain ⟨h1, h2, h3, h4, h5, h6, h7, h8, h9, h10⟩ := h
  exact ⟨h1, h2, h3, h4, h5, h6, h7, h8, h9, fun j a b => h10 j a (e j b)⟩
/-- kept filters -/
theorem y_keepF {A : Nat → Nat} {n : Nat} {Z : Mm → Prop} (hZ : ∀ m x v, Z m → Z (sI m 10 2 x v)) {P : Mm → Prop} (k : ∀ m', Z m' → (∀ h, 1 ≤ h → h < 8 → gI m' 10 2 (A (50 + h)) = gI m' 10 1 (A (50 + h))) → P m') : ∀ (d i : Nat) (m : Mm), d + i = 8 → 1 ≤ i → ShF m A → ShV m A n → Z m → (∀ h, 1 ≤ h → h < i → gI m 10 2 (A (50 + h)) = gI m 10 1 (A (50 + h))) → ∃ f, wp_FileTree_keep_2 P f m (A 9) (nI i)
  | 0, i, m, hd, _, _, _, z, hk => ⟨1, by
    unfold wp_FileTree_keep_2
    rw [gtL_7 (by omega)]
    exact ⟨fun _ => k m z (fun h a b => hk h a (by omega)), fun q => absurd (by omega) q⟩⟩
  | d + 1, i, m, hd, hi, hS, hV, z, hk => by
    have T10 := (hV.2.1 i hi (by omega)).2.1
    obtain ⟨f, hf⟩ := y_keepF hZ k d (i + 1) (sI m 10 2 (A (50 + i)) (gI m 10 1 (A (50 + i)))) (by omega) (by omega) hS hV (hZ _ _ _ z) (fun h a b => by
      by_cases e : h = i
      · subst e; simp (disch := omega) only [forall_eq, tg_sI, gI_sI, gR_sI, aI_sI, aR_sI, ln_sI, tg_sR, gI_sR, gR_sR, aI_sR, aR_sR, ln_sR, tg_wI, gI_wI, gR_wI, aI_wI, aR_wI, ln_wI, tg_wR, gI_wR, gR_wR, aI_wR, aR_wR, ln_wR, tg_wC, gI_wC, gR_wC, aI_wC, aR_wC, ln_wC, tg_nO, gI_nO, gR_nO, aI_nO, aR_nO, ln_nO, tg_nA, gI_nA, gR_nA, aI_nA, aR_nA, ln_nA, Nat.reduceEqDiff, reduceCtorEq, false_and, true_and, and_true, and_false, and_self, if_true, if_false, ↓reduceIte, forall_const, true_implies, imp_self, not_true, not_false_eq_true, implies_true, not_false, eq_self, Nat.reduceLT, Nat.reduceLeDiff, fF_uF, fN_uF, fD_uF, fM_uF, fF_uN, fN_uN, fD_uN, fM_uN, fF_uD, fN_uD, fD_uD, fM_uD, fF_uM, fN_uM, fD_uM, fM_uM]
      · have ne : (A (50 + h) = A (50 + i)) = False := by rw [hV.e50 a (by omega) hi (by omega)]; exact eq_false e
        have := hk h a (by omega)
        simp (disch := omega) only [forall_eq, tg_sI, gI_sI, gR_sI, aI_sI, aR_sI, ln_sI, tg_sR, gI_sR, gR_sR, aI_sR, aR_sR, ln_sR, tg_wI, gI_wI, gR_wI, aI_wI, aR_wI, ln_wI, tg_wR, gI_wR, gR_wR, aI_wR, aR_wR, ln_wR, tg_wC, gI_wC, gR_wC, aI_wC, aR_wC, ln_wC, tg_nO, gI_nO, gR_nO, aI_nO, aR_nO, ln_nO, tg_nA, gI_nA, gR_nA, aI_nA, aR_nA, ln_nA, Nat.reduceEqDiff, reduceCtorEq, false_and, true_and, and_true, and_false, and_self, if_true, if_false, ↓reduceIte, forall_const, true_implies, imp_self, not_true, not_false_eq_true, implies_true, not_false, eq_self, Nat.reduceLT, Nat.reduceLeDiff, fF_uF, fN_uF, fD_uF, fM_uF, fF_uN, fN_uN, fD_uN, fM_uN, fF_uD, fN_uD, fD_uD, fM_uD, fF_uM, fN_uM, fD_uM, fM_uM, ne]
        exact this)
    refine ⟨f + 1, ?_⟩
    unfold wp_FileTree_keep_2 wp_FileTree_keep_22
    rw [gtL_7 (by omega)]
    refine ⟨fun q => absurd q (by omega), fun _ => ⟨hS.T9, x_handle hS hV (fun q => ?_) (fun j j1 j2 e => ?_)⟩⟩
    · rw [ltL_1 (by omega), gtL_7 (by omega)] at q; omega
    · have ej : i = j := by rw [c_eq (by omega) (by omega)] at e; exact e
      subst ej
      refine ⟨fun q => absurd q (hV.2.2.2.2 _ (by unfold dmA; omega)), fun _ => ⟨T10, ?_⟩⟩
      unfold wp_Handle_keepFilters wp_Handle_keepFilters_0
      simp only [forall_eq, T10, true_and, nI_1]
      exact hf
def K5 (m : Mm) (A : Nat → Nat) (σ : Sg) : Prop := (∀ i, i < 4 → aI m 15 (A 5) i = nI (fN σ 9 i)) ∧ (∀ i, i < 40 → aI m 17 (A 8) i = fD σ 10 i)
theorem y_beg {m : Mm} {A : Nat → Nat} {σ τ : Sg} {a : Nat} {B : Nat → Nat} {j : Nat} (h : RC0 m A σ) (hI : Inv σ) (hm : RM m a B τ) (hj : j < fF σ 2) (hu : ∀ i, i < 6 → fN σ 5 (6 * j + i) = 0) {P : Mm → Prop} (k : ∀ m', RJ m' A (start (begS j σ)) 0 a B τ → P m') : wp_Machine_begin m (A 2) (A (100 + j)) P := by
  obtain ⟨b1, b2, b3, b4, b5, b6, b7, -⟩ := beg_ext j σ
  unfold wp_Machine_begin wp_Machine_begin_0 wp_Device_keep wp_Device_keep_0 wp_Resources_keep wp_Resources_keep_0
  have T2 := h.1.T2
  have T3 := h.1.T3
  have T4 := h.1.T4
  have T5 := h.1.T5
  have T6 := h.1.T6
  have T7 := h.1.T7
  have T8 := h.1.T8
  have T9 := h.1.T9
  have T13 := h.1.T13
  have T15 := h.1.T15
  have L4 := h.1.L4
  have L5 := h.1.L5
  have L7 := h.1.L7
  have L8 := h.1.L8
  have R20 := h.1.R2_0
  have R21 := h.1.R2_1
  have R22 := h.1.R2_2
  have R24 := h.1.R2_4
  have R25 := h.1.R2_5
  have R30 := h.1.R3_0
  have R31 := h.1.R3_1
  have R40 := h.1.R4_0
  have R41 := h.1.R4_1
  have t4 : (4 : Int32).toNatClampNeg = 4 := rfl
  have t40 : (nI 40).toNatClampNeg = 40 := nI_clamp (by decide)
  have z0 : ¬ ((0 : Int32) < 0) := by decide
  have z4 : ¬ ((4 : Int32) < 0) := by decide
  have z40 : ¬ (nI 40 < 0) := by decide
  simp only [forall_eq, T2, T3, T4, T5, T6, T7, T8, T9, L4, L5, L7, L8, R20, R21, R22, R30, R31, R40, R41, tg_wC, gR_wC, ln_wC, true_and, t4, t40, zz, z0, z4, z40, not_false_eq_true, Nat.zero_add, Nat.le_refl]
  generalize hM : wC (wC m 15 (A 5) (va_cpy (fun j => aI m 14 (A 4) j) (fun j => aI m 15 (A 5) j) 0 0 4)) 17 (A 8) (va_cpy (fun j => aI (wC m 15 (A 5) (va_cpy (fun j => aI m 14 (A 4) j) (fun j => aI m 15 (A 5) j) 0 0 4)) 16 (A 7) j) (fun j => aI (wC m 15 (A 5) (va_cpy (fun j => aI m 14 (A 4) j) (fun j => aI m 15 (A 5) j) 0 0 4)) 17 (A 8) j) 0 0 40) = m1
  have hR : RC m1 A σ (fun _ => 0) (fun _ => True) := by rw [← hM]; exact h
  have hmm : RM m1 a B τ := by rw [← hM]; exact (hm.oC (by decide) _ _).oC (by decide) _ _
  have hk5 : ∀ i, i < 4 → aI m1 15 (A 5) i = nI (fN σ 7 i) := fun i hi => by
    rw [← hM, aI_wC, if_neg (fun e => absurd e.1 (by decide)), aI_wC, if_pos ⟨rfl, rfl⟩, pk_cpy_in (by omega) (by omega)]
    rw [show 0 + (i - 0) = i by omega]
    exact h.2.2.2.1 i hi
  have hk8 : ∀ i, i < 40 → aI m1 17 (A 8) i = fD σ 8 i := fun i hi => by
    rw [← hM, aI_wC, if_pos ⟨rfl, rfl⟩, pk_cpy_in (by omega) (by omega)]
    rw [show 0 + (i - 0) = i by omega]
    exact h.2.2.2.2.1 i hi
  clear hM
  unfold wp_FileTree_keep wp_FileTree_keep_0
  refine y_keepF (A := A) (n := fF σ 2) (Z := fun m => RC0 m A σ ∧ RM m a B τ ∧ (∀ i, i < 4 → aI m 15 (A 5) i = nI (fN σ 7 i)) ∧ (∀ i, i < 40 → aI m 17 (A 8) i = fD σ 8 i)) (fun m x v z => ⟨z.1, z.2.1.oI (by decide) _ _ _, z.2.2⟩) (fun m2 z2 hkf => ?_) 7 1 m1 rfl (by omega) hR.1 hR.2.1 ⟨hR, hmm, hk5, hk8⟩ (fun h a b => absurd a (by omega))
  have hkf' : ∀ h, 1 ≤ h → h < 8 → fN σ 16 h ≠ 0 → gI m2 10 2 (A (50 + h)) = nI (fN σ 20 h) := fun h a b e => by
    rw [hkf h a b]
    exact ((z2.1.hc a (by omega)).2.1 e).2.1
  have T15 := z2.1.1.T15
  have R25 := z2.1.1.R2_5
  rw [R25]
  refine ⟨z2.1.1.T2, T15, ?_⟩
  obtain ⟨-, J8, J80, -, J24, JL, -, -⟩ := z2.1.2.1.2.2.1 j hj
  obtain ⟨js1, js2⟩ := z2.1.2.2.2.2.2.2.2.2.1 j hj
  refine y_prepare (Z := fun m => RC0 m A σ ∧ RM m a B τ ∧ (∀ i, i < 4 → aI m 15 (A 5) i = nI (fN σ 7 i)) ∧ (∀ i, i < 40 → aI m 17 (A 8) i = fD σ 8 i) ∧ (∀ h, 1 ≤ h → h < 8 → fN σ 16 h ≠ 0 → gI m 10 2 (A (50 + h)) = nI (fN σ 20 h))) (n := fN σ 4 j) (g := sgn (start (begS j σ))) ?_ z2.1.1 J8 js1 J80 J24 JL (fun i hi => ?_) (hI.size j) ⟨z2.1, z2.2.1, z2.2.2.1, z2.2.2.2, hkf'⟩ (fun m3 z3 hPL hS3 => ?_)
  · exact ⟨fun m x i v z => ⟨z.1, z.2.1.oW (by decide) _ _ _, z.2.2⟩, fun m x i v z => ⟨z.1, z.2.1.oW (by decide) _ _ _, z.2.2⟩, fun m x i v z => ⟨z.1, z.2.1.oW (by decide) _ _ _, z.2.2⟩, fun m x v z => ⟨z.1, z.2.1.oI (by decide) _ _ _, z.2.2⟩⟩
  · rw [js2 i hi]
    show _ = fD (begS j σ) 3 (200 * fF (begS j σ) 25 + i)
    rw [b2, b4 3 _ (by decide)]
  · obtain ⟨c1, c2, c3, c4, c5⟩ := z3
    have T2 := c1.1.T2
    have T13 := c1.1.T13
    have T15 := c1.1.T15
    have R24 := c1.1.R2_4
    have R25 := c1.1.R2_5
    unfold wp_Numbers_clear wp_Numbers_clear_0
    simp only [forall_eq, T2, T13, T15, R24, R25, tg_sI, gR_sI, true_and]
    have sz := hI.size j
    refine y_first (m := sI (sI (sI m3 6 1 (A 13) 0) 2 7 (A 2) 0) 2 8 (A 2) 0) (n := fN σ 4 j) (p := 0) (g := sgn (start (begS j σ))) hS3 hPL sz (by decide) ⟨T2, ?_⟩
    have e25 : fF (start (begS j σ)) 25 = j := b2
    have e2 : fF (start (begS j σ)) 2 = fF σ 2 := b1 2 (by decide)
    have esz : siz (start (begS j σ)) = fN σ 4 j := by
      show fN (begS j σ) 4 (fF (begS j σ) 25) = _
      rw [b2, b3 4 _ (by decide) (by decide) (by decide)]
    have ht := c1.2.2.2.2.2.2.2.2.2 j hj trivial
    obtain ⟨u4, u5, u6, u3, u7, u8, -⟩ := ht
    have h0 := hu 0 (by decide)
    rw [Nat.add_zero] at h0
    rw [h0] at u4
    rw [hu 1 (by decide)] at u5
    rw [hu 2 (by decide)] at u6
    rw [hu 3 (by decide)] at u3
    rw [hu 4 (by decide)] at u7
    rw [hu 5 (by decide)] at u8
    refine k _ ⟨?_, ⟨⟨?_, fun i hi => absurd hi (Nat.not_lt_zero i)⟩, ⟨?_, fun i hi => absurd hi (Nat.not_lt_zero i)⟩, ?_, ?_, ⟨fun i hi => ?_, fun i hi => ?_⟩, ?_, ?_⟩, fun h a b e1 e2 => ?_, (((c2.oI (by decide) _ _ _).oI (by decide) _ _ _).oI (by decide) _ _ _).oI (by decide) _ _ _, ?_⟩
    · refine RC.ww (w := fun _ => 0) (RC.cc (c := fun _ => True) ?_ (fun _ _ => trivial)) (fun i a b => (b7 i a b).1)
      refine RC.ext (σ := σ) (σ' := start (begS j σ)) (show RC0 m3 A σ from c1) ?_ ?_ ?_ ?_ ?_ ?_ ?_ ?_ ?_ ?_ ?_ ?_ ?_ ?_ ?_ ?_ ?_ ?_ ?_ ?_
      · exact b1 1 (by decide)
      · exact b1 2 (by decide)
      · exact b1 15 (by decide)
      · exact b1 24 (by decide)
      · exact fun i => b3 4 i (by decide) (by decide) (by decide)
      · exact fun i => b3 5 i (by decide) (by decide) (by decide)
      · exact fun i => b3 7 i (by decide) (by decide) (by decide)
      · exact fun i => b3 11 i (by decide) (by decide) (by decide)
      · exact fun i => b3 12 i (by decide) (by decide) (by decide)
      · exact fun i => b3 16 i (by decide) (by decide) (by decide)
      · exact fun i => b3 17 i (by decide) (by decide) (by decide)
      · exact fun i => b3 18 i (by decide) (by decide) (by decide)
      · exact fun i => b3 19 i (by decide) (by decide) (by decide)
      · exact fun i => b3 20 i (by decide) (by decide) (by decide)
      · exact fun i => b3 21 i (by decide) (by decide) (by decide)
      · exact fun i => b4 3 i (by decide)
      · exact fun i => b4 6 i (by decide)
      · exact fun i => b4 8 i (by decide)
      · exact fun i => b4 13 i (by decide)
      · exact fun i => b4 14 i (by decide)
    · simp (disch := omega) only [forall_eq, tg_sI, gI_sI, gR_sI, aI_sI, aR_sI, ln_sI, tg_sR, gI_sR, gR_sR, aI_sR, aR_sR, ln_sR, tg_wI, gI_wI, gR_wI, aI_wI, aR_wI, ln_wI, tg_wR, gI_wR, gR_wR, aI_wR, aR_wR, ln_wR, tg_wC, gI_wC, gR_wC, aI_wC, aR_wC, ln_wC, tg_nO, gI_nO, gR_nO, aI_nO, aR_nO, ln_nO, tg_nA, gI_nA, gR_nA, aI_nA, aR_nA, ln_nA, Nat.reduceEqDiff, reduceCtorEq, false_and, true_and, and_true, and_false, and_self, if_true, if_false, ↓reduceIte, forall_const, true_implies, imp_self, not_true, not_false_eq_true, implies_true, not_false, eq_self, Nat.reduceLT, Nat.reduceLeDiff, fF_uF, fN_uF, fD_uF, fM_uF, fF_uN, fN_uN, fD_uN, fM_uN, fF_uD, fN_uD, fD_uD, fM_uD, fF_uM, fN_uM, fD_uM, fM_uM]; rfl
    · simp (disch := omega) only [forall_eq, tg_sI, gI_sI, gR_sI, aI_sI, aR_sI, ln_sI, tg_sR, gI_sR, gR_sR, aI_sR, aR_sR, ln_sR, tg_wI, gI_wI, gR_wI, aI_wI, aR_wI, ln_wI, tg_wR, gI_wR, gR_wR, aI_wR, aR_wR, ln_wR, tg_wC, gI_wC, gR_wC, aI_wC, aR_wC, ln_wC, tg_nO, gI_nO, gR_nO, aI_nO, aR_nO, ln_nO, tg_nA, gI_nA, gR_nA, aI_nA, aR_nA, ln_nA, Nat.reduceEqDiff, reduceCtorEq, false_and, true_and, and_true, and_false, and_self, if_true, if_false, ↓reduceIte, forall_const, true_implies, imp_self, not_true, not_false_eq_true, implies_true, not_false, eq_self, Nat.reduceLT, Nat.reduceLeDiff, fF_uF, fN_uF, fD_uF, fM_uF, fF_uN, fN_uN, fD_uN, fM_uN, fF_uD, fN_uD, fD_uD, fM_uD, fF_uM, fN_uM, fD_uM, fM_uM]; rfl
    · simp (disch := omega) only [forall_eq, tg_sI, gI_sI, gR_sI, aI_sI, aR_sI, ln_sI, tg_sR, gI_sR, gR_sR, aI_sR, aR_sR, ln_sR, tg_wI, gI_wI, gR_wI, aI_wI, aR_wI, ln_wI, tg_wR, gI_wR, gR_wR, aI_wR, aR_wR, ln_wR, tg_wC, gI_wC, gR_wC, aI_wC, aR_wC, ln_wC, tg_nO, gI_nO, gR_nO, aI_nO, aR_nO, ln_nO, tg_nA, gI_nA, gR_nA, aI_nA, aR_nA, ln_nA, Nat.reduceEqDiff, reduceCtorEq, false_and, true_and, and_true, and_false, and_self, if_true, if_false, ↓reduceIte, forall_const, true_implies, imp_self, not_true, not_false_eq_true, implies_true, not_false, eq_self, Nat.reduceLT, Nat.reduceLeDiff, fF_uF, fN_uF, fD_uF, fM_uF, fF_uN, fN_uN, fD_uN, fM_uN, fF_uD, fN_uD, fD_uD, fM_uD, fF_uM, fN_uM, fD_uM, fM_uM]; rfl
    · rw [esz]; exact hPL
    · show aI m3 15 (A 5) i = nI (fN (begS j σ) 9 i)
      rw [b5 i hi]; exact c3 i hi
    · show aI m3 17 (A 8) i = fD (begS j σ) 10 i
      rw [b6 i hi]; exact c4 i hi
    · unfold JC
      rw [e25]
      refine ⟨u4, u5, u6, u8, u7, u3, fun i hi => absurd hi (Nat.not_lt_zero i)⟩
    · rw [esz]
      simp (disch := omega) only [forall_eq, tg_sI, gI_sI, gR_sI, aI_sI, aR_sI, ln_sI, tg_sR, gI_sR, gR_sR, aI_sR, aR_sR, ln_sR, tg_wI, gI_wI, gR_wI, aI_wI, aR_wI, ln_wI, tg_wR, gI_wR, gR_wR, aI_wR, aR_wR, ln_wR, tg_wC, gI_wC, gR_wC, aI_wC, aR_wC, ln_wC, tg_nO, gI_nO, gR_nO, aI_nO, aR_nO, ln_nO, tg_nA, gI_nA, gR_nA, aI_nA, aR_nA, ln_nA, Nat.reduceEqDiff, reduceCtorEq, false_and, true_and, and_true, and_false, and_self, if_true, if_false, ↓reduceIte, forall_const, true_implies, imp_self, not_true, not_false_eq_true, implies_true, not_false, eq_self, Nat.reduceLT, Nat.reduceLeDiff, fF_uF, fN_uF, fD_uF, fM_uF, fF_uN, fN_uN, fD_uN, fM_uN, fF_uD, fN_uD, fD_uD, fM_uD, fF_uM, fN_uM, fD_uM, fM_uM]
    · show gI m3 10 2 (A (50 + h)) = nI (fN (begS j σ) 22 h)
      rw [(b7 h a b).2]
      refine c5 h a b (fun q => e1 ?_)
      show fN (begS j σ) 16 h = 0
      rw [b3 16 h (by decide) (by decide) (by decide)]; exact q
    · rw [e25, e2]; exact hj
