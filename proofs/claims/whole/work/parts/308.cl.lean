/-! a sign is done -/
def Kn (s : Int32) : Prop := s = 42 ∨ s = 43 ∨ s = 45 ∨ s = 68 ∨ s = 82 ∨ s = 99 ∨ s = 100 ∨ s = 102 ∨ s = 103 ∨ s = 109 ∨ s = 111 ∨ s = 112 ∨ s = 113 ∨ s = 114 ∨ s = 115 ∨ s = 116 ∨ s = 119 ∨ s = 120 ∨ s = 123 ∨ s = 125
def dsB (P : Int32 → Mm → Prop) (m_1 : Mm) (v0 v1 : Nat) (v2 v3 r_2 : Int32) : Prop := ((r_2 = (-1 : Int32) → P 1 m_1) ∧ (¬ r_2 = (-1 : Int32) → (tg m_1 v0 = 2 ∧ ∀ x_4 : Nat, x_4 = gR m_1 2 4 v0 → (tg m_1 x_4 = 6 ∧ wp_Numbers_has m_1 x_4 r_2 (fun r_7 m_6 => ((r_7 = 0 → P 5 m_6) ∧ (¬ r_7 = 0 → ((r_2 ≤ (2 : Int32) → wp_Machine_doSign_69 P m_6 v0 v1 v2 v3 r_2 0) ∧ (¬ r_2 ≤ (2 : Int32) → (tg m_6 v0 = 2 ∧ ∀ x_11 : Nat, x_11 = gR m_6 2 4 v0 → (tg m_6 x_11 = 6 ∧ wp_Numbers_take m_6 x_11 (fun r_14 m_13 => wp_Machine_doSign_69 P m_13 v0 v1 v2 v3 r_2 r_14))))))))))))
theorem y_tk {m : Mm} {A : Nat → Nat} {σ τ : Sg} {x a : Nat} {B : Nat → Nat} {h : Nat} (r : RJ m A (uF σ 28 h) x a B τ) (h1 : 1 ≤ h) (h2 : h ≤ 20) {P : Int32 → Mm → Prop} (k : ∀ m', RJ m' A (uF σ 28 (h - 1)) x a B τ → P (fD σ 29 (h - 1)) m') : (tg m (A 2) = 2 ∧ ∀ x_2 : Nat, x_2 = gR m 2 4 (A 2) → (tg m x_2 = 6 ∧ wp_Numbers_take m x_2 P)) := by
  refine ⟨r.1.1.T2, fun u eu => ?_⟩
  rw [r.1.1.R2_4] at eu
  subst eu
  exact ⟨r.1.1.T13, y_take r h1 h2 k⟩
theorem y_pre {m : Mm} {A : Nat → Nat} {σ τ : Sg} {x a : Nat} {B : Nat → Nat} (r : RJ m A σ x a B τ) (h28 : fF σ 28 ≤ 20) {w : Nat} (hw : w ≤ 3) {s pl : Int32} {J : Nat} {P : Int32 → Mm → Prop} (k0 : fF σ 28 < w → P 5 m) (k1 : w ≤ fF σ 28 → ∀ m', RJ m' A (uF σ 28 (fF σ 28 - w)) x a B τ → wp_Machine_doSign_106 P m' (A 2) J s pl (if 2 < w then fD σ 29 (fF σ 28 - w + 2) else 0) (if 1 < w then fD σ 29 (fF σ 28 - w + 1) else 0) (if 0 < w then fD σ 29 (fF σ 28 - w) else 0)) : dsB P m (A 2) J s pl (nI w) := by
  unfold dsB
  refine ⟨fun z => absurd z (n_m1 (by omega)), fun _ => ⟨r.1.1.T2, fun u eu => ?_⟩⟩
  rw [r.1.1.R2_4] at eu
  subst eu
  refine ⟨r.1.1.T13, ?_⟩
  unfold wp_Numbers_has wp_Numbers_has_0
  refine ⟨r.1.1.T13, fun u eu => ?_⟩
  rw [r.2.1.1.1] at eu
  subst eu
  rw [c_lt (by omega) (by omega)]
  refine ⟨fun q => ⟨fun _ => k0 q, fun z => absurd rfl z⟩, fun q => ⟨fun z => absurd z (by decide), fun _ => ?_⟩⟩
  have q' : w ≤ fF σ 28 := by omega
  have k2 := k1 q'
  have r0 : RJ m A (uF σ 28 (fF σ 28)) x a B τ := r
  unfold wp_Machine_doSign_69 wp_Machine_doSign_88
  rw [leL_2 (by omega), leL_1 (by omega), leL_0 (by omega)]
  rcases (show w = 0 ∨ w = 1 ∨ w = 2 ∨ w = 3 by omega) with e | e | e | e
  · subst e
    exact ⟨fun _ => ⟨fun _ => ⟨fun _ => k2 m r0, fun z => absurd (by omega) z⟩, fun z => absurd (by omega) z⟩, fun z => absurd (by omega) z⟩
  · subst e
    exact ⟨fun _ => ⟨fun _ => ⟨fun z => absurd z (by omega), fun _ => y_tk r0 q' h28 (fun m1 r1 => k2 m1 r1)⟩, fun z => absurd (by omega) z⟩, fun z => absurd (by omega) z⟩
  · subst e
    refine ⟨fun _ => ⟨fun z => absurd z (by omega), fun _ => y_tk r0 (by omega) h28 (fun m1 r1 => ⟨fun z => absurd z (by omega), fun _ => y_tk r1 (by omega) (by omega) (fun m2 r2 => ?_)⟩)⟩, fun z => absurd (by omega) z⟩
    have e1 : fF σ 28 - 1 - 1 = fF σ 28 - 2 := by omega
    have e2 : fF σ 28 - 2 + 1 = fF σ 28 - 1 := by omega
    rw [e2] at k2
    rw [e1] at r2 ⊢
    exact k2 m2 r2
  · subst e
    refine ⟨fun z => absurd z (by omega), fun _ => y_tk r0 (by omega) h28 (fun m0 r0 => ⟨fun z => absurd z (by omega), fun _ => y_tk r0 (by omega) (by omega) (fun m1 r1 => ⟨fun z => absurd z (by omega), fun _ => y_tk r1 (by omega) (by omega) (fun m2 r2 => ?_)⟩)⟩)⟩
    have e0 : fF σ 28 - 1 - 1 - 1 = fF σ 28 - 3 := by omega
    have e1 : fF σ 28 - 1 - 1 = fF σ 28 - 3 + 1 := by omega
    have e2 : fF σ 28 - 3 + 2 = fF σ 28 - 1 := by omega
    rw [e2] at k2
    rw [e0] at r2 ⊢
    rw [e1]
    exact k2 m2 r2
theorem RJ.qt {m : Mm} {A : Nat → Nat} {σ τ : Sg} {x a : Nat} {B : Nat → Nat} (r : RJ m A σ x a B τ) : RJ (sI m 8 4 (A (100 + fF σ 25)) 1) A (uF σ 36 1) x a B τ := by
  obtain ⟨⟨h1, h2, h3, h4, h5, h6, h7, h8, h9, h10⟩, ⟨x1, x2, x3, x4, x5, x6, x7⟩, kf, hm, hj⟩ := r
  refine ⟨⟨h1, h2, h3, h4, h5, h6, h7, h8, h9, fun j hj1 hj2 => ?_⟩, ⟨x1, x2, x3, x4, x5, ⟨?_, x6.2⟩, x7⟩, kf, hm.oI (by decide) _ _ _, hj⟩
  · have q := h10 j hj1 hj2
    have e : ¬ j = fF σ 25 := hj2
    have ne : (A (100 + j) = A (100 + fF σ 25)) = False := by rw [h2.e100 hj1 hj]; exact eq_false e
    refine ⟨?_, q.2⟩
    have := q.1
    simp (disch := omega) only [forall_eq, tg_sI, gI_sI, gR_sI, aI_sI, aR_sI, ln_sI, tg_sR, gI_sR, gR_sR, aI_sR, aR_sR, ln_sR, tg_wI, gI_wI, gR_wI, aI_wI, aR_wI, ln_wI, tg_wR, gI_wR, gR_wR, aI_wR, aR_wR, ln_wR, tg_wC, gI_wC, gR_wC, aI_wC, aR_wC, ln_wC, tg_nO, gI_nO, gR_nO, aI_nO, aR_nO, ln_nO, tg_nA, gI_nA, gR_nA, aI_nA, aR_nA, ln_nA, Nat.reduceEqDiff, reduceCtorEq, false_and, true_and, and_true, and_false, and_self, if_true, if_false, ↓reduceIte, forall_const, true_implies, imp_self, not_true, not_false_eq_true, implies_true, not_false, eq_self, Nat.reduceLT, Nat.reduceLeDiff, fF_uF, fN_uF, fD_uF, fM_uF, fF_uN, fN_uN, fD_uN, fM_uN, fF_uD, fN_uD, fD_uD, fM_uD, fF_uM, fN_uM, fD_uM, fM_uM, ne]
    exact this
  · show gI (sI m 8 4 (A (100 + fF σ 25)) 1) 8 4 (A (100 + fF σ 25)) = nI 1
    simp (disch := omega) only [forall_eq, tg_sI, gI_sI, gR_sI, aI_sI, aR_sI, ln_sI, tg_sR, gI_sR, gR_sR, aI_sR, aR_sR, ln_sR, tg_wI, gI_wI, gR_wI, aI_wI, aR_wI, ln_wI, tg_wR, gI_wR, gR_wR, aI_wR, aR_wR, ln_wR, tg_wC, gI_wC, gR_wC, aI_wC, aR_wC, ln_wC, tg_nO, gI_nO, gR_nO, aI_nO, aR_nO, ln_nO, tg_nA, gI_nA, gR_nA, aI_nA, aR_nA, ln_nA, Nat.reduceEqDiff, reduceCtorEq, false_and, true_and, and_true, and_false, and_self, if_true, if_false, ↓reduceIte, forall_const, true_implies, imp_self, not_true, not_false_eq_true, implies_true, not_false, eq_self, Nat.reduceLT, Nat.reduceLeDiff, fF_uF, fN_uF, fD_uF, fM_uF, fF_uN, fN_uN, fD_uN, fM_uN, fF_uD, fN_uD, fD_uD, fM_uD, fF_uM, fN_uM, fD_uM, fM_uM]
    rfl

theorem y_106 {m : Mm} {A : Nat → Nat} {σ τ : Sg} {a : Nat} {B : Nat → Nat} (r : RJ m A σ (fF σ 26 + 1) a B τ) (hg : GI σ) (h0 : fF σ 35 = 0) (hat : fF σ 26 < siz σ) (hd : dn (sgn σ) (fF σ 26) = true) (hb : bl σ (fF σ 32) = opn (sgn σ) (fF σ 26)) {s : Int32} (hsg : s = sgn σ (fF σ 26)) (hk : Kn s) {v1 v2 v3 : Int32} {P : Int32 → Mm → Prop} (k : ∀ m', RJ m' A (doS σ s v1 v2 v3) (fF (doS σ s v1 v2 v3) 26 + 1) a B τ → P (nI (fF (doS σ s v1 v2 v3) 35)) m') : wp_Machine_doSign_106 P m (A 2) (A (100 + fF σ 25)) s (nI (fF σ 26)) v3 v2 v1 := by
  obtain ⟨hI, hT, hJ⟩ := hg
  have h28 := hJ.2.2.2.1
  have h31 := hJ.2.2.2.2.1
  have T2 := r.1.1.T2
  have T6 := r.1.1.T6
  have T9 := r.1.1.T9
  have T13 := r.1.1.T13
  have R1 := r.1.1.R2_1
  have R2 := r.1.1.R2_2
  have R4 := r.1.1.R2_4
  have T8 := (r.1.2.1.2.2.1 _ r.2.2.2.2).2.1
  unfold wp_Machine_doSign_106
  exact ⟨fun e => by subst e; rw [doS_68] at k; exact ⟨T2, fun u eu => by rw [R1] at eu; subst eu; exact ⟨T6, y_def r h0 (fun m' r' => k m' (by rw [(kb_def σ v1 v2 v3).1]; exact r'))⟩⟩,
  fun e68 => ⟨fun e => by subst e; rw [doS_82] at k; exact ⟨T2, fun u eu => by rw [R1] at eu; subst eu; exact ⟨T6, y_res r hI h28 h0 (fun m' r' => k m' (by rw [(kb_res σ v1 v2).1]; exact r'))⟩⟩,
  fun e82 => ⟨fun e => by subst e; rw [doS_99] at k; exact ⟨T2, by unfold wp_Machine_doFileSign wp_Machine_doFileSign_0; exact ⟨fun _ => ⟨T2, fun u eu => by rw [R2] at eu; subst eu; exact ⟨T9, y_clo r hI hT h0 (fun m' r' => k m' (by rw [(kb_clo σ v1).1]; exact r'))⟩⟩, fun z => absurd rfl z⟩⟩,
  fun e99 => ⟨fun e => by subst e; rw [doS_102] at k; exact ⟨T2, by unfold wp_Machine_doFileSign wp_Machine_doFileSign_0; exact ⟨fun z => absurd z (by decide), fun _ => ⟨fun _ => ⟨T2, fun u eu => by rw [R2] at eu; subst eu; exact ⟨T9, y_fl r hI h0 (fun m' r' => k m' (by rw [(kb_fl σ v1 v2).1]; exact r'))⟩⟩, fun z => absurd rfl z⟩⟩⟩,
  fun e102 => ⟨fun e => by subst e; rw [doS_103] at k; exact ⟨T2, y_req r hI h0 (fun m' r' => k m' (by rw [(kb_set σ v1 v2).1]; exact r'))⟩,
  fun e103 => ⟨fun e => by subst e; rw [doS_109] at k; exact ⟨T2, fun u eu => by subst eu; intro u eu; subst eu; intro u eu; subst eu; refine ⟨T2, fun m2 e2 => ?_⟩; subst e2; rw [r.2.1.2.2.1]; have e0 : fF (uM σ (31 * fM σ + v1)) 35 = 0 := h0; rw [e0] at k; refine k _ ⟨r.1, ⟨r.2.1.1, r.2.1.2.1, ?_, r.2.1.2.2.2⟩, r.2.2.1, r.2.2.2.1.oI (by decide) _ _ _, r.2.2.2.2⟩; simp (disch := omega) only [forall_eq, tg_sI, gI_sI, gR_sI, aI_sI, aR_sI, ln_sI, tg_sR, gI_sR, gR_sR, aI_sR, aR_sR, ln_sR, tg_wI, gI_wI, gR_wI, aI_wI, aR_wI, ln_wI, tg_wR, gI_wR, gR_wR, aI_wR, aR_wR, ln_wR, tg_wC, gI_wC, gR_wC, aI_wC, aR_wC, ln_wC, tg_nO, gI_nO, gR_nO, aI_nO, aR_nO, ln_nO, tg_nA, gI_nA, gR_nA, aI_nA, aR_nA, ln_nA, Nat.reduceEqDiff, reduceCtorEq, false_and, true_and, and_true, and_false, and_self, if_true, if_false, ↓reduceIte, forall_const, true_implies, imp_self, not_true, not_false_eq_true, implies_true, not_false, eq_self, Nat.reduceLT, Nat.reduceLeDiff, fF_uF, fN_uF, fD_uF, fM_uF, fF_uN, fN_uN, fD_uN, fM_uN, fF_uD, fN_uD, fD_uD, fM_uD, fF_uM, fN_uM, fD_uM, fM_uM]⟩,
  fun e109 => ⟨fun e => by subst e; rw [doS_111] at k; exact ⟨T2, by unfold wp_Machine_doFileSign wp_Machine_doFileSign_0; exact ⟨fun z => absurd z (by decide), fun _ => ⟨fun z => absurd z (by decide), fun _ => ⟨fun _ => ⟨T2, fun u eu => by rw [R2] at eu; subst eu; exact ⟨T9, y_opn r hI h28 h0 (fun m' r' => k m' (by rw [(kb_opn σ v1 v2).1]; exact r'))⟩⟩, fun z => absurd rfl z⟩⟩⟩⟩,
  fun e111 => ⟨fun e => by subst e; rw [doS_113] at k; exact ⟨T8, fun m2 e2 => by subst e2; have e0 : fF (uF σ 36 1) 35 = 0 := h0; rw [e0] at k; exact k _ r.qt⟩,
  fun e113 => ⟨fun e => by subst e; rw [doS_114] at k; exact ⟨T2, by unfold wp_Machine_doFileSign wp_Machine_doFileSign_0; exact ⟨fun z => absurd z (by decide), fun _ => ⟨fun z => absurd z (by decide), fun _ => ⟨fun z => absurd z (by decide), fun _ => ⟨fun z => absurd z (by decide), fun _ => ⟨T2, fun u eu => by rw [R2] at eu; subst eu; exact ⟨T9, y_rd r hI h28 h0 (fun m' r' => k m' (by rw [(kb_rd σ v1).1]; exact r'))⟩⟩⟩⟩⟩⟩⟩,
  fun e114 => ⟨fun e => by subst e; rw [doS_115] at k; exact ⟨T2, y_show r hI h31 h0 (fun m' r' => k m' (by rw [(kb_show σ).1]; exact r'))⟩,
  fun e115 => ⟨fun e => by subst e; rw [doS_119] at k; exact ⟨T2, by unfold wp_Machine_doFileSign wp_Machine_doFileSign_0; exact ⟨fun z => absurd z (by decide), fun _ => ⟨fun z => absurd z (by decide), fun _ => ⟨fun z => absurd z (by decide), fun _ => ⟨fun _ => ⟨T2, fun u eu => by rw [R2] at eu; subst eu; exact ⟨T9, y_wr r hI h0 (fun m' r' => k m' (by rw [(kb_wr σ v1 v2).1]; exact r'))⟩⟩, fun z => absurd rfl z⟩⟩⟩⟩⟩,
  fun e119 => ⟨fun e => by subst e; rw [doS_123] at k; exact ⟨T2, y_begin r hI hJ h0 rfl hat hd hsg.symm k⟩,
  fun e123 => ⟨fun e => by subst e; rw [doS_125] at k; exact ⟨T2, y_end r hI hJ h0 rfl hat hd hsg.symm hb k⟩,
  fun e125 => (by
    rcases hk with e | e | e | e | e | e | e | e | e | e | e | e | e | e | e | e | e | e | e | e
    · subst e; rw [doS_42] at k; exact ⟨T2, by unfold wp_Machine_doStackSign wp_Machine_doStackSign_0; exact ⟨fun _ => ⟨T2, fun u eu => by rw [R4] at eu; subst eu; exact fun u eu => by subst eu; exact ⟨T13, y_lay r h28 h0 (fun m' r' => k m' (by rw [(kb_lay σ _).1]; exact r'))⟩⟩, fun z => absurd rfl z⟩⟩
    · subst e; rw [doS_43] at k; exact ⟨T2, by unfold wp_Machine_doStackSign wp_Machine_doStackSign_0; exact ⟨fun z => absurd z (by decide), fun _ => ⟨fun _ => ⟨T2, fun u eu => by rw [R4] at eu; subst eu; exact fun u eu => by subst eu; exact ⟨T13, y_lay r h28 h0 (fun m' r' => k m' (by rw [(kb_lay σ _).1]; exact r'))⟩⟩, fun z => absurd rfl z⟩⟩⟩
    · subst e; rw [doS_45] at k; exact ⟨T2, by unfold wp_Machine_doStackSign wp_Machine_doStackSign_0; exact ⟨fun z => absurd z (by decide), fun _ => ⟨fun z => absurd z (by decide), fun _ => ⟨fun _ => ⟨T2, fun u eu => by rw [R4] at eu; subst eu; exact fun u eu => by subst eu; exact ⟨T13, y_lay r h28 h0 (fun m' r' => k m' (by rw [(kb_lay σ _).1]; exact r'))⟩⟩, fun z => absurd rfl z⟩⟩⟩⟩
    · exact absurd e e68
    · exact absurd e e82
    · exact absurd e e99
    · subst e; rw [doS_100] at k; exact ⟨T2, by unfold wp_Machine_doStackSign wp_Machine_doStackSign_0; exact ⟨fun z => absurd z (by decide), fun _ => ⟨fun z => absurd z (by decide), fun _ => ⟨fun z => absurd z (by decide), fun _ => ⟨fun _ => ⟨T2, fun u eu => by rw [R4] at eu; subst eu; exact ⟨T13, y_lay2 r h28 h0 (fun m' r' => k m' (by rw [(kb_lay2 σ _ _).1]; exact r'))⟩⟩, fun z => absurd rfl z⟩⟩⟩⟩⟩
    · exact absurd e e102
    · exact absurd e e103
    · exact absurd e e109
    · exact absurd e e111
    · subst e; rw [doS_112] at k; exact ⟨T2, by unfold wp_Machine_doStackSign wp_Machine_doStackSign_0; exact ⟨fun z => absurd z (by decide), fun _ => ⟨fun z => absurd z (by decide), fun _ => ⟨fun z => absurd z (by decide), fun _ => ⟨fun z => absurd z (by decide), fun _ => ⟨fun z => absurd z (by decide), fun _ => ⟨fun z => absurd z (by decide), fun _ => (by have := k m r; rw [h0] at this; exact this)⟩⟩⟩⟩⟩⟩⟩
    · exact absurd e e113
    · exact absurd e e114
    · exact absurd e e115
    · subst e; rw [doS_116] at k; exact ⟨T2, by unfold wp_Machine_doStackSign wp_Machine_doStackSign_0; exact ⟨fun z => absurd z (by decide), fun _ => ⟨fun z => absurd z (by decide), fun _ => ⟨fun z => absurd z (by decide), fun _ => ⟨fun z => absurd z (by decide), fun _ => ⟨fun _ => ⟨T2, fun u eu => by rw [R4] at eu; subst eu; exact fun u eu => by subst eu; exact ⟨T13, y_lay r h28 h0 (fun m' r' => k m' (by rw [(kb_lay σ _).1]; exact r'))⟩⟩, fun z => absurd rfl z⟩⟩⟩⟩⟩⟩
    · exact absurd e e119
    · subst e; rw [doS_120] at k; exact ⟨T2, by unfold wp_Machine_doStackSign wp_Machine_doStackSign_0; exact ⟨fun z => absurd z (by decide), fun _ => ⟨fun z => absurd z (by decide), fun _ => ⟨fun z => absurd z (by decide), fun _ => ⟨fun z => absurd z (by decide), fun _ => ⟨fun z => absurd z (by decide), fun _ => ⟨fun _ => ⟨T2, fun u eu => by rw [R4] at eu; subst eu; exact ⟨T13, y_lay2 r h28 h0 (fun m' r' => k m' (by rw [(kb_lay2 σ _ _).1]; exact r'))⟩⟩, fun z => absurd rfl z⟩⟩⟩⟩⟩⟩⟩
    · exact absurd e e123
    · exact absurd e e125
    )⟩⟩⟩⟩⟩⟩⟩⟩⟩⟩⟩⟩⟩

theorem wn_un {s : Int32} (e42 : ¬ s = 42) (e43 : ¬ s = 43) (e45 : ¬ s = 45) (e68 : ¬ s = 68) (e82 : ¬ s = 82) (e99 : ¬ s = 99) (e100 : ¬ s = 100) (e102 : ¬ s = 102) (e103 : ¬ s = 103) (e109 : ¬ s = 109) (e111 : ¬ s = 111) (e112 : ¬ s = 112) (e113 : ¬ s = 113) (e114 : ¬ s = 114) (e115 : ¬ s = 115) (e116 : ¬ s = 116) (e119 : ¬ s = 119) (e120 : ¬ s = 120) (e123 : ¬ s = 123) (e125 : ¬ s = 125) : wn s = 0 := by
  unfold wn
  rw [if_neg, if_neg, if_neg]
  · rintro (h | h | h | h | h | h | h) <;> contradiction
  · assumption
  · rintro (h | h | h | h | h | h | h | h | h) <;> contradiction
theorem wn_dg0 {s : Int32} (h : 48 ≤ s ∧ s ≤ 57) : wn s = 0 := by
  have ne : ∀ t : Int32, (t < 48 ∨ 57 < t) → ¬ s = t := fun t ht e => by
    subst e
    obtain ⟨h1, h2⟩ := h
    simp only [Int32.le_iff_toInt_le, Int32.lt_iff_toInt_lt] at *
    omega
  exact wn_un (ne 42 (by decide)) (ne 43 (by decide)) (ne 45 (by decide)) (ne 68 (by decide)) (ne 82 (by decide)) (ne 99 (by decide)) (ne 100 (by decide)) (ne 102 (by decide)) (ne 103 (by decide)) (ne 109 (by decide)) (ne 111 (by decide)) (ne 112 (by decide)) (ne 113 (by decide)) (ne 114 (by decide)) (ne 115 (by decide)) (ne 116 (by decide)) (ne 119 (by decide)) (ne 120 (by decide)) (ne 123 (by decide)) (ne 125 (by decide))

theorem y_24 {m : Mm} {A : Nat → Nat} {σ τ : Sg} {a : Nat} {B : Nat → Nat} (r : RJ m A σ (fF σ 26 + 1) a B τ) (hg : GI σ) (h0 : fF σ 35 = 0) (hat : fF σ 26 < siz σ) (hd : dn (sgn σ) (fF σ 26) = true) (hb : bl σ (fF σ 32) = opn (sgn σ) (fF σ 26)) {s : Int32} (hsg : s = sgn σ (fF σ 26)) (hdg : ¬ (48 ≤ s ∧ s ≤ 57)) {P : Int32 → Mm → Prop} (k : ∀ m', RJ m' A (actS σ s) (fF (actS σ s) 26 + 1) a B τ → P (nI (fF (actS σ s) 35)) m') : wp_Machine_doSign_24 P m (A 2) (A (100 + fF σ 25)) s (nI (fF σ 26)) := by
  have h28 := hg.2.2.2.2.2.1
  have br : ∀ w : Nat, wn s = w → w ≤ 3 → Kn s → s = sgn σ (fF σ 26) → dsB P m (A 2) (A (100 + fF σ 25)) s (nI (fF σ 26)) (nI w) := fun w hw hw3 hk hsg => by
    unfold actS at k
    rw [hw] at k
    refine y_pre r h28 hw3 (fun q => ?_) (fun q m' r' => ?_)
    · rw [if_pos q] at k
      exact k m r
    · rw [if_neg (by omega)] at k
      refine y_106 (σ := uF σ 28 (fF σ 28 - w)) r' ⟨hg.1, hg.2.1, ?_⟩ h0 hat hd ((bl_uF _ _ _ _).trans hb) hsg hk k
      obtain ⟨j1, j2, j3, j4, j5⟩ := hg.2.2
      exact ⟨j1, j2, j3, show fF σ 28 - w ≤ 20 by omega, j5⟩
  unfold wp_Machine_doSign_24 wp_Machine_numbersWanted wp_Machine_numbersWanted_0
  exact ⟨fun e => by subst e; exact br 2 (by decide) (by decide) (by unfold Kn; decide) hsg,
  fun e42 => ⟨fun e => by subst e; exact br 2 (by decide) (by decide) (by unfold Kn; decide) hsg,
  fun e43 => ⟨fun e => by subst e; exact br 2 (by decide) (by decide) (by unfold Kn; decide) hsg,
  fun e45 => ⟨fun e => by subst e; exact br 3 (by decide) (by decide) (by unfold Kn; decide) hsg,
  fun e68 => ⟨fun e => by subst e; exact br 2 (by decide) (by decide) (by unfold Kn; decide) hsg,
  fun e82 => ⟨fun e => by subst e; exact br 1 (by decide) (by decide) (by unfold Kn; decide) hsg,
  fun e99 => ⟨fun e => by subst e; exact br 1 (by decide) (by decide) (by unfold Kn; decide) hsg,
  fun e100 => ⟨fun e => by subst e; exact br 2 (by decide) (by decide) (by unfold Kn; decide) hsg,
  fun e102 => ⟨fun e => by subst e; exact br 2 (by decide) (by decide) (by unfold Kn; decide) hsg,
  fun e103 => ⟨fun e => by subst e; exact br 1 (by decide) (by decide) (by unfold Kn; decide) hsg,
  fun e109 => ⟨fun e => by subst e; exact br 2 (by decide) (by decide) (by unfold Kn; decide) hsg,
  fun e111 => ⟨fun e => by subst e; exact br 1 (by decide) (by decide) (by unfold Kn; decide) hsg,
  fun e112 => ⟨fun e => by subst e; exact br 0 (by decide) (by decide) (by unfold Kn; decide) hsg,
  fun e113 => ⟨fun e => by subst e; exact br 1 (by decide) (by decide) (by unfold Kn; decide) hsg,
  fun e114 => ⟨fun e => by subst e; exact br 0 (by decide) (by decide) (by unfold Kn; decide) hsg,
  fun e115 => ⟨fun e => by subst e; exact br 1 (by decide) (by decide) (by unfold Kn; decide) hsg,
  fun e116 => ⟨fun e => by subst e; exact br 2 (by decide) (by decide) (by unfold Kn; decide) hsg,
  fun e119 => ⟨fun e => by subst e; exact br 2 (by decide) (by decide) (by unfold Kn; decide) hsg,
  fun e120 => ⟨fun e => by subst e; exact br 1 (by decide) (by decide) (by unfold Kn; decide) hsg,
  fun e123 => ⟨fun e => by subst e; exact br 0 (by decide) (by decide) (by unfold Kn; decide) hsg,
  fun e125 => (by
    refine ⟨fun _ => ?_, fun z => absurd rfl z⟩
    have e : actS σ s = er (uF σ 28 (fF σ 28 - wn s)) 1 := by
      unfold actS
      rw [if_neg (by rw [wn_un e42 e43 e45 e68 e82 e99 e100 e102 e103 e109 e111 e112 e113 e114 e115 e116 e119 e120 e123 e125]; omega), doS_no hdg e116 e43 e45 e42 e100 e120 e112 e109 e115 e103 e82 e68 e111 e99 e119 e114 e102 e123 e125 e113]
    rw [e, wn_un e42 e43 e45 e68 e82 e99 e100 e102 e103 e109 e111 e112 e113 e114 e115 e116 e119 e120 e123 e125] at k
    exact k m r)⟩⟩⟩⟩⟩⟩⟩⟩⟩⟩⟩⟩⟩⟩⟩⟩⟩⟩⟩⟩
theorem y_do {m : Mm} {A : Nat → Nat} {σ τ : Sg} {a : Nat} {B : Nat → Nat} (r : RJ m A σ (fF σ 26 + 1) a B τ) (hg : GI σ) (h0 : fF σ 35 = 0) (hat : fF σ 26 < siz σ) (hd : dn (sgn σ) (fF σ 26) = true) (hb : bl σ (fF σ 32) = opn (sgn σ) (fF σ 26)) {s : Int32} (hsg : s = sgn σ (fF σ 26)) {P : Int32 → Mm → Prop} (k : ∀ m', RJ m' A (actS σ s) (fF (actS σ s) 26 + 1) a B τ → P (nI (fF (actS σ s) 35)) m') : wp_Machine_doSign m (A 2) (A (100 + fF σ 25)) s (nI (fF σ 26)) P := by
  have h28 := hg.2.2.2.2.2.1
  unfold wp_Machine_doSign wp_Machine_doSign_0
  refine ⟨fun q => y_24 r hg h0 hat hd hb hsg (fun z => ?_) k, fun q => ⟨fun q1 => y_24 r hg h0 hat hd hb hsg (fun z => ?_) k, fun q1 => ⟨r.1.1.T2, fun u eu => ?_⟩⟩⟩
  · have := z.1; simp only [Int32.le_iff_toInt_le, Int32.lt_iff_toInt_lt] at *; omega
  · have := z.2; simp only [Int32.le_iff_toInt_le, Int32.lt_iff_toInt_lt] at *; omega
  · rw [r.1.1.R2_4] at eu
    subst eu
    intro u eu
    subst eu
    have dg : 48 ≤ s ∧ s ≤ 57 := ⟨lt_no q, lt_no q1⟩
    have e : actS σ s = layS σ (s - 48) := by
      have hw := wn_dg0 dg
      unfold actS
      rw [if_neg (by rw [hw]; omega), doS_dig dg, hw, Nat.sub_zero, uF_self]
    rw [e] at k
    exact ⟨r.1.1.T13, y_lay r h28 h0 (fun m' r' => k m' (by rw [(kb_lay σ _).1]; exact r'))⟩
