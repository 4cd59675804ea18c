/-! THE LAW'S LOOP: after each call both hold the same state -/
theorem zc_RC0 {A : Nat → Nat} {σ : Sg} : Zc (fun m => RC0 m A σ) := by
  refine ⟨fun m i x v h => h, fun m k x i v hk h => ?_⟩
  have e : ∀ K y j, K < 28 → aI (wI m k x i v) K y j = aI m K y j := fun K y j hK => by rw [aI_wI, if_neg (fun q => by omega)]
  obtain ⟨h1, h2, h3, h4, h5, h6, h7, h8, h9, h10⟩ := h
  refine ⟨h1, h2, h3, fun t ht => ?_, fun t ht => ?_, ⟨fun n hn => ⟨(h6.1 n hn).1, (h6.1 n hn).2.1, fun t ht => ?_⟩, h6.2.1, fun t ht => ?_⟩, fun n a b => ⟨(h7 n a b).1, (h7 n a b).2.1, fun t ht => ?_⟩, h8, fun j hj => ⟨(h9 j hj).1, fun t ht => ?_⟩, fun j hj hc => ?_⟩
  · rw [e _ _ _ (by decide)]; exact h4 t ht
  · rw [e _ _ _ (by decide)]; exact h5 t ht
  · rw [e _ _ _ (by decide)]; exact (h6.1 n hn).2.2 t ht
  · rw [e _ _ _ (by decide)]; exact h6.2.2 t ht
  · rw [e _ _ _ (by decide)]; exact (h7 n a b).2.2 t ht
  · rw [e _ _ _ (by decide)]; exact (h9 j hj).2 t ht
  · obtain ⟨g1, g2, g3, g4, g5, g6, g7⟩ := h10 j hj hc
    refine ⟨g1, g2, g3, g4, g5, g6, fun t ht => ?_⟩
    rw [e _ _ _ (by decide)]; exact g7 t ht
/-- what holds between two calls -/
def LI (σ : Sg) : Prop := RI σ ∧ UT σ ∧ FJ σ
theorem LI.of {σ τ : Sg} (h : LI σ) (hI : Inv τ) (hT : Th τ) (h2 : fF τ 2 = fF σ 2) (h4 : ∀ j, fN τ 4 j = fN σ 4 j) (h5 : ∀ j, fN τ 5 j = fN σ 5 j) (h33 : ∀ j, fN τ 33 j = fN σ 33 j) : LI τ := by
  refine ⟨⟨hI, hT, fun i => ?_⟩, fun j hj i hi => ?_, fun j hj => ?_⟩
  · rw [h33]; exact h.1.2.2 i
  · rw [h5] at hj ⊢; exact h.2.1 j hj i hi
  · rw [h2] at hj; rw [h4, h5]; exact h.2.2 j hj
theorem spEnded_LI {σ : Sg} (h : LI σ) (v : Int32) (u : Int32) : LI (spEnded σ v u).2 := by
  have hI : Inv (spEnded σ v u).2 := by unfold spEnded; (repeat' split) <;> exact h.1.1
  have hT : Th (spEnded σ v u).2 := by unfold spEnded; (repeat' split) <;> exact h.1.2.1
  exact h.of hI hT (by unfold spEnded; (repeat' split) <;> rfl) (fun _ => by unfold spEnded; (repeat' split) <;> rfl) (fun _ => by unfold spEnded; (repeat' split) <;> rfl) (fun _ => by unfold spEnded; (repeat' split) <;> rfl)
theorem spPage_LI {σ : Sg} (h : LI σ) (v : Int32) (u : Int32) : LI (spPage σ v u).2 := by
  have hI : Inv (spPage σ v u).2 := by unfold spPage; (repeat' split) <;> exact h.1.1
  have hT : Th (spPage σ v u).2 := by unfold spPage; (repeat' split) <;> exact h.1.2.1
  exact h.of hI hT (by unfold spPage; (repeat' split) <;> rfl) (fun _ => by unfold spPage; (repeat' split) <;> rfl) (fun _ => by unfold spPage; (repeat' split) <;> rfl) (fun _ => by unfold spPage; (repeat' split) <;> rfl)
theorem spDevice_LI {σ : Sg} (h : LI σ) (v : Int32) (u : Int32) : LI (spDevice σ v u).2 := by
  have hI : Inv (spDevice σ v u).2 := spDevice_Inv h.1.1 v u
  have hT : Th (spDevice σ v u).2 := by unfold spDevice; (repeat' split) <;> exact h.1.2.1
  exact h.of hI hT (by unfold spDevice; (repeat' split) <;> rfl) (fun _ => by unfold spDevice; (repeat' split) <;> rfl) (fun _ => by unfold spDevice; (repeat' split) <;> rfl) (fun _ => by unfold spDevice; (repeat' split) <;> rfl)
theorem spDefine_LI {σ : Sg} (h : LI σ) (v : Int32) (u : Int32) (x : Int32) : LI (spDefine σ v u x).2 := by
  have hI : Inv (spDefine σ v u x).2 := spDefine_Inv h.1.1 v u x
  have hT : Th (spDefine σ v u x).2 := by unfold spDefine; (repeat' split) <;> exact h.1.2.1
  exact h.of hI hT (by unfold spDefine; (repeat' split) <;> rfl) (fun _ => by unfold spDefine; (repeat' split) <;> rfl) (fun _ => by unfold spDefine; (repeat' split) <;> rfl) (fun _ => by unfold spDefine; (repeat' split) <;> rfl)
theorem spResource_LI {σ : Sg} (h : LI σ) (v : Int32) (u : Int32) : LI (spResource σ v u).2 := by
  have hI : Inv (spResource σ v u).2 := by unfold spResource; (repeat' split) <;> exact h.1.1
  have hT : Th (spResource σ v u).2 := by unfold spResource; (repeat' split) <;> exact h.1.2.1
  exact h.of hI hT (by unfold spResource; (repeat' split) <;> rfl) (fun _ => by unfold spResource; (repeat' split) <;> rfl) (fun _ => by unfold spResource; (repeat' split) <;> rfl) (fun _ => by unfold spResource; (repeat' split) <;> rfl)
theorem spOpened_LI {σ : Sg} (h : LI σ) (v : Int32) (u : Int32) : LI (spOpened σ v u).2 := by
  have hI : Inv (spOpened σ v u).2 := spOpened_Inv h.1.1 v u
  have hT : Th (spOpened σ v u).2 := by exact spOpened_Th h.1.2.1 v u
  exact h.of hI hT (by unfold spOpened; (repeat' split) <;> rfl) (fun _ => by unfold spOpened; (repeat' split) <;> rfl) (fun _ => by unfold spOpened; (repeat' split) <;> rfl) (fun _ => by unfold spOpened; (repeat' split) <;> rfl)
theorem spWritten_LI {σ : Sg} (h : LI σ) (v : Int32) (u : Int32) : LI (spWritten σ v u).2 := by
  have hI : Inv (spWritten σ v u).2 := spWritten_Inv h.1.1 h.1.2.1 v u
  have hT : Th (spWritten σ v u).2 := by unfold spWritten; (repeat' split) <;> exact h.1.2.1
  exact h.of hI hT (by unfold spWritten; (repeat' split) <;> rfl) (fun _ => by unfold spWritten; (repeat' split) <;> rfl) (fun _ => by unfold spWritten; (repeat' split) <;> rfl) (fun _ => by unfold spWritten; (repeat' split) <;> rfl)
theorem spTaken_LI {σ : Sg} (h : LI σ) (v : Int32) : LI (spTaken σ v).2 := by
  have hI : Inv (spTaken σ v).2 := spTaken_Inv h.1.1 v
  have hT : Th (spTaken σ v).2 := by unfold spTaken; (repeat' split) <;> exact h.1.2.1
  exact h.of hI hT (by unfold spTaken; (repeat' split) <;> rfl) (fun _ => by unfold spTaken; (repeat' split) <;> rfl) (fun _ => by unfold spTaken; (repeat' split) <;> rfl) (fun _ => by unfold spTaken; (repeat' split) <;> rfl)
theorem spFiltered_LI {σ : Sg} (h : LI σ) (v : Int32) (u : Int32) : LI (spFiltered σ v u).2 := by
  have hI : Inv (spFiltered σ v u).2 := spFiltered_Inv h.1.1 v u
  have hT : Th (spFiltered σ v u).2 := by unfold spFiltered; (repeat' split) <;> exact h.1.2.1
  exact h.of hI hT (by unfold spFiltered; (repeat' split) <;> rfl) (fun _ => by unfold spFiltered; (repeat' split) <;> rfl) (fun _ => by unfold spFiltered; (repeat' split) <;> rfl) (fun _ => by unfold spFiltered; (repeat' split) <;> rfl)
theorem spClose_LI {σ : Sg} (h : LI σ) (v : Int32) : LI (spClose σ v).2 := by
  have hI : Inv (spClose σ v).2 := spClose_Inv h.1.1 v
  have hT : Th (spClose σ v).2 := by exact spClose_Th h.1.2.1 v
  exact h.of hI hT (by unfold spClose; (repeat' split) <;> rfl) (fun _ => by unfold spClose; (repeat' split) <;> rfl) (fun _ => by unfold spClose; (repeat' split) <;> rfl) (fun _ => by unfold spClose; (repeat' split) <;> rfl)
theorem spOutput_LI {σ : Sg} (h : LI σ) (v : Int32) : LI (spOutput σ v).2 := by
  have hI : Inv (spOutput σ v).2 := by unfold spOutput; (repeat' split) <;> exact h.1.1
  have hT : Th (spOutput σ v).2 := by unfold spOutput; (repeat' split) <;> exact h.1.2.1
  exact h.of hI hT (by unfold spOutput; (repeat' split) <;> rfl) (fun _ => by unfold spOutput; (repeat' split) <;> rfl) (fun _ => by unfold spOutput; (repeat' split) <;> rfl) (fun _ => by unfold spOutput; (repeat' split) <;> rfl)
theorem spLies_LI {σ : Sg} (h : LI σ) (v : Int32) (u : Int32) : LI (spLies σ v u).2 := by
  have hI : Inv (spLies σ v u).2 := by unfold spLies; (repeat' split) <;> exact h.1.1
  have hT : Th (spLies σ v u).2 := by unfold spLies; (repeat' split) <;> exact h.1.2.1
  exact h.of hI hT (by unfold spLies; (repeat' split) <;> rfl) (fun _ => by unfold spLies; (repeat' split) <;> rfl) (fun _ => by unfold spLies; (repeat' split) <;> rfl) (fun _ => by unfold spLies; (repeat' split) <;> rfl)
theorem spStart_LI {σ : Sg} (h : LI σ) (v : Int32) (hv : v = 0 ∨ v = 1) : LI (spStart σ v).2 := h.of (spStart_Inv h.1.1 v hv) h.1.2.1 rfl (fun _ => rfl) (fun _ => rfl) (fun _ => rfl)
theorem spRun_LI {σ : Sg} (h : LI σ) (x : Nat) : LI (uF (spRun σ).2 26 x) := by
  have g : LI (spRun σ).2 := ⟨spRun_RI h.1, spRun_UT h.1 h.2.1, spRun_FJ h.1 h.2.2⟩
  exact g
theorem spJob_LI {σ : Sg} (h : LI σ) : LI (spJob σ).2 := by
  have hI := spJob_Inv h.1.1
  by_cases e : fF σ 2 = 20
  · rw [show spJob σ = (-4, σ) from if_pos e]; exact h
  · rw [show spJob σ = (nI (fF σ 2), uF σ 2 (fF σ 2 + 1)) from if_neg e] at hI ⊢
    exact ⟨⟨hI, h.1.2.1, h.1.2.2⟩, h.2.1, fun j hj => h.2.2 j (by have hj' : fF σ 2 + 1 ≤ j := hj; omega)⟩
theorem jx_lt {σ : Sg} {v : Int32} {j : Nat} (h : jx σ v = some j) (hI : Inv σ) : j < fF σ 2 := by
  have := hI.jobs
  rcases pk_ix v (n := fF σ 2) (by omega) with q | q | ⟨i, hi, rfl⟩
  · rw [jx_none (Or.inl q)] at h; cases h
  · rw [jx_none (Or.inr q)] at h; cases h
  · rw [jx_some hI hi] at h; cases h; exact hi
theorem spAdd_LI {σ : Sg} (h : LI σ) (v b : Int32) : LI (spAdd σ v b).2 := by
  have hI := spAdd_Inv h.1.1 v b
  cases hj : jx σ v with
  | none => rw [show spAdd σ v b = (-1, σ) by unfold spAdd; rw [hj]]; exact h
  | some j =>
    have e0 : spAdd σ v b = if 0 < fN σ 5 (6 * j) then (-3, σ) else if fN σ 4 j = 200 then (-4, σ) else (nI (fN σ 4 j + 1), uN (uD σ 3 (200 * j + fN σ 4 j) b.toInt8.toInt32) 4 j (fN σ 4 j + 1)) := by unfold spAdd; rw [hj]
    rw [e0] at hI ⊢
    by_cases e1 : 0 < fN σ 5 (6 * j)
    · rw [if_pos e1]; exact h
    · rw [if_neg e1] at hI ⊢
      by_cases e2 : fN σ 4 j = 200
      · rw [if_pos e2]; exact h
      · rw [if_neg e2] at hI ⊢
        refine ⟨⟨hI, h.1.2.1, h.1.2.2⟩, h.2.1, fun i hi => ⟨?_, (h.2.2 i hi).2⟩⟩
        have hi' : fF σ 2 ≤ i := hi
        have hj2 : j < fF σ 2 := jx_lt hj h.1.1
        show (if 4 = 4 ∧ i = j then fN σ 4 j + 1 else fN σ 4 i) = 0
        rw [if_neg (fun q => by omega)]
        exact (h.2.2 i hi').1
theorem law_loop {L : Nat} {xs : Nat → Int32} (hL9 : L ≤ 2049) {P : Int32 → Mm → Prop} (hP : ∀ m, P 1 m) {a : Nat} {B : Nat → Nat} : ∀ (f p : Nat), 4 * f + p = 2053 → 1 ≤ f → ∀ (m : Mm) (A : Nat → Nat) (σ : Sg), RC0 m A σ → RM m a B σ → LI σ → wp_Law_law_30 L xs P f m (A 0) a (nI p) := by
  intro f
  induction f with
  | zero => intro p hf hf1; omega
  | succ n ih =>
    intro p hf hf1 m A σ h hm hL
    unfold wp_Law_law_30
    intro x1 e1 x3 e3
    subst e1
    subst e3
    have hc : nI L - 4 < nI p ↔ L < p + 4 := by
      rw [Int32.lt_iff_toInt_lt, show (4 : Int32) = nI 4 from rfl, pk_sub_toInt (by omega) (by omega), nI_toInt (by omega)]; omega
    rw [hc]
    refine ⟨fun _ => hP m, fun q => ?_⟩
    have hin : vp_in (nI p) L := vp_in_nI (by omega) (by omega)
    refine ⟨hin, fun x5 e5 x8 e8 => ?_⟩
    clear e5 e8
    have nx : ∀ (m2 : Mm) (A2 : Nat → Nat) (σ2 : Sg), A2 0 = A 0 → RC0 m2 A2 σ2 → RM m2 a B σ2 → LI σ2 → wp_Law_law_602 L xs (wp_Law_law_30 L xs P n) P m2 (A 0) a (nI p) := fun m2 A2 σ2 e h hm hL => by
      unfold wp_Law_law_602
      intro x ex
      subst ex
      rw [c_add4, ← e]
      exact ih (p + 4) (by omega) (by omega) m2 A2 σ2 h hm hL
    refine ⟨fun _ => ?_, fun _ => ?_⟩
    · refine ⟨h.1.T0, x_job h hL.1.1 hL.2.2 hL.2.1 hm (fun m1 A1 e1 h1 hm1 => ⟨hm1.1, w_job (RZ.of hm1 zc_RC0 h1) hL.1.1 (fun m2 h2 => ⟨fun _ => ?_, fun e => absurd rfl e⟩)⟩)⟩
      have hz := h2.2.2.2.2.2.2.2
      exact nx m2 A1 _ e1 hz (RZ.rm h2) (spJob_LI hL)
    refine ⟨fun _ => ?_, fun _ => ?_⟩
    · simp (disch := omega) only [forall_eq, c_add2, c_add3, c_add4, c_add5, nI_1, nI_add, nI_clamp, c_inT, true_and]
      refine ⟨h.1.T0, x_add h hL.1.1 hm (fun m1 h1 hm1 => ⟨hm1.1, w_add (RZ.of hm1 zc_RC0 h1) hL.1.1 (fun m2 h2 => ⟨fun _ => ?_, fun e => absurd rfl e⟩)⟩)⟩
      have hz := h2.2.2.2.2.2.2.2
      exact nx m2 A _ rfl hz (RZ.rm h2) (spAdd_LI hL _ _)
    refine ⟨fun _ => ?_, fun _ => ?_⟩
    · refine ⟨h.1.T0, x_run h hL.1 hL.2.1 hm (fun m1 h1 hm1 => ⟨hm1.1, w_run (RZ.of hm1 zc_RC0 h1) hL.1 (fun m2 h2 => ⟨fun _ => ?_, fun e => absurd rfl e⟩)⟩)⟩
      obtain ⟨y, h2⟩ := h2
      have hz := h2.2.2.2.2.2.2.2
      exact nx m2 A (uF (spRun σ).2 26 y) rfl hz (RZ.rm h2) (spRun_LI hL y)
    refine ⟨fun _ => ?_, fun _ => ?_⟩
    · simp (disch := omega) only [forall_eq, c_add2, c_add3, c_add4, c_add5, nI_1, nI_add, nI_clamp, c_inT, true_and]
      refine ⟨h.1.T0, x_ended h hL.1.1 hm (fun m1 h1 hm1 => ⟨hm1.1, w_ended (RZ.of hm1 zc_RC0 h1) hL.1.1 (fun m2 h2 => ⟨fun _ => ?_, fun e => absurd rfl e⟩)⟩)⟩
      have hz := h2.2.2.2.2.2.2.2
      exact nx m2 A _ rfl hz (RZ.rm h2) (spEnded_LI hL _ _)
    refine ⟨fun _ => ?_, fun _ => ?_⟩
    · simp (disch := omega) only [forall_eq, c_add2, c_add3, c_add4, c_add5, nI_1, nI_add, nI_clamp, c_inT, true_and]
      refine ⟨h.1.T0, x_page h hL.1.1 hm (fun m1 h1 hm1 => ⟨hm1.1, w_page (RZ.of hm1 zc_RC0 h1) hL.1.1 (fun m2 h2 => ⟨fun _ => ?_, fun e => absurd rfl e⟩)⟩)⟩
      have hz := h2.2.2.2.2.2.2.2
      exact nx m2 A _ rfl hz (RZ.rm h2) (spPage_LI hL _ _)
    refine ⟨fun _ => ?_, fun _ => ?_⟩
    · simp (disch := omega) only [forall_eq, c_add2, c_add3, c_add4, c_add5, nI_1, nI_add, nI_clamp, c_inT, true_and]
      refine ⟨h.1.T0, x_device h hL.1.1 hm (fun m1 h1 hm1 => ⟨hm1.1, w_device (RZ.of hm1 zc_RC0 h1) hL.1.1 (fun m2 h2 => ⟨fun _ => ?_, fun e => absurd rfl e⟩)⟩)⟩
      have hz := h2.2.2.2.2.2.2.2
      exact nx m2 A _ rfl hz (RZ.rm h2) (spDevice_LI hL _ _)
    refine ⟨fun _ => ?_, fun _ => ?_⟩
    · simp (disch := omega) only [forall_eq, c_add2, c_add3, c_add4, c_add5, nI_1, nI_add, nI_clamp, c_inT, true_and]
      refine ⟨h.1.T0, x_define h hL.1.1 hm (fun m1 h1 hm1 => ⟨hm1.1, w_define (RZ.of hm1 zc_RC0 h1) hL.1.1 (fun m2 h2 => ⟨fun _ => ?_, fun e => absurd rfl e⟩)⟩)⟩
      have hz := h2.2.2.2.2.2.2.2
      exact nx m2 A _ rfl hz (RZ.rm h2) (spDefine_LI hL _ _ _)
    refine ⟨fun _ => ?_, fun _ => ?_⟩
    · simp (disch := omega) only [forall_eq, c_add2, c_add3, c_add4, c_add5, nI_1, nI_add, nI_clamp, c_inT, true_and]
      refine ⟨h.1.T0, x_resource h hL.1.1 hm (fun m1 h1 hm1 => ⟨hm1.1, w_resource (RZ.of hm1 zc_RC0 h1) hL.1.1 (fun m2 h2 => ⟨fun _ => ?_, fun e => absurd rfl e⟩)⟩)⟩
      have hz := h2.2.2.2.2.2.2.2
      exact nx m2 A _ rfl hz (RZ.rm h2) (spResource_LI hL _ _)
    refine ⟨fun _ => ?_, fun _ => ?_⟩
    · simp (disch := omega) only [forall_eq, c_add2, c_add3, c_add4, c_add5, nI_1, nI_add, nI_clamp, c_inT, true_and]
      refine ⟨h.1.T0, x_file h hL.1.1 hm (fun m1 h1 hm1 => ⟨hm1.1, w_file (RZ.of hm1 zc_RC0 h1) hL.1.1 (fun m2 h2 => ⟨fun _ => ?_, fun e => absurd rfl e⟩)⟩)⟩
      have hz := h2.2.2.2.2.2.2.2
      exact nx m2 A _ rfl hz (RZ.rm h2) (spOpened_LI hL _ _)
    refine ⟨fun _ => ?_, fun _ => ?_⟩
    · simp (disch := omega) only [forall_eq, c_add2, c_add3, c_add4, c_add5, nI_1, nI_add, nI_clamp, c_inT, true_and]
      refine ⟨h.1.T0, x_write h hL.1.1 hm (fun m1 h1 hm1 => ⟨hm1.1, w_write (RZ.of hm1 zc_RC0 h1) hL.1.1 (fun m2 h2 => ⟨fun _ => ?_, fun e => absurd rfl e⟩)⟩)⟩
      have hz := h2.2.2.2.2.2.2.2
      exact nx m2 A _ rfl hz (RZ.rm h2) (spWritten_LI hL _ _)
    refine ⟨fun _ => ?_, fun _ => ?_⟩
    · simp (disch := omega) only [forall_eq, c_add2, c_add3, c_add4, c_add5, nI_1, nI_add, nI_clamp, c_inT, true_and]
      refine ⟨h.1.T0, x_read h hL.1.1 hm (fun m1 h1 hm1 => ⟨hm1.1, w_read (RZ.of hm1 zc_RC0 h1) hL.1.1 (fun m2 h2 => ⟨fun _ => ?_, fun e => absurd rfl e⟩)⟩)⟩
      have hz := h2.2.2.2.2.2.2.2
      exact nx m2 A _ rfl hz (RZ.rm h2) (spTaken_LI hL _)
    refine ⟨fun _ => ?_, fun _ => ?_⟩
    · simp (disch := omega) only [forall_eq, c_add2, c_add3, c_add4, c_add5, nI_1, nI_add, nI_clamp, c_inT, true_and]
      refine ⟨h.1.T0, x_filter h hL.1.1 hm (fun m1 h1 hm1 => ⟨hm1.1, w_filter (RZ.of hm1 zc_RC0 h1) hL.1.1 (fun m2 h2 => ⟨fun _ => ?_, fun e => absurd rfl e⟩)⟩)⟩
      have hz := h2.2.2.2.2.2.2.2
      exact nx m2 A _ rfl hz (RZ.rm h2) (spFiltered_LI hL _ _)
    refine ⟨fun _ => ?_, fun _ => ?_⟩
    · simp (disch := omega) only [forall_eq, c_add2, c_add3, c_add4, c_add5, nI_1, nI_add, nI_clamp, c_inT, true_and]
      refine ⟨h.1.T0, x_close h hL.1.1 hm (fun m1 h1 hm1 => ⟨hm1.1, w_close (RZ.of hm1 zc_RC0 h1) hL.1.1 (fun m2 h2 => ⟨fun _ => ?_, fun e => absurd rfl e⟩)⟩)⟩
      have hz := h2.2.2.2.2.2.2.2
      exact nx m2 A _ rfl hz (RZ.rm h2) (spClose_LI hL _)
    refine ⟨fun _ => ?_, fun _ => ?_⟩
    · unfold wp_Law_law_521 wp_Law_law_538
      simp (disch := omega) only [forall_eq, c_add2, c_add3, c_add4, c_add5, nI_1, nI_add, nI_clamp, c_inT, true_and]
      have key : ∀ v : Int32, (v = 0 ∨ v = 1) → (tg m (A 0) = 1 ∧ wp_ML_startFails m (A 0) v (fun r m1 => tg m1 a = 11 ∧ wp_Mo_startFails m1 a v (fun r2 m2 => (r = r2 → wp_Law_law_602 L xs (wp_Law_law_30 L xs P n) P m2 (A 0) a (nI p)) ∧ (¬ r = r2 → P 0 m2)))) := fun v hv =>
        ⟨h.1.T0, x_startFails h hL.1.1 hm hv (fun m1 h1 hm1 => ⟨hm1.1, w_startFails (RZ.of hm1 zc_RC0 h1) hL.1.1 hv (fun m2 h2 => ⟨fun _ => nx m2 A _ rfl (show RC0 m2 A (spStart σ v).2 from h2.2.2.2.2.2.2.2) (RZ.rm h2) (spStart_LI hL v hv), fun e => absurd rfl e⟩)⟩)⟩
      refine ⟨fun q0 => ?_, fun q0 => ?_⟩
      · simp only [q0, forall_const, not_true, false_implies, and_true, true_implies]; exact key 0 (Or.inl rfl)
      · simp only [q0, forall_const, not_false_eq_true, false_implies, true_and, true_implies]; exact key 1 (Or.inr rfl)
    refine ⟨fun _ => ?_, fun _ => ?_⟩
    · simp (disch := omega) only [forall_eq, c_add2, c_add3, c_add4, c_add5, nI_1, nI_add, nI_clamp, c_inT, true_and]
      refine ⟨h.1.T0, x_output h hL.1.1 hm (fun m1 h1 hm1 => ⟨hm1.1, w_output (RZ.of hm1 zc_RC0 h1) hL.1.1 (fun m2 h2 => ⟨fun _ => ?_, fun e => absurd rfl e⟩)⟩)⟩
      have hz := h2.2.2.2.2.2.2.2
      exact nx m2 A _ rfl hz (RZ.rm h2) (spOutput_LI hL _)
    refine ⟨fun _ => ?_, fun _ => ?_⟩
    · simp (disch := omega) only [forall_eq, c_add2, c_add3, c_add4, c_add5, nI_1, nI_add, nI_clamp, c_inT, true_and]
      refine ⟨h.1.T0, x_lies h hL.1.1 hm (fun m1 h1 hm1 => ⟨hm1.1, w_lies (RZ.of hm1 zc_RC0 h1) hL.1.1 (fun m2 h2 => ⟨fun _ => ?_, fun e => absurd rfl e⟩)⟩)⟩
      have hz := h2.2.2.2.2.2.2.2
      exact nx m2 A _ rfl hz (RZ.rm h2) (spLies_LI hL _ _)
    exact nx m A σ rfl h hm hL
