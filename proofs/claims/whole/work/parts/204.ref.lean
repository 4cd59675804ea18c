def spTaken (σ : Sg) (v : Int32) : Int32 × Sg := match hx σ v with
  | none => (-1, σ)
  | some h => if fN σ 18 h = 0 then (if fN σ 19 h < fN σ 12 (fN σ 17 h) then (nI (tfl σ h (fN σ 20 h) 0 (by8 (fD σ 13 (100 * fN σ 17 h + fN σ 19 h)))), uN σ 19 h (fN σ 19 h + 1)) else (256, σ)) else (-3, σ)
theorem tfl_congr {σ τ : Sg} {h : Nat} (hE : ∀ j, fN σ 21 j = fN τ 21 j) : ∀ c i v, tfl σ h c i v = tfl τ h c i v
  | 0, _, _ => rfl
  | c + 1, i, v => by simp only [tfl, hE]; exact tfl_congr hE c _ _
theorem wfl_congr {σ τ : Sg} {h : Nat} (hE : ∀ j, fN σ 21 j = fN τ 21 j) : ∀ i v, wfl σ h i v = wfl τ h i v
  | 0, _ => rfl
  | i + 1, v => by simp only [wfl, hE]; exact wfl_congr hE i _
theorem w_taken_loop {m : Mm} {a : Nat} {B : Nat → Nat} {Z : Mm → Prop} {σ : Sg} (h : RZ Z m a B σ) (hI : ∀ j, fN σ 21 j ≤ 3) {i : Nat} (i2 : i ≤ 7) (hf : fN σ 20 i ≤ 3) {P : Int32 → Mm → Prop} : ∀ (c s v : Nat), c + s = fN σ 20 i → v < 256 → (P (nI (tfl σ i c s v)) m) → ∃ n, wp_Mo_taken_84 P n m a (nI i) (nI v) (nI s) := by
  have r20 : gR m 11 20 a = B 20 := (h.2.1 20 (by decide)).1
  have t20 : tg m (B 20) = 44 := (h.2.1 20 (by decide)).2.1
  have l20 : ln m (B 20) = 8 := (h.2.1 20 (by decide)).2.2
  have n20 : ∀ i, i < 8 → aI m 44 (B 20) i = nI (fN σ 20 i) := h.2.2.2.2.1 20 (by decide)
  have r21 : gR m 11 21 a = B 21 := (h.2.1 21 (by decide)).1
  have t21 : tg m (B 21) = 45 := (h.2.1 21 (by decide)).2.1
  have l21 : ln m (B 21) = 24 := (h.2.1 21 (by decide)).2.2
  have n21 : ∀ i, i < 24 → aI m 45 (B 21) i = nI (fN σ 21 i) := h.2.2.2.2.1 21 (by decide)
  intro c
  induction c with
  | zero =>
    intro s v hc hv k
    refine ⟨1, ?_⟩
    unfold wp_Mo_taken_84
    simp (disch := omega) only [forall_eq, tg_sI, gI_sI, gR_sI, aI_sI, aR_sI, ln_sI, tg_sR, gI_sR, gR_sR, aI_sR, aR_sR, ln_sR, tg_wI, gI_wI, gR_wI, aI_wI, aR_wI, ln_wI, tg_wR, gI_wR, gR_wR, aI_wR, aR_wR, ln_wR, tg_wC, gI_wC, gR_wC, aI_wC, aR_wC, ln_wC, tg_nO, gI_nO, gR_nO, aI_nO, aR_nO, ln_nO, tg_nA, gI_nA, gR_nA, aI_nA, aR_nA, ln_nA, Nat.reduceEqDiff, reduceCtorEq, false_and, true_and, and_true, and_false, and_self, if_true, if_false, ↓reduceIte, forall_const, true_implies, imp_self, not_true, not_false_eq_true, implies_true, not_false, eq_self, Nat.reduceLT, Nat.reduceLeDiff, h.1, r20, t20, l20, n20, r21, t21, l21, n21, c_mul2, c_mul3, c_mul6, c_mul10, c_mul40, c_mul100, c_mul200, c_add2, c_add3, c_add4, c_add5, nI_1, nI_add, nI_clamp, c_sub1, c_eq, c_le, c_lt, zz, nb0, nb1, eL_0, ltL_0, gtL_0, leL_0, geL_0, eL_1, ltL_1, gtL_1, leL_1, geL_1, eL_2, ltL_2, gtL_2, leL_2, geL_2, eL_3, ltL_3, gtL_3, leL_3, geL_3, eL_4, ltL_4, gtL_4, leL_4, geL_4, eL_5, ltL_5, gtL_5, leL_5, geL_5, eL_6, ltL_6, gtL_6, leL_6, geL_6, eL_7, ltL_7, gtL_7, leL_7, geL_7, eL_8, ltL_8, gtL_8, leL_8, geL_8, eL_9, ltL_9, gtL_9, leL_9, geL_9, eL_10, ltL_10, gtL_10, leL_10, geL_10, eL_16, ltL_16, gtL_16, leL_16, geL_16, eL_20, ltL_20, gtL_20, leL_20, geL_20, eL_32, ltL_32, gtL_32, leL_32, geL_32, eL_40, ltL_40, gtL_40, leL_40, geL_40, eL_100, ltL_100, gtL_100, leL_100, geL_100, eL_200, ltL_200, gtL_200, leL_200, geL_200, eL_255, ltL_255, gtL_255, leL_255, geL_255, eL_256, ltL_256, gtL_256, leL_256, geL_256, eL_400, ltL_400, gtL_400, leL_400, geL_400, eL_9999, ltL_9999, gtL_9999, leL_9999, geL_9999, eL_20000, ltL_20000, gtL_20000, leL_20000, geL_20000, iL_0, tL_0, iL_1, tL_1, iL_2, tL_2, iL_3, tL_3, iL_4, tL_4, iL_5, tL_5, iL_6, tL_6, iL_7, tL_7, c_inT]
    exact ⟨fun _ => k, fun z => absurd (by omega) z⟩
  | succ c ih =>
    intro s v hc hv k
    have hk := hI (3 * i + s)
    obtain ⟨n, hw⟩ := ih (s + 1) (frN (fN σ 21 (3 * i + s)) v) (by omega) (frN_lt hv) k
    refine ⟨n + 1, ?_⟩
    unfold wp_Mo_taken_84
    unfold wp_Mo_taken_142
    simp (disch := omega) only [forall_eq, tg_sI, gI_sI, gR_sI, aI_sI, aR_sI, ln_sI, tg_sR, gI_sR, gR_sR, aI_sR, aR_sR, ln_sR, tg_wI, gI_wI, gR_wI, aI_wI, aR_wI, ln_wI, tg_wR, gI_wR, gR_wR, aI_wR, aR_wR, ln_wR, tg_wC, gI_wC, gR_wC, aI_wC, aR_wC, ln_wC, tg_nO, gI_nO, gR_nO, aI_nO, aR_nO, ln_nO, tg_nA, gI_nA, gR_nA, aI_nA, aR_nA, ln_nA, Nat.reduceEqDiff, reduceCtorEq, false_and, true_and, and_true, and_false, and_self, if_true, if_false, ↓reduceIte, forall_const, true_implies, imp_self, not_true, not_false_eq_true, implies_true, not_false, eq_self, Nat.reduceLT, Nat.reduceLeDiff, h.1, r20, t20, l20, n20, r21, t21, l21, n21, c_mul2, c_mul3, c_mul6, c_mul10, c_mul40, c_mul100, c_mul200, c_add2, c_add3, c_add4, c_add5, nI_1, nI_add, nI_clamp, c_sub1, c_eq, c_le, c_lt, zz, nb0, nb1, eL_0, ltL_0, gtL_0, leL_0, geL_0, eL_1, ltL_1, gtL_1, leL_1, geL_1, eL_2, ltL_2, gtL_2, leL_2, geL_2, eL_3, ltL_3, gtL_3, leL_3, geL_3, eL_4, ltL_4, gtL_4, leL_4, geL_4, eL_5, ltL_5, gtL_5, leL_5, geL_5, eL_6, ltL_6, gtL_6, leL_6, geL_6, eL_7, ltL_7, gtL_7, leL_7, geL_7, eL_8, ltL_8, gtL_8, leL_8, geL_8, eL_9, ltL_9, gtL_9, leL_9, geL_9, eL_10, ltL_10, gtL_10, leL_10, geL_10, eL_16, ltL_16, gtL_16, leL_16, geL_16, eL_20, ltL_20, gtL_20, leL_20, geL_20, eL_32, ltL_32, gtL_32, leL_32, geL_32, eL_40, ltL_40, gtL_40, leL_40, geL_40, eL_100, ltL_100, gtL_100, leL_100, geL_100, eL_200, ltL_200, gtL_200, leL_200, geL_200, eL_255, ltL_255, gtL_255, leL_255, geL_255, eL_256, ltL_256, gtL_256, leL_256, geL_256, eL_400, ltL_400, gtL_400, leL_400, geL_400, eL_9999, ltL_9999, gtL_9999, leL_9999, geL_9999, eL_20000, ltL_20000, gtL_20000, leL_20000, geL_20000, iL_0, tL_0, iL_1, tL_1, iL_2, tL_2, iL_3, tL_3, iL_4, tL_4, iL_5, tL_5, iL_6, tL_6, iL_7, tL_7, c_inT]
    refine ⟨fun z => absurd z (by omega), fun _ => ?_⟩
    unfold frN at hw
    refine ⟨fun z => ?_, fun z => ⟨fun z2 => w_half hv ?_, fun z2 => ?_⟩⟩
    · rw [if_pos z] at hw; rw [e_turn v hv]; exact hw
    · rw [if_neg z, if_pos z2] at hw; exact hw
    · rw [if_neg z, if_neg z2] at hw
      rw [e_less v hv]; exact hw

theorem w_taken {m : Mm} {a : Nat} {B : Nat → Nat} {Z : Mm → Prop} {σ : Sg} (h : RZ Z m a B σ) (hI : Inv σ) {v : Int32} {P : Int32 → Mm → Prop} (k : ∀ m', RZ Z m' a B (spTaken σ v).2 → P (spTaken σ v).1 m') : wp_Mo_taken m a v P := by
  unfold wp_Mo_taken wp_Mo_taken_0
  refine ⟨h.1, w_isOpen h hI (fun q => ?_) (fun i i1 i2 i3 i4 i5 => ?_)⟩
  · simp only [spTaken, q] at k
    exact ⟨fun _ => k m h, fun z => absurd rfl z⟩
  · refine ⟨fun z => absurd z (by decide), fun _ => ?_⟩
    simp only [spTaken, i5] at k
    subst i4
    have hm := hI.mode i
    have hf := hI.flt i
    have hnm := hI.name i
    have hpl := hI.plc i
    have hln := hI.len (fN σ 17 i)
    have r12 : gR m 11 12 a = B 12 := (h.2.1 12 (by decide)).1
    have t12 : tg m (B 12) = 37 := (h.2.1 12 (by decide)).2.1
    have l12 : ln m (B 12) = 10 := (h.2.1 12 (by decide)).2.2
    have n12 : ∀ i, i < 10 → aI m 37 (B 12) i = nI (fN σ 12 i) := h.2.2.2.2.1 12 (by decide)
    have r13 : gR m 11 13 a = B 13 := (h.2.1 13 (by decide)).1
    have t13 : tg m (B 13) = 38 := (h.2.1 13 (by decide)).2.1
    have l13 : ln m (B 13) = 1000 := (h.2.1 13 (by decide)).2.2
    have n13 : ∀ i, i < 1000 → aI m 38 (B 13) i = fD σ 13 i := h.2.2.2.2.2.1 13 (by decide)
    have r17 : gR m 11 17 a = B 17 := (h.2.1 17 (by decide)).1
    have t17 : tg m (B 17) = 41 := (h.2.1 17 (by decide)).2.1
    have l17 : ln m (B 17) = 8 := (h.2.1 17 (by decide)).2.2
    have n17 : ∀ i, i < 8 → aI m 41 (B 17) i = nI (fN σ 17 i) := h.2.2.2.2.1 17 (by decide)
    have r18 : gR m 11 18 a = B 18 := (h.2.1 18 (by decide)).1
    have t18 : tg m (B 18) = 42 := (h.2.1 18 (by decide)).2.1
    have l18 : ln m (B 18) = 8 := (h.2.1 18 (by decide)).2.2
    have n18 : ∀ i, i < 8 → aI m 42 (B 18) i = nI (fN σ 18 i) := h.2.2.2.2.1 18 (by decide)
    have r19 : gR m 11 19 a = B 19 := (h.2.1 19 (by decide)).1
    have t19 : tg m (B 19) = 43 := (h.2.1 19 (by decide)).2.1
    have l19 : ln m (B 19) = 8 := (h.2.1 19 (by decide)).2.2
    have n19 : ∀ i, i < 8 → aI m 43 (B 19) i = nI (fN σ 19 i) := h.2.2.2.2.1 19 (by decide)
    have r20 : gR m 11 20 a = B 20 := (h.2.1 20 (by decide)).1
    have t20 : tg m (B 20) = 44 := (h.2.1 20 (by decide)).2.1
    have l20 : ln m (B 20) = 8 := (h.2.1 20 (by decide)).2.2
    have n20 : ∀ i, i < 8 → aI m 44 (B 20) i = nI (fN σ 20 i) := h.2.2.2.2.1 20 (by decide)
    simp (disch := omega) only [forall_eq, tg_sI, gI_sI, gR_sI, aI_sI, aR_sI, ln_sI, tg_sR, gI_sR, gR_sR, aI_sR, aR_sR, ln_sR, tg_wI, gI_wI, gR_wI, aI_wI, aR_wI, ln_wI, tg_wR, gI_wR, gR_wR, aI_wR, aR_wR, ln_wR, tg_wC, gI_wC, gR_wC, aI_wC, aR_wC, ln_wC, tg_nO, gI_nO, gR_nO, aI_nO, aR_nO, ln_nO, tg_nA, gI_nA, gR_nA, aI_nA, aR_nA, ln_nA, Nat.reduceEqDiff, reduceCtorEq, false_and, true_and, and_true, and_false, and_self, if_true, if_false, ↓reduceIte, forall_const, true_implies, imp_self, not_true, not_false_eq_true, implies_true, not_false, eq_self, Nat.reduceLT, Nat.reduceLeDiff, h.1, r12, t12, l12, n12, r13, t13, l13, n13, r17, t17, l17, n17, r18, t18, l18, n18, r19, t19, l19, n19, r20, t20, l20, n20, c_mul2, c_mul3, c_mul6, c_mul10, c_mul40, c_mul100, c_mul200, c_add2, c_add3, c_add4, c_add5, nI_1, nI_add, nI_clamp, c_sub1, c_eq, c_le, c_lt, zz, nb0, nb1, eL_0, ltL_0, gtL_0, leL_0, geL_0, eL_1, ltL_1, gtL_1, leL_1, geL_1, eL_2, ltL_2, gtL_2, leL_2, geL_2, eL_3, ltL_3, gtL_3, leL_3, geL_3, eL_4, ltL_4, gtL_4, leL_4, geL_4, eL_5, ltL_5, gtL_5, leL_5, geL_5, eL_6, ltL_6, gtL_6, leL_6, geL_6, eL_7, ltL_7, gtL_7, leL_7, geL_7, eL_8, ltL_8, gtL_8, leL_8, geL_8, eL_9, ltL_9, gtL_9, leL_9, geL_9, eL_10, ltL_10, gtL_10, leL_10, geL_10, eL_16, ltL_16, gtL_16, leL_16, geL_16, eL_20, ltL_20, gtL_20, leL_20, geL_20, eL_32, ltL_32, gtL_32, leL_32, geL_32, eL_40, ltL_40, gtL_40, leL_40, geL_40, eL_100, ltL_100, gtL_100, leL_100, geL_100, eL_200, ltL_200, gtL_200, leL_200, geL_200, eL_255, ltL_255, gtL_255, leL_255, geL_255, eL_256, ltL_256, gtL_256, leL_256, geL_256, eL_400, ltL_400, gtL_400, leL_400, geL_400, eL_9999, ltL_9999, gtL_9999, leL_9999, geL_9999, eL_20000, ltL_20000, gtL_20000, leL_20000, geL_20000, iL_0, tL_0, iL_1, tL_1, iL_2, tL_2, iL_3, tL_3, iL_4, tL_4, iL_5, tL_5, iL_6, tL_6, iL_7, tL_7, c_inT, by8_eq]
    refine ⟨fun z => ⟨fun z1 => ?_, fun z1 => ?_⟩, fun z => ?_⟩
    · rw [if_pos z, if_pos z1] at k
      simp (disch := omega) only [c_inT, true_and, n13, nI_clamp]
      refine w_taken_loop (h.wN 19 i _ (by decide)) (fun j => hI.knd j) i2 hf _ 0 _ rfl (by8_lt _) ?_
      rw [tfl_congr (σ := uN σ 19 i (fN σ 19 i + 1)) (τ := σ) (fun _ => rfl)]
      exact k _ (h.wN 19 i _ (by decide))
    · rw [if_pos z, if_neg z1] at k; exact k m h
    · rw [if_neg z] at k; exact k m h
def spFiltered (σ : Sg) (v x : Int32) : Int32 × Sg := match hx σ v with
  | none => (-1, σ)
  | some h => if x < 1 ∨ 3 < x then (-2, σ) else if fN σ 20 h = 3 then (-4, σ) else (nI (fN σ 20 h + 1), uN (uN σ 21 (3 * h + fN σ 20 h) x.toNatClampNeg) 20 h (fN σ 20 h + 1))
theorem w_filtered {m : Mm} {a : Nat} {B : Nat → Nat} {Z : Mm → Prop} {σ : Sg} (h : RZ Z m a B σ) (hI : Inv σ) {v x : Int32} {P : Int32 → Mm → Prop} (k : ∀ m', RZ Z m' a B (spFiltered σ v x).2 → P (spFiltered σ v x).1 m') : wp_Mo_filtered m a v x P := by
  unfold wp_Mo_filtered wp_Mo_filtered_0
  refine ⟨h.1, w_isOpen h hI (fun q => ?_) (fun i i1 i2 i3 i4 i5 => ?_)⟩
  · simp only [spFiltered, q] at k
    exact ⟨fun _ => k m h, fun z => absurd rfl z⟩
  · refine ⟨fun z => absurd z (by decide), fun _ => ?_⟩
    simp only [spFiltered, i5] at k
    subst i4
    have hf := hI.flt i
    refine w_in (fun q => ?_) (fun q1 q2 => ?_)
    · rw [if_pos q] at k
      exact ⟨fun _ => k m h, fun z => absurd rfl z⟩
    · rw [if_neg (by rintro (z | z); exact q1 z; exact q2 z)] at k
      refine ⟨fun z => absurd z (by decide), fun _ => ?_⟩
      obtain ⟨j, hj, rfl⟩ := ix_of (n := 3) rfl (fun z => q1 (by simp only [Int32.lt_iff_toInt_lt, Int32.toInt_zero, show (1 : Int32).toInt = 1 from rfl] at *; omega)) q2
      rw [nI_clamp (by omega)] at k
      have r20 : gR m 11 20 a = B 20 := (h.2.1 20 (by decide)).1
      have t20 : tg m (B 20) = 44 := (h.2.1 20 (by decide)).2.1
      have l20 : ln m (B 20) = 8 := (h.2.1 20 (by decide)).2.2
      have n20 : ∀ i, i < 8 → aI m 44 (B 20) i = nI (fN σ 20 i) := h.2.2.2.2.1 20 (by decide)
      have r21 : gR m 11 21 a = B 21 := (h.2.1 21 (by decide)).1
      have t21 : tg m (B 21) = 45 := (h.2.1 21 (by decide)).2.1
      have l21 : ln m (B 21) = 24 := (h.2.1 21 (by decide)).2.2
      have n21 : ∀ i, i < 24 → aI m 45 (B 21) i = nI (fN σ 21 i) := h.2.2.2.2.1 21 (by decide)
      simp (disch := omega) only [forall_eq, tg_sI, gI_sI, gR_sI, aI_sI, aR_sI, ln_sI, tg_sR, gI_sR, gR_sR, aI_sR, aR_sR, ln_sR, tg_wI, gI_wI, gR_wI, aI_wI, aR_wI, ln_wI, tg_wR, gI_wR, gR_wR, aI_wR, aR_wR, ln_wR, tg_wC, gI_wC, gR_wC, aI_wC, aR_wC, ln_wC, tg_nO, gI_nO, gR_nO, aI_nO, aR_nO, ln_nO, tg_nA, gI_nA, gR_nA, aI_nA, aR_nA, ln_nA, Nat.reduceEqDiff, reduceCtorEq, false_and, true_and, and_true, and_false, and_self, if_true, if_false, ↓reduceIte, forall_const, true_implies, imp_self, not_true, not_false_eq_true, implies_true, not_false, eq_self, Nat.reduceLT, Nat.reduceLeDiff, h.1, r20, t20, l20, n20, r21, t21, l21, n21, c_mul2, c_mul3, c_mul6, c_mul10, c_mul40, c_mul100, c_mul200, c_add2, c_add3, c_add4, c_add5, nI_1, nI_add, nI_clamp, c_sub1, c_eq, c_le, c_lt, zz, nb0, nb1, eL_0, ltL_0, gtL_0, leL_0, geL_0, eL_1, ltL_1, gtL_1, leL_1, geL_1, eL_2, ltL_2, gtL_2, leL_2, geL_2, eL_3, ltL_3, gtL_3, leL_3, geL_3, eL_4, ltL_4, gtL_4, leL_4, geL_4, eL_5, ltL_5, gtL_5, leL_5, geL_5, eL_6, ltL_6, gtL_6, leL_6, geL_6, eL_7, ltL_7, gtL_7, leL_7, geL_7, eL_8, ltL_8, gtL_8, leL_8, geL_8, eL_9, ltL_9, gtL_9, leL_9, geL_9, eL_10, ltL_10, gtL_10, leL_10, geL_10, eL_16, ltL_16, gtL_16, leL_16, geL_16, eL_20, ltL_20, gtL_20, leL_20, geL_20, eL_32, ltL_32, gtL_32, leL_32, geL_32, eL_40, ltL_40, gtL_40, leL_40, geL_40, eL_100, ltL_100, gtL_100, leL_100, geL_100, eL_200, ltL_200, gtL_200, leL_200, geL_200, eL_255, ltL_255, gtL_255, leL_255, geL_255, eL_256, ltL_256, gtL_256, leL_256, geL_256, eL_400, ltL_400, gtL_400, leL_400, geL_400, eL_9999, ltL_9999, gtL_9999, leL_9999, geL_9999, eL_20000, ltL_20000, gtL_20000, leL_20000, geL_20000, iL_0, tL_0, iL_1, tL_1, iL_2, tL_2, iL_3, tL_3, iL_4, tL_4, iL_5, tL_5, iL_6, tL_6, iL_7, tL_7, c_inT]
      refine ⟨fun z => ?_, fun z => ?_⟩
      · rw [if_pos z] at k; exact k m h
      · rw [if_neg z] at k
        first | exact k _ ((h.wN 21 _ j (by decide)).wN 20 i _ (by decide)) | exact ⟨c_in (by decide) (by omega), k _ ((h.wN 21 _ j (by decide)).wN 20 i _ (by decide))⟩
def spClose (σ : Sg) (v : Int32) : Int32 × Sg := match hx σ v with
  | none => (-1, σ)
  | some h => if h = 1 then (-3, σ) else (1, uN σ 16 h 0)
theorem w_close {m : Mm} {a : Nat} {B : Nat → Nat} {Z : Mm → Prop} {σ : Sg} (h : RZ Z m a B σ) (hI : Inv σ) {v : Int32} {P : Int32 → Mm → Prop} (k : ∀ m', RZ Z m' a B (spClose σ v).2 → P (spClose σ v).1 m') : wp_Mo_close m a v P := by
  unfold wp_Mo_close wp_Mo_close_0
  refine ⟨h.1, fun m1 e1 => ?_⟩
  subst e1
  replace h := h.code 0
  generalize sI m 11 0 a 0 = m at h ⊢
  refine ⟨h.1, w_isOpen h hI (fun q => ?_) (fun i i1 i2 i3 i4 i5 => ?_)⟩
  · simp only [spClose, q] at k
    exact ⟨fun _ => k m h, fun z => absurd rfl z⟩
  · refine ⟨fun z => absurd z (by decide), fun _ => ?_⟩
    simp only [spClose, i5] at k
    subst i4
    have r16 : gR m 11 16 a = B 16 := (h.2.1 16 (by decide)).1
    have t16 : tg m (B 16) = 40 := (h.2.1 16 (by decide)).2.1
    have l16 : ln m (B 16) = 8 := (h.2.1 16 (by decide)).2.2
    have n16 : ∀ i, i < 8 → aI m 40 (B 16) i = nI (fN σ 16 i) := h.2.2.2.2.1 16 (by decide)
    simp (disch := omega) only [forall_eq, tg_sI, gI_sI, gR_sI, aI_sI, aR_sI, ln_sI, tg_sR, gI_sR, gR_sR, aI_sR, aR_sR, ln_sR, tg_wI, gI_wI, gR_wI, aI_wI, aR_wI, ln_wI, tg_wR, gI_wR, gR_wR, aI_wR, aR_wR, ln_wR, tg_wC, gI_wC, gR_wC, aI_wC, aR_wC, ln_wC, tg_nO, gI_nO, gR_nO, aI_nO, aR_nO, ln_nO, tg_nA, gI_nA, gR_nA, aI_nA, aR_nA, ln_nA, Nat.reduceEqDiff, reduceCtorEq, false_and, true_and, and_true, and_false, and_self, if_true, if_false, ↓reduceIte, forall_const, true_implies, imp_self, not_true, not_false_eq_true, implies_true, not_false, eq_self, Nat.reduceLT, Nat.reduceLeDiff, h.1, r16, t16, l16, n16, c_mul2, c_mul3, c_mul6, c_mul10, c_mul40, c_mul100, c_mul200, c_add2, c_add3, c_add4, c_add5, nI_1, nI_add, nI_clamp, c_sub1, c_eq, c_le, c_lt, zz, nb0, nb1, eL_0, ltL_0, gtL_0, leL_0, geL_0, eL_1, ltL_1, gtL_1, leL_1, geL_1, eL_2, ltL_2, gtL_2, leL_2, geL_2, eL_3, ltL_3, gtL_3, leL_3, geL_3, eL_4, ltL_4, gtL_4, leL_4, geL_4, eL_5, ltL_5, gtL_5, leL_5, geL_5, eL_6, ltL_6, gtL_6, leL_6, geL_6, eL_7, ltL_7, gtL_7, leL_7, geL_7, eL_8, ltL_8, gtL_8, leL_8, geL_8, eL_9, ltL_9, gtL_9, leL_9, geL_9, eL_10, ltL_10, gtL_10, leL_10, geL_10, eL_16, ltL_16, gtL_16, leL_16, geL_16, eL_20, ltL_20, gtL_20, leL_20, geL_20, eL_32, ltL_32, gtL_32, leL_32, geL_32, eL_40, ltL_40, gtL_40, leL_40, geL_40, eL_100, ltL_100, gtL_100, leL_100, geL_100, eL_200, ltL_200, gtL_200, leL_200, geL_200, eL_255, ltL_255, gtL_255, leL_255, geL_255, eL_256, ltL_256, gtL_256, leL_256, geL_256, eL_400, ltL_400, gtL_400, leL_400, geL_400, eL_9999, ltL_9999, gtL_9999, leL_9999, geL_9999, eL_20000, ltL_20000, gtL_20000, leL_20000, geL_20000, iL_0, tL_0, iL_1, tL_1, iL_2, tL_2, iL_3, tL_3, iL_4, tL_4, iL_5, tL_5, iL_6, tL_6, iL_7, tL_7, c_inT]
    refine ⟨fun z => ?_, fun z => ?_⟩
    · rw [if_pos z] at k; exact k m h
    · rw [if_neg z] at k; exact k _ (h.wN 16 i 0 (by decide))
def spStart (σ : Sg) (v : Int32) : Int32 × Sg := (nI (fF σ 24), uF σ 24 v.toNatClampNeg)
theorem w_startFails {m : Mm} {a : Nat} {B : Nat → Nat} {Z : Mm → Prop} {σ : Sg} (h : RZ Z m a B σ) (hI : Inv σ) {v : Int32} (hv : v = 0 ∨ v = 1) {P : Int32 → Mm → Prop} (k : ∀ m', RZ Z m' a B (spStart σ v).2 → P (spStart σ v).1 m') : wp_Mo_startFails m a v P := by
  unfold wp_Mo_startFails wp_Mo_startFails_0
  refine ⟨h.1, fun m1 e1 => ?_⟩
  subst e1
  replace h := h.code 0
  generalize sI m 11 0 a 0 = m at h ⊢
  have hf := hI.fails
  have f24 : gI m 11 24 a = nI (fF σ 24) := h.2.2.1 24 (by decide)
  have hb : (nI (fF σ 24) = 0 ∨ nI (fF σ 24) = 1) := by rcases (show fF σ 24 = 0 ∨ fF σ 24 = 1 by omega) with e | e <;> rw [e]; exact Or.inl rfl; exact Or.inr rfl
  simp only [forall_eq, h.1, f24, true_and, hv, hb]
  unfold spStart at k
  rcases hv with rfl | rfl
  · exact k _ (h.sF 24 0 (by decide))
  · exact k _ (h.sF 24 1 (by decide))
def spOutput (σ : Sg) (i : Int32) : Int32 × Sg := if i < 0 ∨ nI (fF σ 15) ≤ i then (-1, σ) else (nI (by8 (fD σ 14 i.toNatClampNeg)), σ)
theorem w_output {m : Mm} {a : Nat} {B : Nat → Nat} {Z : Mm → Prop} {σ : Sg} (h : RZ Z m a B σ) (hI : Inv σ) {i : Int32} {P : Int32 → Mm → Prop} (k : ∀ m', RZ Z m' a B (spOutput σ i).2 → P (spOutput σ i).1 m') : wp_Mo_output m a i P := by
  unfold wp_Mo_output wp_Mo_output_0
  refine ⟨h.1, fun m1 e1 => ?_⟩
  subst e1
  replace h := h.code 0
  generalize sI m 11 0 a 0 = m at h ⊢
  have ho := hI.out
  unfold spOutput at k
  refine ⟨fun z => ?_, fun z => ?_⟩
  · rw [if_pos (Or.inl z)] at k; exact k m h
  have r14 : gR m 11 14 a = B 14 := (h.2.1 14 (by decide)).1
  have t14 : tg m (B 14) = 39 := (h.2.1 14 (by decide)).2.1
  have l14 : ln m (B 14) = 400 := (h.2.1 14 (by decide)).2.2
  have n14 : ∀ i, i < 400 → aI m 39 (B 14) i = fD σ 14 i := h.2.2.2.2.2.1 14 (by decide)
  have f15 : gI m 11 15 a = nI (fF σ 15) := h.2.2.1 15 (by decide)
  simp (disch := omega) only [forall_eq, tg_sI, gI_sI, gR_sI, aI_sI, aR_sI, ln_sI, tg_sR, gI_sR, gR_sR, aI_sR, aR_sR, ln_sR, tg_wI, gI_wI, gR_wI, aI_wI, aR_wI, ln_wI, tg_wR, gI_wR, gR_wR, aI_wR, aR_wR, ln_wR, tg_wC, gI_wC, gR_wC, aI_wC, aR_wC, ln_wC, tg_nO, gI_nO, gR_nO, aI_nO, aR_nO, ln_nO, tg_nA, gI_nA, gR_nA, aI_nA, aR_nA, ln_nA, Nat.reduceEqDiff, reduceCtorEq, false_and, true_and, and_true, and_false, and_self, if_true, if_false, ↓reduceIte, forall_const, true_implies, imp_self, not_true, not_false_eq_true, implies_true, not_false, eq_self, Nat.reduceLT, Nat.reduceLeDiff, h.1, r14, t14, l14, n14, f15, c_mul2, c_mul3, c_mul6, c_mul10, c_mul40, c_mul100, c_mul200, c_add2, c_add3, c_add4, c_add5, nI_1, nI_add, nI_clamp, c_sub1, c_eq, c_le, c_lt, zz, nb0, nb1, eL_0, ltL_0, gtL_0, leL_0, geL_0, eL_1, ltL_1, gtL_1, leL_1, geL_1, eL_2, ltL_2, gtL_2, leL_2, geL_2, eL_3, ltL_3, gtL_3, leL_3, geL_3, eL_4, ltL_4, gtL_4, leL_4, geL_4, eL_5, ltL_5, gtL_5, leL_5, geL_5, eL_6, ltL_6, gtL_6, leL_6, geL_6, eL_7, ltL_7, gtL_7, leL_7, geL_7, eL_8, ltL_8, gtL_8, leL_8, geL_8, eL_9, ltL_9, gtL_9, leL_9, geL_9, eL_10, ltL_10, gtL_10, leL_10, geL_10, eL_16, ltL_16, gtL_16, leL_16, geL_16, eL_20, ltL_20, gtL_20, leL_20, geL_20, eL_32, ltL_32, gtL_32, leL_32, geL_32, eL_40, ltL_40, gtL_40, leL_40, geL_40, eL_100, ltL_100, gtL_100, leL_100, geL_100, eL_200, ltL_200, gtL_200, leL_200, geL_200, eL_255, ltL_255, gtL_255, leL_255, geL_255, eL_256, ltL_256, gtL_256, leL_256, geL_256, eL_400, ltL_400, gtL_400, leL_400, geL_400, eL_9999, ltL_9999, gtL_9999, leL_9999, geL_9999, eL_20000, ltL_20000, gtL_20000, leL_20000, geL_20000, iL_0, tL_0, iL_1, tL_1, iL_2, tL_2, iL_3, tL_3, iL_4, tL_4, iL_5, tL_5, iL_6, tL_6, iL_7, tL_7, c_inT, by8_eq]
  refine ⟨fun z1 => ?_, fun z1 => ?_⟩
  · rw [if_pos (Or.inr z1)] at k; exact k m h
  · rw [if_neg (by rintro (q | q); exact z q; exact z1 q)] at k
    rcases pk_ix i (n := fF σ 15) (by omega) with q | q | ⟨j, q1, q2⟩
    · exact absurd q z
    · exact absurd q z1
    · subst q2
      rw [nI_clamp (by omega)] at k
      simp (disch := omega) only [c_inT, true_and, nI_clamp, n14]
      exact k m h
def spLies (σ : Sg) (n i : Int32) : Int32 × Sg := if n < 0 ∨ 9 < n then (-1, σ) else if i < 0 ∨ nI (fN σ 12 n.toNatClampNeg) ≤ i then (-1, σ) else (nI (by8 (fD σ 13 (100 * n.toNatClampNeg + i.toNatClampNeg))), σ)
theorem w_lies {m : Mm} {a : Nat} {B : Nat → Nat} {Z : Mm → Prop} {σ : Sg} (h : RZ Z m a B σ) (hI : Inv σ) {n i : Int32} {P : Int32 → Mm → Prop} (k : ∀ m', RZ Z m' a B (spLies σ n i).2 → P (spLies σ n i).1 m') : wp_Mo_lies m a n i P := by
  unfold wp_Mo_lies wp_Mo_lies_0
  refine ⟨h.1, fun m1 e1 => ?_⟩
  subst e1
  replace h := h.code 0
  generalize sI m 11 0 a 0 = m at h ⊢
  unfold spLies at k
  refine w_in (fun q => ?_) (fun q1 q2 => ?_)
  · rw [if_pos q] at k
    exact ⟨fun _ => k m h, fun z => absurd rfl z⟩
  · rw [if_neg (by rintro (z | z); exact q1 z; exact q2 z)] at k
    refine ⟨fun z => absurd z (by decide), fun _ => ?_⟩
    obtain ⟨j, hj, rfl⟩ := ix_of (n := 9) rfl q1 q2
    rw [nI_clamp (by omega)] at k
    have ht := hI.there j
    have hln := hI.len j
    have hl0 := hI.len0 j
    have r11 : gR m 11 11 a = B 11 := (h.2.1 11 (by decide)).1
    have t11 : tg m (B 11) = 36 := (h.2.1 11 (by decide)).2.1
    have l11 : ln m (B 11) = 10 := (h.2.1 11 (by decide)).2.2
    have n11 : ∀ i, i < 10 → aI m 36 (B 11) i = nI (fN σ 11 i) := h.2.2.2.2.1 11 (by decide)
    have r12 : gR m 11 12 a = B 12 := (h.2.1 12 (by decide)).1
    have t12 : tg m (B 12) = 37 := (h.2.1 12 (by decide)).2.1
    have l12 : ln m (B 12) = 10 := (h.2.1 12 (by decide)).2.2
    have n12 : ∀ i, i < 10 → aI m 37 (B 12) i = nI (fN σ 12 i) := h.2.2.2.2.1 12 (by decide)
    have r13 : gR m 11 13 a = B 13 := (h.2.1 13 (by decide)).1
    have t13 : tg m (B 13) = 38 := (h.2.1 13 (by decide)).2.1
    have l13 : ln m (B 13) = 1000 := (h.2.1 13 (by decide)).2.2
    have n13 : ∀ i, i < 1000 → aI m 38 (B 13) i = fD σ 13 i := h.2.2.2.2.2.1 13 (by decide)
    simp (disch := omega) only [forall_eq, tg_sI, gI_sI, gR_sI, aI_sI, aR_sI, ln_sI, tg_sR, gI_sR, gR_sR, aI_sR, aR_sR, ln_sR, tg_wI, gI_wI, gR_wI, aI_wI, aR_wI, ln_wI, tg_wR, gI_wR, gR_wR, aI_wR, aR_wR, ln_wR, tg_wC, gI_wC, gR_wC, aI_wC, aR_wC, ln_wC, tg_nO, gI_nO, gR_nO, aI_nO, aR_nO, ln_nO, tg_nA, gI_nA, gR_nA, aI_nA, aR_nA, ln_nA, Nat.reduceEqDiff, reduceCtorEq, false_and, true_and, and_true, and_false, and_self, if_true, if_false, ↓reduceIte, forall_const, true_implies, imp_self, not_true, not_false_eq_true, implies_true, not_false, eq_self, Nat.reduceLT, Nat.reduceLeDiff, h.1, r11, t11, l11, n11, r12, t12, l12, n12, r13, t13, l13, n13, c_mul2, c_mul3, c_mul6, c_mul10, c_mul40, c_mul100, c_mul200, c_add2, c_add3, c_add4, c_add5, nI_1, nI_add, nI_clamp, c_sub1, c_eq, c_le, c_lt, zz, nb0, nb1, eL_0, ltL_0, gtL_0, leL_0, geL_0, eL_1, ltL_1, gtL_1, leL_1, geL_1, eL_2, ltL_2, gtL_2, leL_2, geL_2, eL_3, ltL_3, gtL_3, leL_3, geL_3, eL_4, ltL_4, gtL_4, leL_4, geL_4, eL_5, ltL_5, gtL_5, leL_5, geL_5, eL_6, ltL_6, gtL_6, leL_6, geL_6, eL_7, ltL_7, gtL_7, leL_7, geL_7, eL_8, ltL_8, gtL_8, leL_8, geL_8, eL_9, ltL_9, gtL_9, leL_9, geL_9, eL_10, ltL_10, gtL_10, leL_10, geL_10, eL_16, ltL_16, gtL_16, leL_16, geL_16, eL_20, ltL_20, gtL_20, leL_20, geL_20, eL_32, ltL_32, gtL_32, leL_32, geL_32, eL_40, ltL_40, gtL_40, leL_40, geL_40, eL_100, ltL_100, gtL_100, leL_100, geL_100, eL_200, ltL_200, gtL_200, leL_200, geL_200, eL_255, ltL_255, gtL_255, leL_255, geL_255, eL_256, ltL_256, gtL_256, leL_256, geL_256, eL_400, ltL_400, gtL_400, leL_400, geL_400, eL_9999, ltL_9999, gtL_9999, leL_9999, geL_9999, eL_20000, ltL_20000, gtL_20000, leL_20000, geL_20000, iL_0, tL_0, iL_1, tL_1, iL_2, tL_2, iL_3, tL_3, iL_4, tL_4, iL_5, tL_5, iL_6, tL_6, iL_7, tL_7, c_inT, by8_eq]
    refine ⟨fun z => ?_, fun z => ⟨fun z1 => ?_, fun z1 => ⟨fun z2 => ?_, fun z2 => ?_⟩⟩⟩
    · rw [if_pos (by rw [hl0 z]; rcases (show i < 0 ∨ ¬ i < 0 from Decidable.em _) with q | q; exact Or.inl q; exact Or.inr (lt_no q))] at k; exact k m h
    · rw [if_pos (Or.inl z1)] at k; exact k m h
    · rw [if_pos (Or.inr z2)] at k; exact k m h
    · rw [if_neg (by rintro (q | q); exact z1 q; exact z2 q)] at k
      rcases pk_ix i (n := fN σ 12 j) (by omega) with q | q | ⟨i', e1, e2⟩
      · exact absurd q z1
      · exact absurd q z2
      · subst e2
        rw [nI_clamp (by omega)] at k
        simp (disch := omega) only [c_inT, true_and, nI_clamp, n13, nI_add]
        exact k m h
