/-! opening -/
def frH (σ : Sg) : Nat → Nat
  | 0 => 0
  | c + 1 => if fN σ 16 (7 - c) = 0 then 7 - c else frH σ c
def hitH (σ : Sg) (n md h : Nat) : Bool := decide (fN σ 16 h ≠ 0 ∧ fN σ 17 h = n ∧ (0 < md ∨ 0 < fN σ 18 h))
def cnH (σ : Sg) (n md : Nat) : Nat → Bool
  | 0 => decide (0 < md ∨ fN σ 11 n ≠ 0)
  | c + 1 => cnH σ n md c && !hitH σ n md (7 - c)
def bI (b : Bool) : Int32 := if b then 1 else 0
def oI (x : Nat) : Int32 := if x = 0 then -1 else nI x
theorem bI_t : bI true = 1 := rfl
theorem bI_f : bI false = 0 := rfl
theorem frH_le (σ : Sg) : ∀ c, c ≤ 6 → frH σ c ≤ 7 ∧ (frH σ c ≠ 0 → 2 ≤ frH σ c ∧ fN σ 16 (frH σ c) = 0)
  | 0, _ => by simp [frH]
  | c + 1, h => by
    unfold frH
    split
    · rename_i e; exact ⟨by omega, fun _ => ⟨by omega, e⟩⟩
    · exact frH_le σ c (by omega)
def opnd (σ : Sg) (n md h : Nat) : Sg := uN (uN (uN (uN (uN (uN (uN σ 12 n (if md = 1 ∨ fN σ 11 n = 0 then 0 else fN σ 12 n)) 11 n 1) 16 h 1) 17 h n) 18 h md) 19 h 0) 20 h 0
def spOpened (σ : Sg) (n md : Int32) : Int32 × Sg := if n < 0 ∨ 9 < n then (-1, σ) else if md < 0 ∨ 2 < md then (-2, σ) else if cnH σ n.toNatClampNeg md.toNatClampNeg 6 = false then (-3, σ) else if frH σ 6 = 0 then (-4, σ) else (nI (frH σ 6), opnd σ n.toNatClampNeg md.toNatClampNeg (frH σ 6))
theorem w_opened_73 {m : Mm} {a : Nat} {B : Nat → Nat} {Z : Mm → Prop} {σ : Sg} (h : RZ Z m a B σ) (hI : Inv σ) {n md c : Nat} (hn : n ≤ 9) (hm : md ≤ 2) (hc : c < 6) {K : Mm → Nat → Int32 → Int32 → Int32 → Int32 → Int32 → Prop} {P : Int32 → Mm → Prop} {b : Bool} {w : Int32} (k : K m a (nI n) (nI md) (bI (b && !hitH σ n md (7 - c))) w (nI (7 - c) + -1)) : wp_Mo_opened_73 K P m a (nI n) (nI md) (bI b) (nI (7 - c)) w := by
  unfold wp_Mo_opened_73 wp_Mo_opened_118 wp_Mo_opened_114 wp_Mo_opened_119
  have ho := hI.opn (7 - c)
  have hnm := hI.name (7 - c)
  have hmd := hI.mode (7 - c)
  have r16 : gR m 11 16 a = B 16 := (h.2.1 16 (by decide)).1
  have t16 : tg m (B 16) = 40 := (h.2.1 16 (by decide)).2.1
  have l16 : ln m (B 16) = 8 := (h.2.1 16 (by decide)).2.2
  have n16 : ∀ i, i < 8 → aI m 40 (B 16) i = nI (fN σ 16 i) := h.2.2.2.2.1 16 (by decide)
  have r17 : gR m 11 17 a = B 17 := (h.2.1 17 (by decide)).1
  have t17 : tg m (B 17) = 41 := (h.2.1 17 (by decide)).2.1
  have l17 : ln m (B 17) = 8 := (h.2.1 17 (by decide)).2.2
  have n17 : ∀ i, i < 8 → aI m 41 (B 17) i = nI (fN σ 17 i) := h.2.2.2.2.1 17 (by decide)
  have r18 : gR m 11 18 a = B 18 := (h.2.1 18 (by decide)).1
  have t18 : tg m (B 18) = 42 := (h.2.1 18 (by decide)).2.1
  have l18 : ln m (B 18) = 8 := (h.2.1 18 (by decide)).2.2
  have n18 : ∀ i, i < 8 → aI m 42 (B 18) i = nI (fN σ 18 i) := h.2.2.2.2.1 18 (by decide)
  cases b with
  | false =>
    refine ⟨fun _ => fun x e => ?_, fun z => absurd rfl z⟩
    subst e; simp only [Bool.false_and] at k; exact k
  | true =>
    refine ⟨fun z => absurd z (by decide), fun _ => ?_⟩
    simp only [Bool.true_and] at k
    simp (disch := omega) only [forall_eq, tg_sI, gI_sI, gR_sI, aI_sI, aR_sI, ln_sI, tg_sR, gI_sR, gR_sR, aI_sR, aR_sR, ln_sR, tg_wI, gI_wI, gR_wI, aI_wI, aR_wI, ln_wI, tg_wR, gI_wR, gR_wR, aI_wR, aR_wR, ln_wR, tg_wC, gI_wC, gR_wC, aI_wC, aR_wC, ln_wC, tg_nO, gI_nO, gR_nO, aI_nO, aR_nO, ln_nO, tg_nA, gI_nA, gR_nA, aI_nA, aR_nA, ln_nA, Nat.reduceEqDiff, reduceCtorEq, false_and, true_and, and_true, and_false, and_self, if_true, if_false, ↓reduceIte, forall_const, true_implies, imp_self, not_true, not_false_eq_true, implies_true, not_false, eq_self, Nat.reduceLT, Nat.reduceLeDiff, h.1, r16, t16, l16, n16, r17, t17, l17, n17, r18, t18, l18, n18, c_mul2, c_mul3, c_mul6, c_mul10, c_mul40, c_mul100, c_mul200, c_add2, c_add3, c_add4, c_add5, nI_1, nI_add, nI_clamp, c_sub1, c_eq, c_le, c_lt, zz, nb0, nb1, eL_0, ltL_0, gtL_0, leL_0, geL_0, eL_1, ltL_1, gtL_1, leL_1, geL_1, eL_2, ltL_2, gtL_2, leL_2, geL_2, eL_3, ltL_3, gtL_3, leL_3, geL_3, eL_4, ltL_4, gtL_4, leL_4, geL_4, eL_5, ltL_5, gtL_5, leL_5, geL_5, eL_6, ltL_6, gtL_6, leL_6, geL_6, eL_7, ltL_7, gtL_7, leL_7, geL_7, eL_8, ltL_8, gtL_8, leL_8, geL_8, eL_9, ltL_9, gtL_9, leL_9, geL_9, eL_10, ltL_10, gtL_10, leL_10, geL_10, eL_16, ltL_16, gtL_16, leL_16, geL_16, eL_20, ltL_20, gtL_20, leL_20, geL_20, eL_32, ltL_32, gtL_32, leL_32, geL_32, eL_40, ltL_40, gtL_40, leL_40, geL_40, eL_100, ltL_100, gtL_100, leL_100, geL_100, eL_200, ltL_200, gtL_200, leL_200, geL_200, eL_255, ltL_255, gtL_255, leL_255, geL_255, eL_256, ltL_256, gtL_256, leL_256, geL_256, eL_400, ltL_400, gtL_400, leL_400, geL_400, eL_9999, ltL_9999, gtL_9999, leL_9999, geL_9999, eL_20000, ltL_20000, gtL_20000, leL_20000, geL_20000, iL_0, tL_0, iL_1, tL_1, iL_2, tL_2, iL_3, tL_3, iL_4, tL_4, iL_5, tL_5, iL_6, tL_6, iL_7, tL_7, c_inT]
    refine ⟨fun z => ?_, fun z => ⟨fun z1 => ⟨fun z2 => ?_, fun z2 => ⟨fun z3 => ?_, fun z3 => ?_⟩⟩, fun z1 => ?_⟩⟩
    · rw [show hitH σ n md (7 - c) = false from decide_eq_false (fun q => q.1 z)] at k; exact k
    · rw [show hitH σ n md (7 - c) = true from decide_eq_true ⟨z, z1, Or.inl z2⟩] at k; exact k
    · rw [show hitH σ n md (7 - c) = true from decide_eq_true ⟨z, z1, Or.inr z3⟩] at k; exact k
    · rw [show hitH σ n md (7 - c) = false from decide_eq_false (fun q => q.2.2.elim z2 z3)] at k; exact k
    · rw [show hitH σ n md (7 - c) = false from decide_eq_false (fun q => z1 q.2.1)] at k; exact k
theorem w_opened_170 {m : Mm} {a : Nat} {B : Nat → Nat} {Z : Mm → Prop} {σ : Sg} (h : RZ Z m a B σ) (hI : Inv σ) {n md f : Nat} (hn : n ≤ 9) (hm : md ≤ 2) (hf : f ≤ 7) {P : Int32 → Mm → Prop} {x : Nat} (hx : x = if md = 1 ∨ fN σ 11 n = 0 then 0 else fN σ 12 n) (k : ∀ m', RZ Z m' a B (opnd σ n md f) → P (nI f) m') : wp_Mo_opened_170 P m a (nI n) (nI md) (nI f) (nI x) (nI n) (B 12) := by
  unfold wp_Mo_opened_170
  unfold opnd at k
  rw [← hx] at k
  have r11 : gR m 11 11 a = B 11 := (h.2.1 11 (by decide)).1
  have t11 : tg m (B 11) = 36 := (h.2.1 11 (by decide)).2.1
  have l11 : ln m (B 11) = 10 := (h.2.1 11 (by decide)).2.2
  have n11 : ∀ i, i < 10 → aI m 36 (B 11) i = nI (fN σ 11 i) := h.2.2.2.2.1 11 (by decide)
  have r12 : gR m 11 12 a = B 12 := (h.2.1 12 (by decide)).1
  have t12 : tg m (B 12) = 37 := (h.2.1 12 (by decide)).2.1
  have l12 : ln m (B 12) = 10 := (h.2.1 12 (by decide)).2.2
  have n12 : ∀ i, i < 10 → aI m 37 (B 12) i = nI (fN σ 12 i) := h.2.2.2.2.1 12 (by decide)
  have r16 : gR m 11 16 a = B 16 := (h.2.1 16 (by decide)).1
  have t16 : tg m (B 16) = 40 := (h.2.1 16 (by decide)).2.1
  have l16 : ln m (B 16) = 8 := (h.2.1 16 (by decide)).2.2
  have n16 : ∀ i, i < 8 → aI m 40 (B 16) i = nI (fN σ 16 i) := h.2.2.2.2.1 16 (by decide)
  have r17 : gR m 11 17 a = B 17 := (h.2.1 17 (by decide)).1
  have t17 : tg m (B 17) = 41 := (h.2.1 17 (by decide)).2.1
  have l17 : ln m (B 17) = 8 := (h.2.1 17 (by decide)).2.2
  have n17 : ∀ i, i < 8 → aI m 41 (B 17) i = nI (fN σ 17 i) := h.2.2.2.2.1 17 (by decide)
  have r18 : gR m 11 18 a = B 18 := (h.2.1 18 (by decide)).1
  have t18 : tg m (B 18) = 42 := (h.2.1 18 (by decide)).2.1
  have l18 : ln m (B 18) = 8 := (h.2.1 18 (by decide)).2.2
  have n18 : ∀ i, i < 8 → aI m 42 (B 18) i = nI (fN σ 18 i) := h.2.2.2.2.1 18 (by decide)
  have r19 : gR m 11 19 a = B 19 := (h.2.1 19 (by decide)).1
  have t19 : tg m (B 19) = 43 := (h.2.1 19 (by decide)).2.1
  have l19 : ln m (B 19) = 8 := (h.2.1 19 (by decide)).2.2
  have n19 : ∀ i, i < 8 → aI m 43 (B 19) i = nI (fN σ 19 i) := h.2.2.2.2.1 19 (by decide)
  have r20 : gR m 11 20 a = B 20 := (h.2.1 20 (by decide)).1
  have t20 : tg m (B 20) = 44 := (h.2.1 20 (by decide)).2.1
  have l20 : ln m (B 20) = 8 := (h.2.1 20 (by decide)).2.2
  have n20 : ∀ i, i < 8 → aI m 44 (B 20) i = nI (fN σ 20 i) := h.2.2.2.2.1 20 (by decide)
  simp (disch := omega) only [forall_eq, tg_sI, gI_sI, gR_sI, aI_sI, aR_sI, ln_sI, tg_sR, gI_sR, gR_sR, aI_sR, aR_sR, ln_sR, tg_wI, gI_wI, gR_wI, aI_wI, aR_wI, ln_wI, tg_wR, gI_wR, gR_wR, aI_wR, aR_wR, ln_wR, tg_wC, gI_wC, gR_wC, aI_wC, aR_wC, ln_wC, tg_nO, gI_nO, gR_nO, aI_nO, aR_nO, ln_nO, tg_nA, gI_nA, gR_nA, aI_nA, aR_nA, ln_nA, Nat.reduceEqDiff, reduceCtorEq, false_and, true_and, and_true, and_false, and_self, if_true, if_false, ↓reduceIte, forall_const, true_implies, imp_self, not_true, not_false_eq_true, implies_true, not_false, eq_self, Nat.reduceLT, Nat.reduceLeDiff, h.1, r11, t11, l11, n11, r12, t12, l12, n12, r16, t16, l16, n16, r17, t17, l17, n17, r18, t18, l18, n18, r19, t19, l19, n19, r20, t20, l20, n20, c_mul2, c_mul3, c_mul6, c_mul10, c_mul40, c_mul100, c_mul200, c_add2, c_add3, c_add4, c_add5, nI_1, nI_add, nI_clamp, c_sub1, c_eq, c_le, c_lt, zz, nb0, nb1, eL_0, ltL_0, gtL_0, leL_0, geL_0, eL_1, ltL_1, gtL_1, leL_1, geL_1, eL_2, ltL_2, gtL_2, leL_2, geL_2, eL_3, ltL_3, gtL_3, leL_3, geL_3, eL_4, ltL_4, gtL_4, leL_4, geL_4, eL_5, ltL_5, gtL_5, leL_5, geL_5, eL_6, ltL_6, gtL_6, leL_6, geL_6, eL_7, ltL_7, gtL_7, leL_7, geL_7, eL_8, ltL_8, gtL_8, leL_8, geL_8, eL_9, ltL_9, gtL_9, leL_9, geL_9, eL_10, ltL_10, gtL_10, leL_10, geL_10, eL_16, ltL_16, gtL_16, leL_16, geL_16, eL_20, ltL_20, gtL_20, leL_20, geL_20, eL_32, ltL_32, gtL_32, leL_32, geL_32, eL_40, ltL_40, gtL_40, leL_40, geL_40, eL_100, ltL_100, gtL_100, leL_100, geL_100, eL_200, ltL_200, gtL_200, leL_200, geL_200, eL_255, ltL_255, gtL_255, leL_255, geL_255, eL_256, ltL_256, gtL_256, leL_256, geL_256, eL_400, ltL_400, gtL_400, leL_400, geL_400, eL_9999, ltL_9999, gtL_9999, leL_9999, geL_9999, eL_20000, ltL_20000, gtL_20000, leL_20000, geL_20000, iL_0, tL_0, iL_1, tL_1, iL_2, tL_2, iL_3, tL_3, iL_4, tL_4, iL_5, tL_5, iL_6, tL_6, iL_7, tL_7, c_inT]
  exact k _ (((((((h.wN 12 n x (by decide)).wN 11 n 1 (by decide)).wN 16 f 1 (by decide)).wN 17 f n (by decide)).wN 18 f md (by decide)).wN 19 f 0 (by decide)).wN 20 f 0 (by decide))
theorem w_opened_loop {m : Mm} {a : Nat} {B : Nat → Nat} {Z : Mm → Prop} {σ : Sg} (h : RZ Z m a B σ) (hI : Inv σ) {n md : Nat} (hn : n ≤ 9) (hm : md ≤ 2) {P : Int32 → Mm → Prop} (k1 : cnH σ n md 6 = false → P (-3) m) (k2 : cnH σ n md 6 = true → frH σ 6 = 0 → P (-4) m) (k3 : cnH σ n md 6 = true → frH σ 6 ≠ 0 → ∀ m', RZ Z m' a B (opnd σ n md (frH σ 6)) → P (nI (frH σ 6)) m') : ∀ r c, r + c = 6 → ∃ f, wp_Mo_opened_50 P f m a (nI n) (nI md) (bI (cnH σ n md c)) (oI (frH σ c)) (nI (7 - c)) := by
  have hth := hI.there n
  have hln := hI.len n
  have r11 : gR m 11 11 a = B 11 := (h.2.1 11 (by decide)).1
  have t11 : tg m (B 11) = 36 := (h.2.1 11 (by decide)).2.1
  have l11 : ln m (B 11) = 10 := (h.2.1 11 (by decide)).2.2
  have n11 : ∀ i, i < 10 → aI m 36 (B 11) i = nI (fN σ 11 i) := h.2.2.2.2.1 11 (by decide)
  have r12 : gR m 11 12 a = B 12 := (h.2.1 12 (by decide)).1
  have t12 : tg m (B 12) = 37 := (h.2.1 12 (by decide)).2.1
  have l12 : ln m (B 12) = 10 := (h.2.1 12 (by decide)).2.2
  have n12 : ∀ i, i < 10 → aI m 37 (B 12) i = nI (fN σ 12 i) := h.2.2.2.2.1 12 (by decide)
  have r16 : gR m 11 16 a = B 16 := (h.2.1 16 (by decide)).1
  have t16 : tg m (B 16) = 40 := (h.2.1 16 (by decide)).2.1
  have l16 : ln m (B 16) = 8 := (h.2.1 16 (by decide)).2.2
  have n16 : ∀ i, i < 8 → aI m 40 (B 16) i = nI (fN σ 16 i) := h.2.2.2.2.1 16 (by decide)
  intro r
  induction r with
  | zero =>
    intro c hc
    obtain rfl : c = 6 := by omega
    refine ⟨1, ?_⟩
    unfold wp_Mo_opened_50
    refine ⟨fun _ => ?_, fun z => absurd (by decide) z⟩
    obtain ⟨g1, g2⟩ := frH_le σ 6 (by decide)
    cases hcn : cnH σ n md 6 with
    | false => exact ⟨fun _ => k1 hcn, fun z => absurd rfl z⟩
    | true =>
      refine ⟨fun z => absurd z (by decide), fun _ => ?_⟩
      by_cases hf : frH σ 6 = 0
      · rw [hf]
        exact ⟨fun z => absurd z (by decide), fun _ => k2 hcn hf⟩
      · have e : oI (frH σ 6) = nI (frH σ 6) := if_neg hf
        rw [e]
        refine ⟨fun _ => ?_, fun z => absurd (nI_pos' (by omega)) z⟩
        unfold wp_Mo_opened_160
        simp (disch := omega) only [forall_eq, tg_sI, gI_sI, gR_sI, aI_sI, aR_sI, ln_sI, tg_sR, gI_sR, gR_sR, aI_sR, aR_sR, ln_sR, tg_wI, gI_wI, gR_wI, aI_wI, aR_wI, ln_wI, tg_wR, gI_wR, gR_wR, aI_wR, aR_wR, ln_wR, tg_wC, gI_wC, gR_wC, aI_wC, aR_wC, ln_wC, tg_nO, gI_nO, gR_nO, aI_nO, aR_nO, ln_nO, tg_nA, gI_nA, gR_nA, aI_nA, aR_nA, ln_nA, Nat.reduceEqDiff, reduceCtorEq, false_and, true_and, and_true, and_false, and_self, if_true, if_false, ↓reduceIte, forall_const, true_implies, imp_self, not_true, not_false_eq_true, implies_true, not_false, eq_self, Nat.reduceLT, Nat.reduceLeDiff, h.1, r11, t11, l11, n11, r12, t12, l12, n12, c_mul2, c_mul3, c_mul6, c_mul10, c_mul40, c_mul100, c_mul200, c_add2, c_add3, c_add4, c_add5, nI_1, nI_add, nI_clamp, c_sub1, c_eq, c_le, c_lt, zz, nb0, nb1, eL_0, ltL_0, gtL_0, leL_0, geL_0, eL_1, ltL_1, gtL_1, leL_1, geL_1, eL_2, ltL_2, gtL_2, leL_2, geL_2, eL_3, ltL_3, gtL_3, leL_3, geL_3, eL_4, ltL_4, gtL_4, leL_4, geL_4, eL_5, ltL_5, gtL_5, leL_5, geL_5, eL_6, ltL_6, gtL_6, leL_6, geL_6, eL_7, ltL_7, gtL_7, leL_7, geL_7, eL_8, ltL_8, gtL_8, leL_8, geL_8, eL_9, ltL_9, gtL_9, leL_9, geL_9, eL_10, ltL_10, gtL_10, leL_10, geL_10, eL_16, ltL_16, gtL_16, leL_16, geL_16, eL_20, ltL_20, gtL_20, leL_20, geL_20, eL_32, ltL_32, gtL_32, leL_32, geL_32, eL_40, ltL_40, gtL_40, leL_40, geL_40, eL_100, ltL_100, gtL_100, leL_100, geL_100, eL_200, ltL_200, gtL_200, leL_200, geL_200, eL_255, ltL_255, gtL_255, leL_255, geL_255, eL_256, ltL_256, gtL_256, leL_256, geL_256, eL_400, ltL_400, gtL_400, leL_400, geL_400, eL_9999, ltL_9999, gtL_9999, leL_9999, geL_9999, eL_20000, ltL_20000, gtL_20000, leL_20000, geL_20000, iL_0, tL_0, iL_1, tL_1, iL_2, tL_2, iL_3, tL_3, iL_4, tL_4, iL_5, tL_5, iL_6, tL_6, iL_7, tL_7, c_inT]
        refine ⟨fun z => ?_, fun z => ⟨fun z1 => ?_, fun z1 => ?_⟩⟩
        · exact w_opened_170 (x := 0) h hI hn hm g1 (by rw [if_pos (Or.inl z)]) (k3 hcn hf)
        · exact w_opened_170 (x := 0) h hI hn hm g1 (by rw [if_pos (Or.inr z1)]) (k3 hcn hf)
        · exact w_opened_170 h hI hn hm g1 (by rw [if_neg (fun q => q.elim z z1)]) (k3 hcn hf)
  | succ r ih =>
    intro c hc
    obtain ⟨f, hw⟩ := ih (c + 1) (by omega)
    refine ⟨f + 1, ?_⟩
    have ho := hI.opn (7 - c)
    unfold wp_Mo_opened_50
    refine ⟨fun z => absurd z (by rw [leL_1 (by omega)]; omega), fun _ => ?_⟩
    have e1 : nI (7 - (c + 1)) = nI (7 - c) + -1 := by
      rw [show 7 - c = (7 - (c + 1)) + 1 by omega, pk_m1]
    rw [e1] at hw
    simp only [cnH, frH] at hw
    simp (disch := omega) only [forall_eq, tg_sI, gI_sI, gR_sI, aI_sI, aR_sI, ln_sI, tg_sR, gI_sR, gR_sR, aI_sR, aR_sR, ln_sR, tg_wI, gI_wI, gR_wI, aI_wI, aR_wI, ln_wI, tg_wR, gI_wR, gR_wR, aI_wR, aR_wR, ln_wR, tg_wC, gI_wC, gR_wC, aI_wC, aR_wC, ln_wC, tg_nO, gI_nO, gR_nO, aI_nO, aR_nO, ln_nO, tg_nA, gI_nA, gR_nA, aI_nA, aR_nA, ln_nA, Nat.reduceEqDiff, reduceCtorEq, false_and, true_and, and_true, and_false, and_self, if_true, if_false, ↓reduceIte, forall_const, true_implies, imp_self, not_true, not_false_eq_true, implies_true, not_false, eq_self, Nat.reduceLT, Nat.reduceLeDiff, h.1, r16, t16, l16, n16, c_mul2, c_mul3, c_mul6, c_mul10, c_mul40, c_mul100, c_mul200, c_add2, c_add3, c_add4, c_add5, nI_1, nI_add, nI_clamp, c_sub1, c_eq, c_le, c_lt, zz, nb0, nb1, eL_0, ltL_0, gtL_0, leL_0, geL_0, eL_1, ltL_1, gtL_1, leL_1, geL_1, eL_2, ltL_2, gtL_2, leL_2, geL_2, eL_3, ltL_3, gtL_3, leL_3, geL_3, eL_4, ltL_4, gtL_4, leL_4, geL_4, eL_5, ltL_5, gtL_5, leL_5, geL_5, eL_6, ltL_6, gtL_6, leL_6, geL_6, eL_7, ltL_7, gtL_7, leL_7, geL_7, eL_8, ltL_8, gtL_8, leL_8, geL_8, eL_9, ltL_9, gtL_9, leL_9, geL_9, eL_10, ltL_10, gtL_10, leL_10, geL_10, eL_16, ltL_16, gtL_16, leL_16, geL_16, eL_20, ltL_20, gtL_20, leL_20, geL_20, eL_32, ltL_32, gtL_32, leL_32, geL_32, eL_40, ltL_40, gtL_40, leL_40, geL_40, eL_100, ltL_100, gtL_100, leL_100, geL_100, eL_200, ltL_200, gtL_200, leL_200, geL_200, eL_255, ltL_255, gtL_255, leL_255, geL_255, eL_256, ltL_256, gtL_256, leL_256, geL_256, eL_400, ltL_400, gtL_400, leL_400, geL_400, eL_9999, ltL_9999, gtL_9999, leL_9999, geL_9999, eL_20000, ltL_20000, gtL_20000, leL_20000, geL_20000, iL_0, tL_0, iL_1, tL_1, iL_2, tL_2, iL_3, tL_3, iL_4, tL_4, iL_5, tL_5, iL_6, tL_6, iL_7, tL_7, c_inT]
    refine ⟨fun z => ?_, fun z => ?_⟩
    · rw [if_pos z] at hw
      have e2 : oI (7 - c) = nI (7 - c) := if_neg (by omega)
      rw [e2] at hw
      exact w_opened_73 h hI hn hm (by omega) hw
    · rw [if_neg z] at hw
      exact w_opened_73 h hI hn hm (by omega) hw

theorem w_opened {m : Mm} {a : Nat} {B : Nat → Nat} {Z : Mm → Prop} {σ : Sg} (h : RZ Z m a B σ) (hI : Inv σ) {n md : Int32} {P : Int32 → Mm → Prop} (k : ∀ m', RZ Z m' a B (spOpened σ n md).2 → P (spOpened σ n md).1 m') : wp_Mo_opened m a n md P := by
  unfold wp_Mo_opened wp_Mo_opened_0
  unfold spOpened at k
  refine w_in (fun q => ?_) (fun q1 q2 => ?_)
  · rw [if_pos q] at k
    exact ⟨fun _ => k m h, fun z => absurd rfl z⟩
  · rw [if_neg (by rintro (z | z); exact q1 z; exact q2 z)] at k
    refine ⟨fun z => absurd z (by decide), fun _ => w_in (fun q => ?_) (fun q3 q4 => ?_)⟩
    · rw [if_pos q] at k
      exact ⟨fun _ => k m h, fun z => absurd rfl z⟩
    · rw [if_neg (by rintro (z | z); exact q3 z; exact q4 z)] at k
      refine ⟨fun z => absurd z (by decide), fun _ => ?_⟩
      obtain ⟨i, hi, rfl⟩ := ix_of (n := 9) rfl q1 q2
      obtain ⟨j, hj, rfl⟩ := ix_of (n := 2) rfl q3 q4
      rw [nI_clamp (by omega), nI_clamp (by omega)] at k
      obtain ⟨f, hw⟩ := w_opened_loop (P := P) h hI hi hj (fun e => by rw [if_pos e] at k; exact k m h) (fun e e2 => by rw [if_neg (by rw [e]; decide), if_pos e2] at k; exact k m h) (fun e e2 => by rw [if_neg (by rw [e]; decide), if_neg e2] at k; exact k) 6 0 rfl
      have ht := hI.there i
      have r11 : gR m 11 11 a = B 11 := (h.2.1 11 (by decide)).1
      have t11 : tg m (B 11) = 36 := (h.2.1 11 (by decide)).2.1
      have l11 : ln m (B 11) = 10 := (h.2.1 11 (by decide)).2.2
      have n11 : ∀ i, i < 10 → aI m 36 (B 11) i = nI (fN σ 11 i) := h.2.2.2.2.1 11 (by decide)
      unfold wp_Mo_opened_37 wp_Mo_opened_42
      simp (disch := omega) only [forall_eq, tg_sI, gI_sI, gR_sI, aI_sI, aR_sI, ln_sI, tg_sR, gI_sR, gR_sR, aI_sR, aR_sR, ln_sR, tg_wI, gI_wI, gR_wI, aI_wI, aR_wI, ln_wI, tg_wR, gI_wR, gR_wR, aI_wR, aR_wR, ln_wR, tg_wC, gI_wC, gR_wC, aI_wC, aR_wC, ln_wC, tg_nO, gI_nO, gR_nO, aI_nO, aR_nO, ln_nO, tg_nA, gI_nA, gR_nA, aI_nA, aR_nA, ln_nA, Nat.reduceEqDiff, reduceCtorEq, false_and, true_and, and_true, and_false, and_self, if_true, if_false, ↓reduceIte, forall_const, true_implies, imp_self, not_true, not_false_eq_true, implies_true, not_false, eq_self, Nat.reduceLT, Nat.reduceLeDiff, h.1, r11, t11, l11, n11, c_mul2, c_mul3, c_mul6, c_mul10, c_mul40, c_mul100, c_mul200, c_add2, c_add3, c_add4, c_add5, nI_1, nI_add, nI_clamp, c_sub1, c_eq, c_le, c_lt, zz, nb0, nb1, eL_0, ltL_0, gtL_0, leL_0, geL_0, eL_1, ltL_1, gtL_1, leL_1, geL_1, eL_2, ltL_2, gtL_2, leL_2, geL_2, eL_3, ltL_3, gtL_3, leL_3, geL_3, eL_4, ltL_4, gtL_4, leL_4, geL_4, eL_5, ltL_5, gtL_5, leL_5, geL_5, eL_6, ltL_6, gtL_6, leL_6, geL_6, eL_7, ltL_7, gtL_7, leL_7, geL_7, eL_8, ltL_8, gtL_8, leL_8, geL_8, eL_9, ltL_9, gtL_9, leL_9, geL_9, eL_10, ltL_10, gtL_10, leL_10, geL_10, eL_16, ltL_16, gtL_16, leL_16, geL_16, eL_20, ltL_20, gtL_20, leL_20, geL_20, eL_32, ltL_32, gtL_32, leL_32, geL_32, eL_40, ltL_40, gtL_40, leL_40, geL_40, eL_100, ltL_100, gtL_100, leL_100, geL_100, eL_200, ltL_200, gtL_200, leL_200, geL_200, eL_255, ltL_255, gtL_255, leL_255, geL_255, eL_256, ltL_256, gtL_256, leL_256, geL_256, eL_400, ltL_400, gtL_400, leL_400, geL_400, eL_9999, ltL_9999, gtL_9999, leL_9999, geL_9999, eL_20000, ltL_20000, gtL_20000, leL_20000, geL_20000, iL_0, tL_0, iL_1, tL_1, iL_2, tL_2, iL_3, tL_3, iL_4, tL_4, iL_5, tL_5, iL_6, tL_6, iL_7, tL_7, c_inT]
      refine ⟨fun z => ⟨f, ?_⟩, fun z => ⟨fun z1 => ⟨f, ?_⟩, fun z1 => ⟨f, ?_⟩⟩⟩
      · rw [show cnH σ i j 0 = true from decide_eq_true (Or.inl z)] at hw; exact hw
      · rw [show cnH σ i j 0 = false from decide_eq_false (fun q => q.elim z (fun q => q z1))] at hw; exact hw
      · rw [show cnH σ i j 0 = true from decide_eq_true (Or.inr z1)] at hw; exact hw
theorem w_file {m : Mm} {a : Nat} {B : Nat → Nat} {Z : Mm → Prop} {σ : Sg} (h : RZ Z m a B σ) (hI : Inv σ) {n md : Int32} {P : Int32 → Mm → Prop} (k : ∀ m', RZ Z m' a B (spOpened σ n md).2 → P (spOpened σ n md).1 m') : wp_Mo_file m a n md P := by
  unfold wp_Mo_file wp_Mo_file_0
  refine ⟨h.1, fun m1 e1 => ?_⟩
  subst e1
  replace h := h.code 0
  generalize sI m 11 0 a 0 = m at h ⊢
  exact ⟨h.1, w_opened h hI k⟩
theorem w_write {m : Mm} {a : Nat} {B : Nat → Nat} {Z : Mm → Prop} {σ : Sg} (h : RZ Z m a B σ) (hI : Inv σ) {n md : Int32} {P : Int32 → Mm → Prop} (k : ∀ m', RZ Z m' a B (spWritten σ n md).2 → P (spWritten σ n md).1 m') : wp_Mo_write m a n md P := by
  unfold wp_Mo_write wp_Mo_write_0
  refine ⟨h.1, fun m1 e1 => ?_⟩
  subst e1
  replace h := h.code 0
  generalize sI m 11 0 a 0 = m at h ⊢
  exact ⟨h.1, w_written h hI k⟩
theorem w_read {m : Mm} {a : Nat} {B : Nat → Nat} {Z : Mm → Prop} {σ : Sg} (h : RZ Z m a B σ) (hI : Inv σ) {n : Int32} {P : Int32 → Mm → Prop} (k : ∀ m', RZ Z m' a B (spTaken σ n).2 → P (spTaken σ n).1 m') : wp_Mo_read m a n P := by
  unfold wp_Mo_read wp_Mo_read_0
  refine ⟨h.1, fun m1 e1 => ?_⟩
  subst e1
  replace h := h.code 0
  generalize sI m 11 0 a 0 = m at h ⊢
  exact ⟨h.1, w_taken h hI k⟩
theorem w_filter {m : Mm} {a : Nat} {B : Nat → Nat} {Z : Mm → Prop} {σ : Sg} (h : RZ Z m a B σ) (hI : Inv σ) {n md : Int32} {P : Int32 → Mm → Prop} (k : ∀ m', RZ Z m' a B (spFiltered σ n md).2 → P (spFiltered σ n md).1 m') : wp_Mo_filter m a n md P := by
  unfold wp_Mo_filter wp_Mo_filter_0
  refine ⟨h.1, fun m1 e1 => ?_⟩
  subst e1
  replace h := h.code 0
  generalize sI m 11 0 a 0 = m at h ⊢
  exact ⟨h.1, w_filtered h hI k⟩
