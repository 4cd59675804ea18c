/-! files, handles, filters -/
def hx (σ : Sg) (v : Int32) : Option Nat := if v < 1 ∨ 7 < v then none else if fN σ 16 v.toNatClampNeg = 0 then none else some v.toNatClampNeg
theorem hx_some {σ : Sg} {h : Nat} (h1 : 1 ≤ h) (h2 : h ≤ 7) (h3 : fN σ 16 h ≠ 0) : hx σ (nI h) = some h := by
  unfold hx
  rw [if_neg (by rw [ltL_1 (by omega), gtL_7 (by omega)]; omega), nI_clamp (by omega), if_neg h3]
theorem w_isOpen {m : Mm} {a : Nat} {B : Nat → Nat} {Z : Mm → Prop} {σ : Sg} (h : RZ Z m a B σ) {v : Int32} {P : Int32 → Mm → Prop} (hI : Inv σ) (hn : hx σ v = none → P 0 m) (hy : ∀ i : Nat, 1 ≤ i → i ≤ 7 → fN σ 16 i = 1 → v = nI i → hx σ v = some i → P 1 m) : wp_Mo_isOpen m a v P := by
  unfold wp_Mo_isOpen wp_Mo_isOpen_0
  refine w_in (fun q => ⟨fun _ => hn (if_pos q), fun z => absurd rfl z⟩) (fun q1 q2 => ⟨fun z => absurd z (by decide), fun _ => ?_⟩)
  obtain ⟨i, hi, rfl⟩ := ix_of (n := 7) rfl (fun z => q1 (by simp only [Int32.lt_iff_toInt_lt, Int32.toInt_zero, show (1 : Int32).toInt = 1 from rfl] at *; omega)) q2
  rw [ltL_1 (by omega)] at q1
  have ho := hI.opn i
  have r16 : gR m 11 16 a = B 16 := (h.2.1 16 (by decide)).1
  have t16 : tg m (B 16) = 40 := (h.2.1 16 (by decide)).2.1
  have l16 : ln m (B 16) = 8 := (h.2.1 16 (by decide)).2.2
  have n16 : ∀ i, i < 8 → aI m 40 (B 16) i = nI (fN σ 16 i) := h.2.2.2.2.1 16 (by decide)
  simp (disch := omega) only [forall_eq, tg_sI, gI_sI, gR_sI, aI_sI, aR_sI, ln_sI, tg_sR, gI_sR, gR_sR, aI_sR, aR_sR, ln_sR, tg_wI, gI_wI, gR_wI, aI_wI, aR_wI, ln_wI, tg_wR, gI_wR, gR_wR, aI_wR, aR_wR, ln_wR, tg_wC, gI_wC, gR_wC, aI_wC, aR_wC, ln_wC, tg_nO, gI_nO, gR_nO, aI_nO, aR_nO, ln_nO, tg_nA, gI_nA, gR_nA, aI_nA, aR_nA, ln_nA, Nat.reduceEqDiff, reduceCtorEq, false_and, true_and, and_true, and_false, and_self, if_true, if_false, ↓reduceIte, forall_const, true_implies, imp_self, not_true, not_false_eq_true, implies_true, not_false, eq_self, Nat.reduceLT, Nat.reduceLeDiff, h.1, r16, t16, l16, n16, c_mul2, c_mul3, c_mul6, c_mul10, c_mul40, c_mul100, c_mul200, c_add2, c_add3, c_add4, c_add5, nI_1, nI_add, nI_clamp, c_sub1, c_eq, c_le, c_lt, zz, nb0, nb1, eL_0, ltL_0, gtL_0, leL_0, geL_0, eL_1, ltL_1, gtL_1, leL_1, geL_1, eL_2, ltL_2, gtL_2, leL_2, geL_2, eL_3, ltL_3, gtL_3, leL_3, geL_3, eL_4, ltL_4, gtL_4, leL_4, geL_4, eL_5, ltL_5, gtL_5, leL_5, geL_5, eL_6, ltL_6, gtL_6, leL_6, geL_6, eL_7, ltL_7, gtL_7, leL_7, geL_7, eL_8, ltL_8, gtL_8, leL_8, geL_8, eL_9, ltL_9, gtL_9, leL_9, geL_9, eL_10, ltL_10, gtL_10, leL_10, geL_10, eL_16, ltL_16, gtL_16, leL_16, geL_16, eL_20, ltL_20, gtL_20, leL_20, geL_20, eL_32, ltL_32, gtL_32, leL_32, geL_32, eL_40, ltL_40, gtL_40, leL_40, geL_40, eL_100, ltL_100, gtL_100, leL_100, geL_100, eL_200, ltL_200, gtL_200, leL_200, geL_200, eL_255, ltL_255, gtL_255, leL_255, geL_255, eL_256, ltL_256, gtL_256, leL_256, geL_256, eL_400, ltL_400, gtL_400, leL_400, geL_400, eL_9999, ltL_9999, gtL_9999, leL_9999, geL_9999, eL_20000, ltL_20000, gtL_20000, leL_20000, geL_20000, iL_0, tL_0, iL_1, tL_1, iL_2, tL_2, iL_3, tL_3, iL_4, tL_4, iL_5, tL_5, iL_6, tL_6, iL_7, tL_7, c_inT]
  refine ⟨fun z => hn ?_, fun z => hy i (by omega) hi (by omega) rfl (hx_some (by omega) hi z)⟩
  unfold hx
  rw [if_neg (by rw [ltL_1 (by omega), gtL_7 (by omega)]; omega), nI_clamp (by omega), if_pos z]
def fwN (k n : Nat) : Nat := if k = 1 then 255 - n else if k = 2 then n % 16 * 16 + n / 16 else (n + 1) % 256
def frN (k n : Nat) : Nat := if k = 1 then 255 - n else if k = 2 then n % 16 * 16 + n / 16 else (n + 255) % 256
theorem fwN_lt {k n : Nat} (h : n < 256) : fwN k n < 256 := by unfold fwN; split; omega; split <;> omega
theorem frN_lt {k n : Nat} (h : n < 256) : frN k n < 256 := by unfold frN; split; omega; split <;> omega
theorem e_turn : ∀ n, n < 256 → (255 : Int32) - nI n = nI (255 - n) := by decide +kernel
theorem e_half : ∀ n, n < 256 → ((nI n >>> ((4 : Int32) &&& 31)) ||| ((nI n - nI n / 16 * 16) <<< ((4 : Int32) &&& 31))) = nI (n % 16 * 16 + n / 16) := by decide +kernel
theorem e_one : ∀ n, n < 256 → (nI n + 1) - (nI n + 1) / 256 * 256 = nI ((n + 1) % 256) := by decide +kernel
theorem e_less : ∀ n, n < 256 → (nI n + 255) - (nI n + 255) / 256 * 256 = nI ((n + 255) % 256) := by decide +kernel
def by8 (x : Int32) : Nat := x.toBitVec.toNat % 256
theorem by8_lt (x : Int32) : by8 x < 256 := Nat.mod_lt _ (by decide)
theorem by8_eq (x : Int32) : x &&& 255 = nI (by8 x) := pk_and x 8 rfl
theorem w_half {m : Mm} {n : Nat} (hn : n < 256) {P : Int32 → Mm → Prop} (k : P (nI (n % 16 * 16 + n / 16)) m) : wp_Mo_half m (nI n) P := by
  unfold wp_Mo_half wp_Mo_half_0
  intro x1 e1 x2 e2 x3 e3 x4 e4
  subst e4 e3 e2 e1
  rw [e_half n hn]; exact k
/-- what is written goes through the filters from the last to the first -/
def wfl (σ : Sg) (h : Nat) : Nat → Nat → Nat
  | 0, v => v
  | i + 1, v => wfl σ h i (fwN (fN σ 21 (3 * h + i)) v)
theorem wfl_lt (σ : Sg) (h : Nat) : ∀ i v, v < 256 → wfl σ h i v < 256
  | 0, _, hv => hv
  | i + 1, _, hv => wfl_lt σ h i _ (fwN_lt hv)
def tfl (σ : Sg) (h : Nat) : Nat → Nat → Nat → Nat
  | 0, _, v => v
  | c + 1, i, v => tfl σ h c (i + 1) (frN (fN σ 21 (3 * h + i)) v)
theorem tfl_lt (σ : Sg) (h : Nat) : ∀ c i v, v < 256 → tfl σ h c i v < 256
  | 0, _, _, hv => hv
  | c + 1, _, _, hv => tfl_lt σ h c _ _ (frN_lt hv)
def by1 (n : Nat) : Int32 := (nI n).toInt8.toInt32.toInt8.toInt32
def spWritten (σ : Sg) (v x : Int32) : Int32 × Sg := match hx σ v with
  | none => (-1, σ)
  | some h => if fN σ 18 h = 0 then (-3, σ) else if h = 1 then (if fF σ 15 = 400 then (-4, σ) else (1, uF (uD σ 14 (fF σ 15) (by1 (wfl σ h (fN σ 20 h) (by8 x)))) 15 (fF σ 15 + 1)))
      else (if fN σ 12 (fN σ 17 h) = 100 then (-4, σ) else (1, uN (uD σ 13 (100 * fN σ 17 h + fN σ 12 (fN σ 17 h)) (by1 (wfl σ h (fN σ 20 h) (by8 x)))) 12 (fN σ 17 h) (fN σ 12 (fN σ 17 h) + 1)))

theorem w_written_loop {m : Mm} {a : Nat} {B : Nat → Nat} {Z : Mm → Prop} {σ : Sg} (h : RZ Z m a B σ) (hI : Inv σ) {i : Nat} (i1 : 1 ≤ i) (i2 : i ≤ 7) {P : Int32 → Mm → Prop} (hn : i = 1 → fF σ 15 < 400) (hn2 : i ≠ 1 → fN σ 12 (fN σ 17 i) < 100) : ∀ (c v : Nat), c ≤ fN σ 20 i → v < 256 → (∀ m', RZ Z m' a B (if i = 1 then uF (uD σ 14 (fF σ 15) (by1 (wfl σ i c v))) 15 (fF σ 15 + 1) else uN (uD σ 13 (100 * fN σ 17 i + fN σ 12 (fN σ 17 i)) (by1 (wfl σ i c v))) 12 (fN σ 17 i) (fN σ 12 (fN σ 17 i) + 1)) → P 1 m') → ∃ n, wp_Mo_written_75 P n m a (nI i) (nI v) (nI c - 1) := by
  have hf := hI.flt i
  have hnm := hI.name i
  have hln := hI.len (fN σ 17 i)
  have ho := hI.out
  have r12 : gR m 11 12 a = B 12 := (h.2.1 12 (by decide)).1
  have t12 : tg m (B 12) = 37 := (h.2.1 12 (by decide)).2.1
  have l12 : ln m (B 12) = 10 := (h.2.1 12 (by decide)).2.2
  have n12 : ∀ i, i < 10 → aI m 37 (B 12) i = nI (fN σ 12 i) := h.2.2.2.2.1 12 (by decide)
  have r13 : gR m 11 13 a = B 13 := (h.2.1 13 (by decide)).1
  have t13 : tg m (B 13) = 38 := (h.2.1 13 (by decide)).2.1
  have l13 : ln m (B 13) = 1000 := (h.2.1 13 (by decide)).2.2
  have n13 : ∀ i, i < 1000 → aI m 38 (B 13) i = fD σ 13 i := h.2.2.2.2.2.1 13 (by decide)
  have r14 : gR m 11 14 a = B 14 := (h.2.1 14 (by decide)).1
  have t14 : tg m (B 14) = 39 := (h.2.1 14 (by decide)).2.1
  have l14 : ln m (B 14) = 400 := (h.2.1 14 (by decide)).2.2
  have n14 : ∀ i, i < 400 → aI m 39 (B 14) i = fD σ 14 i := h.2.2.2.2.2.1 14 (by decide)
  have f15 : gI m 11 15 a = nI (fF σ 15) := h.2.2.1 15 (by decide)
  have r17 : gR m 11 17 a = B 17 := (h.2.1 17 (by decide)).1
  have t17 : tg m (B 17) = 41 := (h.2.1 17 (by decide)).2.1
  have l17 : ln m (B 17) = 8 := (h.2.1 17 (by decide)).2.2
  have n17 : ∀ i, i < 8 → aI m 41 (B 17) i = nI (fN σ 17 i) := h.2.2.2.2.1 17 (by decide)
  have r20 : gR m 11 20 a = B 20 := (h.2.1 20 (by decide)).1
  have t20 : tg m (B 20) = 44 := (h.2.1 20 (by decide)).2.1
  have l20 : ln m (B 20) = 8 := (h.2.1 20 (by decide)).2.2
  have n20 : ∀ i, i < 8 → aI m 44 (B 20) i = nI (fN σ 20 i) := h.2.2.2.2.1 20 (by decide)
  have r21 : gR m 11 21 a = B 21 := (h.2.1 21 (by decide)).1
  have t21 : tg m (B 21) = 45 := (h.2.1 21 (by decide)).2.1
  have l21 : ln m (B 21) = 24 := (h.2.1 21 (by decide)).2.2
  have n21 : ∀ i, i < 24 → aI m 45 (B 21) i = nI (fN σ 21 i) := h.2.2.2.2.1 21 (by decide)
  intro c
  induction c with
  | zero =>
    intro v hc hv k
    refine ⟨1, ?_⟩
    unfold wp_Mo_written_75
    refine ⟨fun _ => ?_, fun z => absurd (show nI 0 - 1 < 0 by decide) z⟩
    refine ⟨fun e => ?_, fun e => ?_⟩
    · rw [eL_1 (by omega)] at e
      rw [if_pos e] at k
      have := hn e
      simp (disch := omega) only [forall_eq, tg_sI, gI_sI, gR_sI, aI_sI, aR_sI, ln_sI, tg_sR, gI_sR, gR_sR, aI_sR, aR_sR, ln_sR, tg_wI, gI_wI, gR_wI, aI_wI, aR_wI, ln_wI, tg_wR, gI_wR, gR_wR, aI_wR, aR_wR, ln_wR, tg_wC, gI_wC, gR_wC, aI_wC, aR_wC, ln_wC, tg_nO, gI_nO, gR_nO, aI_nO, aR_nO, ln_nO, tg_nA, gI_nA, gR_nA, aI_nA, aR_nA, ln_nA, Nat.reduceEqDiff, reduceCtorEq, false_and, true_and, and_true, and_false, and_self, if_true, if_false, ↓reduceIte, forall_const, true_implies, imp_self, not_true, not_false_eq_true, implies_true, not_false, eq_self, Nat.reduceLT, Nat.reduceLeDiff, h.1, r12, t12, l12, n12, r13, t13, l13, n13, r14, t14, l14, n14, f15, r17, t17, l17, n17, r20, t20, l20, n20, r21, t21, l21, n21, c_mul2, c_mul3, c_mul6, c_mul10, c_mul40, c_mul100, c_mul200, c_add2, c_add3, c_add4, c_add5, nI_1, nI_add, nI_clamp, c_sub1, c_eq, c_le, c_lt, zz, nb0, nb1, eL_0, ltL_0, gtL_0, leL_0, geL_0, eL_1, ltL_1, gtL_1, leL_1, geL_1, eL_2, ltL_2, gtL_2, leL_2, geL_2, eL_3, ltL_3, gtL_3, leL_3, geL_3, eL_4, ltL_4, gtL_4, leL_4, geL_4, eL_5, ltL_5, gtL_5, leL_5, geL_5, eL_6, ltL_6, gtL_6, leL_6, geL_6, eL_7, ltL_7, gtL_7, leL_7, geL_7, eL_8, ltL_8, gtL_8, leL_8, geL_8, eL_9, ltL_9, gtL_9, leL_9, geL_9, eL_10, ltL_10, gtL_10, leL_10, geL_10, eL_16, ltL_16, gtL_16, leL_16, geL_16, eL_20, ltL_20, gtL_20, leL_20, geL_20, eL_32, ltL_32, gtL_32, leL_32, geL_32, eL_40, ltL_40, gtL_40, leL_40, geL_40, eL_100, ltL_100, gtL_100, leL_100, geL_100, eL_200, ltL_200, gtL_200, leL_200, geL_200, eL_255, ltL_255, gtL_255, leL_255, geL_255, eL_256, ltL_256, gtL_256, leL_256, geL_256, eL_400, ltL_400, gtL_400, leL_400, geL_400, eL_9999, ltL_9999, gtL_9999, leL_9999, geL_9999, eL_20000, ltL_20000, gtL_20000, leL_20000, geL_20000, iL_0, tL_0, iL_1, tL_1, iL_2, tL_2, iL_3, tL_3, iL_4, tL_4, iL_5, tL_5, iL_6, tL_6, iL_7, tL_7, c_inT]
      exact k _ ((h.wD 14 _ _ (by decide)).sF 15 _ (by decide))
    · rw [eL_1 (by omega)] at e
      rw [if_neg e] at k
      have := hn2 e
      simp (disch := omega) only [forall_eq, tg_sI, gI_sI, gR_sI, aI_sI, aR_sI, ln_sI, tg_sR, gI_sR, gR_sR, aI_sR, aR_sR, ln_sR, tg_wI, gI_wI, gR_wI, aI_wI, aR_wI, ln_wI, tg_wR, gI_wR, gR_wR, aI_wR, aR_wR, ln_wR, tg_wC, gI_wC, gR_wC, aI_wC, aR_wC, ln_wC, tg_nO, gI_nO, gR_nO, aI_nO, aR_nO, ln_nO, tg_nA, gI_nA, gR_nA, aI_nA, aR_nA, ln_nA, Nat.reduceEqDiff, reduceCtorEq, false_and, true_and, and_true, and_false, and_self, if_true, if_false, ↓reduceIte, forall_const, true_implies, imp_self, not_true, not_false_eq_true, implies_true, not_false, eq_self, Nat.reduceLT, Nat.reduceLeDiff, h.1, r12, t12, l12, n12, r13, t13, l13, n13, r14, t14, l14, n14, f15, r17, t17, l17, n17, r20, t20, l20, n20, r21, t21, l21, n21, c_mul2, c_mul3, c_mul6, c_mul10, c_mul40, c_mul100, c_mul200, c_add2, c_add3, c_add4, c_add5, nI_1, nI_add, nI_clamp, c_sub1, c_eq, c_le, c_lt, zz, nb0, nb1, eL_0, ltL_0, gtL_0, leL_0, geL_0, eL_1, ltL_1, gtL_1, leL_1, geL_1, eL_2, ltL_2, gtL_2, leL_2, geL_2, eL_3, ltL_3, gtL_3, leL_3, geL_3, eL_4, ltL_4, gtL_4, leL_4, geL_4, eL_5, ltL_5, gtL_5, leL_5, geL_5, eL_6, ltL_6, gtL_6, leL_6, geL_6, eL_7, ltL_7, gtL_7, leL_7, geL_7, eL_8, ltL_8, gtL_8, leL_8, geL_8, eL_9, ltL_9, gtL_9, leL_9, geL_9, eL_10, ltL_10, gtL_10, leL_10, geL_10, eL_16, ltL_16, gtL_16, leL_16, geL_16, eL_20, ltL_20, gtL_20, leL_20, geL_20, eL_32, ltL_32, gtL_32, leL_32, geL_32, eL_40, ltL_40, gtL_40, leL_40, geL_40, eL_100, ltL_100, gtL_100, leL_100, geL_100, eL_200, ltL_200, gtL_200, leL_200, geL_200, eL_255, ltL_255, gtL_255, leL_255, geL_255, eL_256, ltL_256, gtL_256, leL_256, geL_256, eL_400, ltL_400, gtL_400, leL_400, geL_400, eL_9999, ltL_9999, gtL_9999, leL_9999, geL_9999, eL_20000, ltL_20000, gtL_20000, leL_20000, geL_20000, iL_0, tL_0, iL_1, tL_1, iL_2, tL_2, iL_3, tL_3, iL_4, tL_4, iL_5, tL_5, iL_6, tL_6, iL_7, tL_7, c_inT]
      exact k _ ((h.wD 13 _ _ (by decide)).wN 12 _ _ (by decide))
  | succ c ih =>
    intro v hc hv k
    have hk := hI.knd (3 * i + c)
    obtain ⟨n, hw⟩ := ih (fwN (fN σ 21 (3 * i + c)) v) (by omega) (fwN_lt hv) k
    refine ⟨n + 1, ?_⟩
    unfold wp_Mo_written_75
    rw [nI_pred]
    refine ⟨fun z => absurd z (nI_pos (by omega)), fun _ => ?_⟩
    have e2 : nI c + -1 = nI c - 1 := by rw [Int32.sub_eq_add_neg]
    unfold wp_Mo_written_127
    simp (disch := omega) only [forall_eq, tg_sI, gI_sI, gR_sI, aI_sI, aR_sI, ln_sI, tg_sR, gI_sR, gR_sR, aI_sR, aR_sR, ln_sR, tg_wI, gI_wI, gR_wI, aI_wI, aR_wI, ln_wI, tg_wR, gI_wR, gR_wR, aI_wR, aR_wR, ln_wR, tg_wC, gI_wC, gR_wC, aI_wC, aR_wC, ln_wC, tg_nO, gI_nO, gR_nO, aI_nO, aR_nO, ln_nO, tg_nA, gI_nA, gR_nA, aI_nA, aR_nA, ln_nA, Nat.reduceEqDiff, reduceCtorEq, false_and, true_and, and_true, and_false, and_self, if_true, if_false, ↓reduceIte, forall_const, true_implies, imp_self, not_true, not_false_eq_true, implies_true, not_false, eq_self, Nat.reduceLT, Nat.reduceLeDiff, h.1, r12, t12, l12, n12, r13, t13, l13, n13, r14, t14, l14, n14, f15, r17, t17, l17, n17, r20, t20, l20, n20, r21, t21, l21, n21, c_mul2, c_mul3, c_mul6, c_mul10, c_mul40, c_mul100, c_mul200, c_add2, c_add3, c_add4, c_add5, nI_1, nI_add, nI_clamp, c_sub1, c_eq, c_le, c_lt, zz, nb0, nb1, eL_0, ltL_0, gtL_0, leL_0, geL_0, eL_1, ltL_1, gtL_1, leL_1, geL_1, eL_2, ltL_2, gtL_2, leL_2, geL_2, eL_3, ltL_3, gtL_3, leL_3, geL_3, eL_4, ltL_4, gtL_4, leL_4, geL_4, eL_5, ltL_5, gtL_5, leL_5, geL_5, eL_6, ltL_6, gtL_6, leL_6, geL_6, eL_7, ltL_7, gtL_7, leL_7, geL_7, eL_8, ltL_8, gtL_8, leL_8, geL_8, eL_9, ltL_9, gtL_9, leL_9, geL_9, eL_10, ltL_10, gtL_10, leL_10, geL_10, eL_16, ltL_16, gtL_16, leL_16, geL_16, eL_20, ltL_20, gtL_20, leL_20, geL_20, eL_32, ltL_32, gtL_32, leL_32, geL_32, eL_40, ltL_40, gtL_40, leL_40, geL_40, eL_100, ltL_100, gtL_100, leL_100, geL_100, eL_200, ltL_200, gtL_200, leL_200, geL_200, eL_255, ltL_255, gtL_255, leL_255, geL_255, eL_256, ltL_256, gtL_256, leL_256, geL_256, eL_400, ltL_400, gtL_400, leL_400, geL_400, eL_9999, ltL_9999, gtL_9999, leL_9999, geL_9999, eL_20000, ltL_20000, gtL_20000, leL_20000, geL_20000, iL_0, tL_0, iL_1, tL_1, iL_2, tL_2, iL_3, tL_3, iL_4, tL_4, iL_5, tL_5, iL_6, tL_6, iL_7, tL_7, c_inT]
    rw [e2]
    unfold fwN at hw
    refine ⟨fun z => ?_, fun z => ⟨fun z2 => w_half hv ?_, fun z2 => ?_⟩⟩
    · rw [if_pos z] at hw; rw [e_turn v hv]; exact hw
    · rw [if_neg z, if_pos z2] at hw; exact hw
    · rw [if_neg z, if_neg z2] at hw
      have e3 := e_one v hv
      rw [nI_1] at e3; rw [e3]; exact hw

theorem w_written {m : Mm} {a : Nat} {B : Nat → Nat} {Z : Mm → Prop} {σ : Sg} (h : RZ Z m a B σ) (hI : Inv σ) {v x : Int32} {P : Int32 → Mm → Prop} (k : ∀ m', RZ Z m' a B (spWritten σ v x).2 → P (spWritten σ v x).1 m') : wp_Mo_written m a v x P := by
  unfold wp_Mo_written wp_Mo_written_0 wp_Mo_written_59
  refine ⟨h.1, w_isOpen h hI (fun q => ?_) (fun i i1 i2 i3 i4 i5 => ?_)⟩
  · simp only [spWritten, q] at k
    exact ⟨fun _ => k m h, fun z => absurd rfl z⟩
  · refine ⟨fun z => absurd z (by decide), fun _ => ?_⟩
    simp only [spWritten, i5] at k
    subst i4
    have hm := hI.mode i
    have hf := hI.flt i
    have hnm := hI.name i
    have hln := hI.len (fN σ 17 i)
    have ho := hI.out
    have r12 : gR m 11 12 a = B 12 := (h.2.1 12 (by decide)).1
    have t12 : tg m (B 12) = 37 := (h.2.1 12 (by decide)).2.1
    have l12 : ln m (B 12) = 10 := (h.2.1 12 (by decide)).2.2
    have n12 : ∀ i, i < 10 → aI m 37 (B 12) i = nI (fN σ 12 i) := h.2.2.2.2.1 12 (by decide)
    have f15 : gI m 11 15 a = nI (fF σ 15) := h.2.2.1 15 (by decide)
    have r17 : gR m 11 17 a = B 17 := (h.2.1 17 (by decide)).1
    have t17 : tg m (B 17) = 41 := (h.2.1 17 (by decide)).2.1
    have l17 : ln m (B 17) = 8 := (h.2.1 17 (by decide)).2.2
    have n17 : ∀ i, i < 8 → aI m 41 (B 17) i = nI (fN σ 17 i) := h.2.2.2.2.1 17 (by decide)
    have r18 : gR m 11 18 a = B 18 := (h.2.1 18 (by decide)).1
    have t18 : tg m (B 18) = 42 := (h.2.1 18 (by decide)).2.1
    have l18 : ln m (B 18) = 8 := (h.2.1 18 (by decide)).2.2
    have n18 : ∀ i, i < 8 → aI m 42 (B 18) i = nI (fN σ 18 i) := h.2.2.2.2.1 18 (by decide)
    have r20 : gR m 11 20 a = B 20 := (h.2.1 20 (by decide)).1
    have t20 : tg m (B 20) = 44 := (h.2.1 20 (by decide)).2.1
    have l20 : ln m (B 20) = 8 := (h.2.1 20 (by decide)).2.2
    have n20 : ∀ i, i < 8 → aI m 44 (B 20) i = nI (fN σ 20 i) := h.2.2.2.2.1 20 (by decide)
    simp (disch := omega) only [forall_eq, tg_sI, gI_sI, gR_sI, aI_sI, aR_sI, ln_sI, tg_sR, gI_sR, gR_sR, aI_sR, aR_sR, ln_sR, tg_wI, gI_wI, gR_wI, aI_wI, aR_wI, ln_wI, tg_wR, gI_wR, gR_wR, aI_wR, aR_wR, ln_wR, tg_wC, gI_wC, gR_wC, aI_wC, aR_wC, ln_wC, tg_nO, gI_nO, gR_nO, aI_nO, aR_nO, ln_nO, tg_nA, gI_nA, gR_nA, aI_nA, aR_nA, ln_nA, Nat.reduceEqDiff, reduceCtorEq, false_and, true_and, and_true, and_false, and_self, if_true, if_false, ↓reduceIte, forall_const, true_implies, imp_self, not_true, not_false_eq_true, implies_true, not_false, eq_self, Nat.reduceLT, Nat.reduceLeDiff, h.1, r12, t12, l12, n12, f15, r17, t17, l17, n17, r18, t18, l18, n18, r20, t20, l20, n20, c_mul2, c_mul3, c_mul6, c_mul10, c_mul40, c_mul100, c_mul200, c_add2, c_add3, c_add4, c_add5, nI_1, nI_add, nI_clamp, c_sub1, c_eq, c_le, c_lt, zz, nb0, nb1, eL_0, ltL_0, gtL_0, leL_0, geL_0, eL_1, ltL_1, gtL_1, leL_1, geL_1, eL_2, ltL_2, gtL_2, leL_2, geL_2, eL_3, ltL_3, gtL_3, leL_3, geL_3, eL_4, ltL_4, gtL_4, leL_4, geL_4, eL_5, ltL_5, gtL_5, leL_5, geL_5, eL_6, ltL_6, gtL_6, leL_6, geL_6, eL_7, ltL_7, gtL_7, leL_7, geL_7, eL_8, ltL_8, gtL_8, leL_8, geL_8, eL_9, ltL_9, gtL_9, leL_9, geL_9, eL_10, ltL_10, gtL_10, leL_10, geL_10, eL_16, ltL_16, gtL_16, leL_16, geL_16, eL_20, ltL_20, gtL_20, leL_20, geL_20, eL_32, ltL_32, gtL_32, leL_32, geL_32, eL_40, ltL_40, gtL_40, leL_40, geL_40, eL_100, ltL_100, gtL_100, leL_100, geL_100, eL_200, ltL_200, gtL_200, leL_200, geL_200, eL_255, ltL_255, gtL_255, leL_255, geL_255, eL_256, ltL_256, gtL_256, leL_256, geL_256, eL_400, ltL_400, gtL_400, leL_400, geL_400, eL_9999, ltL_9999, gtL_9999, leL_9999, geL_9999, eL_20000, ltL_20000, gtL_20000, leL_20000, geL_20000, iL_0, tL_0, iL_1, tL_1, iL_2, tL_2, iL_3, tL_3, iL_4, tL_4, iL_5, tL_5, iL_6, tL_6, iL_7, tL_7, c_inT, by8_eq]
    refine ⟨fun z => ?_, fun z => ⟨fun z1 => ⟨fun z2 => ?_, fun z2 => ?_⟩, fun z1 => ⟨fun z2 => ?_, fun z2 => ?_⟩⟩⟩
    · rw [if_pos z] at k; exact k m h
    · rw [if_neg z, if_pos z1, if_pos z2] at k; exact k m h
    · rw [if_neg z, if_pos z1, if_neg z2] at k
      first | exact w_written_loop h hI i1 i2 (fun _ => by omega) (fun q => absurd z1 q) (fN σ 20 i) (by8 x) (Nat.le_refl _) (by8_lt x) (fun m' hm' => k m' (by rw [if_pos z1] at hm'; exact hm')) | skip
    · rw [if_neg z, if_neg z1, if_pos z2] at k; exact k m h
    · rw [if_neg z, if_neg z1, if_neg z2] at k
      first | exact w_written_loop h hI i1 i2 (fun q => absurd q z1) (fun _ => by omega) (fN σ 20 i) (by8 x) (Nat.le_refl _) (by8_lt x) (fun m' hm' => k m' (by rw [if_neg z1] at hm'; exact hm')) | skip
