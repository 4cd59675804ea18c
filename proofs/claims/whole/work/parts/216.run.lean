/-- the reference's memory, but for the place in the signs -/
def RZo (Z : Mm → Prop) (m : Mm) (a : Nat) (B : Nat → Nat) (σ : Sg) : Prop := ∃ x, RZ Z m a B (uF σ 26 x)
theorem uF_comm (σ : Sg) {f g : Nat} (v w : Nat) (h : f ≠ g) : uF (uF σ f v) g w = uF (uF σ g w) f v := by
  unfold uF
  have : va_up (va_up σ.1 f v) g w = va_up (va_up σ.1 g w) f v := by
    funext x; unfold va_up
    by_cases e1 : x = g
    · by_cases e2 : x = f
      · exact absurd (e2.symm.trans e1) h
      · simp [e1]; intro e; exact absurd e (fun z => h z.symm)
    · simp [e1]
  show (va_up (va_up σ.1 f v) g w, σ.2) = (va_up (va_up σ.1 g w) f v, σ.2)
  rw [this]
theorem RZo.of {m : Mm} {a : Nat} {B : Nat → Nat} {Z : Mm → Prop} {σ : Sg} (h : RZ Z m a B σ) : RZo Z m a B σ := ⟨fF σ 26, by rw [uF_self]; exact h⟩
theorem RZo.sF {m : Mm} {a : Nat} {B : Nat → Nat} {Z : Mm → Prop} {σ : Sg} (h : RZo Z m a B σ) (f v : Nat) (hf0 : f ∈ sN) (hf : f ≠ 26) : RZo Z (sI m 11 f a (nI v)) a B (uF σ f v) := by
  obtain ⟨x, h⟩ := h
  exact ⟨x, by have := h.sF f v hf0; rw [uF_comm σ x v (fun e => hf e.symm)] at this; exact this⟩
theorem RZo.wN {m : Mm} {a : Nat} {B : Nat → Nat} {Z : Mm → Prop} {σ : Sg} (h : RZo Z m a B σ) (f i v : Nat) (hf0 : f ∈ aN) : RZo Z (wI m (kd f) (B f) i (nI v)) a B (uN σ f i v) := by
  obtain ⟨x, h⟩ := h
  exact ⟨x, h.wN f i v hf0⟩
theorem RZo.wD {m : Mm} {a : Nat} {B : Nat → Nat} {Z : Mm → Prop} {σ : Sg} (h : RZo Z m a B σ) (f i : Nat) (v : Int32) (hf0 : f ∈ aD) : RZo Z (wI m (kd f) (B f) i v) a B (uD σ f i v) := by
  obtain ⟨x, h⟩ := h
  exact ⟨x, h.wD f i v hf0⟩
def RI (σ : Sg) : Prop := Inv σ ∧ Th σ ∧ ∀ i, fN σ 33 i ≤ 200
theorem w_runJob {m : Mm} {a : Nat} {B : Nat → Nat} {Z : Mm → Prop} {σ : Sg} (h : RZo Z m a B σ) (hI : RI σ) (hj : fF σ 25 < 20) {P : Mm → Prop} (k : ∀ m', RZo Z m' a B (jobS σ) → P m') : wp_Mo_runJob m a P := by
  obtain ⟨x, h⟩ := h
  unfold wp_Mo_runJob wp_Mo_runJob_0
  have h1 := h.sF 26 0 (by decide)
  rw [uF_uF] at h1
  have h8 : RZ Z _ a B (start σ) := ((((((h1.sF 27 0 (by decide)).sF 28 0 (by decide)).sM 0).sF 31 0 (by decide)).sF 32 0 (by decide)).sF 35 0 (by decide)).sF 36 0 (by decide)
  have hL : LpS (start σ) := ⟨⟨hI.1, hI.2.1, hj, by show 0 ≤ 201; decide, by show 0 ≤ fF σ 1; omega, by show 0 ≤ 20; decide, by show 0 ≤ 40; decide, by show 0 ≤ 4; decide, hI.2.2, by show 0 ≤ 7; decide, by show 0 ≤ 1; decide⟩, ⟨rfl, rfl, Nat.zero_le _⟩, rfl, rfl⟩
  obtain ⟨f, hf⟩ := w_run_loop (a := a) (B := B) (Z := Z) (P := P) (fF σ 1 + 1) (start σ) rfl hL (fun m' y h' => k m' ⟨y, h'⟩)
  have hf := hf _ h8
  simp only [forall_eq, tg_sI, h.1, true_and]
  exact ⟨f, hf⟩
/-! a run of all jobs -/
def cp1 : Nat → Nat → Sg → Sg
  | 0, _, σ => σ
  | c + 1, i, σ => cp1 c (i + 1) (uN σ 9 i (fN σ 7 i))
def cp2 : Nat → Nat → Sg → Sg
  | 0, _, σ => σ
  | c + 1, i, σ => cp2 c (i + 1) (uD σ 10 i (fD σ 8 i))
def cp3 : Nat → Nat → Sg → Sg
  | 0, _, σ => σ
  | c + 1, i, σ => cp3 c (i + 1) (uN (uN σ 23 i 0) 22 i (fN σ 20 i))
def cp4 : Nat → Nat → Sg → Sg
  | 0, _, σ => σ
  | c + 1, i, σ => cp4 c (i + 1) (uN σ 7 i (fN σ 9 i))
def cp5 : Nat → Nat → Sg → Sg
  | 0, _, σ => σ
  | c + 1, i, σ => cp5 c (i + 1) (uD σ 8 i (fD σ 10 i))
def cp6 : Nat → Nat → Sg → Sg
  | 0, _, σ => σ
  | c + 1, i, σ => cp6 c (i + 1) (uN (uN σ 16 i (if fN σ 16 i = 0 then 0 else if fN σ 23 i = 0 then 1 else 0)) 20 i (if fN σ 23 i = 0 then fN σ 22 i else 0))
def begS (k : Nat) (σ : Sg) : Sg := uF (cp3 7 1 (cp2 40 0 (cp1 4 0 σ))) 25 k
def finS (σ : Sg) : Sg := cp6 7 1 (cp5 40 0 (cp4 4 0 σ))
def oneS (k : Nat) (σ : Sg) : Sg := finS (jobS (begS k σ))
def allS : Nat → Nat → Nat → Sg → Nat × Sg
  | 0, _, n, σ => (n, σ)
  | c + 1, k, n, σ => if fN σ 5 (6 * k) = 0 then allS c (k + 1) (n + 1) (oneS k σ) else allS c (k + 1) n σ
def spRun (σ : Sg) : Int32 × Sg := if fF σ 24 = 0 then (nI (allS (fF σ 2) 0 0 σ).1, (allS (fF σ 2) 0 0 σ).2) else (-3, σ)

theorem w_c162 {a : Nat} {B : Nat → Nat} {Z : Mm → Prop} {P : Int32 → Mm → Prop} {K : Mm → Nat → Int32 → Int32 → Prop} {v1 v2 : Int32} : ∀ (c : Nat) (m : Mm) (σ : Sg) (i : Nat), c + i = 40 → RZo Z m a B σ → (∀ m', RZo Z m' a B (cp5 c i σ) → ∃ n, wp_Mo_run_188 K P n m' a v1 v2 1) → ∃ n, wp_Mo_run_162 K P n m a v1 v2 (nI i) := by
  intro c
  induction c with
  | zero =>
    intro m σ i hc h k
    obtain ⟨n, hn⟩ : ∃ n : Nat, n = n := ⟨0, rfl⟩
    refine ⟨1, ?_⟩
    unfold wp_Mo_run_162
    have : i = 40 := by omega
    subst this
    exact ⟨fun _ => k m h, fun z => absurd (by decide) z⟩
  | succ c ih =>
    intro m σ i hc h k
    obtain ⟨x, hx⟩ := id h
    obtain ⟨n, hw⟩ := ih _ _ (i + 1) (by omega) (h.wD 8 i (fD σ 10 i) (by decide)) k
    refine ⟨n + 1, ?_⟩
    unfold wp_Mo_run_162
    have r8 : gR m 11 8 a = B 8 := (hx.2.1 8 (by decide)).1
    have t8 : tg m (B 8) = 33 := (hx.2.1 8 (by decide)).2.1
    have l8 : ln m (B 8) = 40 := (hx.2.1 8 (by decide)).2.2
    have n8 : ∀ i, i < 40 → aI m 33 (B 8) i = fD (uF σ 26 x) 8 i := hx.2.2.2.2.2.1 8 (by decide)
    have r10 : gR m 11 10 a = B 10 := (hx.2.1 10 (by decide)).1
    have t10 : tg m (B 10) = 35 := (hx.2.1 10 (by decide)).2.1
    have l10 : ln m (B 10) = 40 := (hx.2.1 10 (by decide)).2.2
    have n10 : ∀ i, i < 40 → aI m 35 (B 10) i = fD (uF σ 26 x) 10 i := hx.2.2.2.2.2.1 10 (by decide)
    simp (disch := omega) only [forall_eq, tg_sI, gI_sI, gR_sI, aI_sI, aR_sI, ln_sI, tg_sR, gI_sR, gR_sR, aI_sR, aR_sR, ln_sR, tg_wI, gI_wI, gR_wI, aI_wI, aR_wI, ln_wI, tg_wR, gI_wR, gR_wR, aI_wR, aR_wR, ln_wR, tg_wC, gI_wC, gR_wC, aI_wC, aR_wC, ln_wC, tg_nO, gI_nO, gR_nO, aI_nO, aR_nO, ln_nO, tg_nA, gI_nA, gR_nA, aI_nA, aR_nA, ln_nA, Nat.reduceEqDiff, reduceCtorEq, false_and, true_and, and_true, and_false, and_self, if_true, if_false, ↓reduceIte, forall_const, true_implies, imp_self, not_true, not_false_eq_true, implies_true, not_false, eq_self, Nat.reduceLT, Nat.reduceLeDiff, hx.1, r8, t8, l8, n8, r10, t10, l10, n10, c_mul2, c_mul3, c_mul6, c_mul10, c_mul40, c_mul100, c_mul200, c_add2, c_add3, c_add4, c_add5, nI_1, nI_add, nI_clamp, c_sub1, c_eq, c_le, c_lt, zz, nb0, nb1, eL_0, ltL_0, gtL_0, leL_0, geL_0, eL_1, ltL_1, gtL_1, leL_1, geL_1, eL_2, ltL_2, gtL_2, leL_2, geL_2, eL_3, ltL_3, gtL_3, leL_3, geL_3, eL_4, ltL_4, gtL_4, leL_4, geL_4, eL_5, ltL_5, gtL_5, leL_5, geL_5, eL_6, ltL_6, gtL_6, leL_6, geL_6, eL_7, ltL_7, gtL_7, leL_7, geL_7, eL_8, ltL_8, gtL_8, leL_8, geL_8, eL_9, ltL_9, gtL_9, leL_9, geL_9, eL_10, ltL_10, gtL_10, leL_10, geL_10, eL_16, ltL_16, gtL_16, leL_16, geL_16, eL_20, ltL_20, gtL_20, leL_20, geL_20, eL_32, ltL_32, gtL_32, leL_32, geL_32, eL_40, ltL_40, gtL_40, leL_40, geL_40, eL_100, ltL_100, gtL_100, leL_100, geL_100, eL_200, ltL_200, gtL_200, leL_200, geL_200, eL_255, ltL_255, gtL_255, leL_255, geL_255, eL_256, ltL_256, gtL_256, leL_256, geL_256, eL_400, ltL_400, gtL_400, leL_400, geL_400, eL_9999, ltL_9999, gtL_9999, leL_9999, geL_9999, eL_20000, ltL_20000, gtL_20000, leL_20000, geL_20000, iL_0, tL_0, iL_1, tL_1, iL_2, tL_2, iL_3, tL_3, iL_4, tL_4, iL_5, tL_5, iL_6, tL_6, iL_7, tL_7, c_inT]
    refine ⟨fun z => absurd z (by omega), fun _ => ?_⟩
    exact hw
theorem w_c137 {a : Nat} {B : Nat → Nat} {Z : Mm → Prop} {P : Int32 → Mm → Prop} {K : Mm → Nat → Int32 → Int32 → Prop} {v1 v2 : Int32} : ∀ (c : Nat) (m : Mm) (σ : Sg) (i : Nat), c + i = 4 → RZo Z m a B σ → (∀ m', RZo Z m' a B (cp4 c i σ) → ∃ n, wp_Mo_run_162 K P n m' a v1 v2 0) → ∃ n, wp_Mo_run_137 K P n m a v1 v2 (nI i) := by
  intro c
  induction c with
  | zero =>
    intro m σ i hc h k
    obtain ⟨n, hn⟩ : ∃ n : Nat, n = n := ⟨0, rfl⟩
    refine ⟨1, ?_⟩
    unfold wp_Mo_run_137
    have : i = 4 := by omega
    subst this
    exact ⟨fun _ => k m h, fun z => absurd (by decide) z⟩
  | succ c ih =>
    intro m σ i hc h k
    obtain ⟨x, hx⟩ := id h
    obtain ⟨n, hw⟩ := ih _ _ (i + 1) (by omega) (h.wN 7 i (fN σ 9 i) (by decide)) k
    refine ⟨n + 1, ?_⟩
    unfold wp_Mo_run_137
    have r7 : gR m 11 7 a = B 7 := (hx.2.1 7 (by decide)).1
    have t7 : tg m (B 7) = 32 := (hx.2.1 7 (by decide)).2.1
    have l7 : ln m (B 7) = 4 := (hx.2.1 7 (by decide)).2.2
    have n7 : ∀ i, i < 4 → aI m 32 (B 7) i = nI (fN (uF σ 26 x) 7 i) := hx.2.2.2.2.1 7 (by decide)
    have r9 : gR m 11 9 a = B 9 := (hx.2.1 9 (by decide)).1
    have t9 : tg m (B 9) = 34 := (hx.2.1 9 (by decide)).2.1
    have l9 : ln m (B 9) = 4 := (hx.2.1 9 (by decide)).2.2
    have n9 : ∀ i, i < 4 → aI m 34 (B 9) i = nI (fN (uF σ 26 x) 9 i) := hx.2.2.2.2.1 9 (by decide)
    simp (disch := omega) only [forall_eq, tg_sI, gI_sI, gR_sI, aI_sI, aR_sI, ln_sI, tg_sR, gI_sR, gR_sR, aI_sR, aR_sR, ln_sR, tg_wI, gI_wI, gR_wI, aI_wI, aR_wI, ln_wI, tg_wR, gI_wR, gR_wR, aI_wR, aR_wR, ln_wR, tg_wC, gI_wC, gR_wC, aI_wC, aR_wC, ln_wC, tg_nO, gI_nO, gR_nO, aI_nO, aR_nO, ln_nO, tg_nA, gI_nA, gR_nA, aI_nA, aR_nA, ln_nA, Nat.reduceEqDiff, reduceCtorEq, false_and, true_and, and_true, and_false, and_self, if_true, if_false, ↓reduceIte, forall_const, true_implies, imp_self, not_true, not_false_eq_true, implies_true, not_false, eq_self, Nat.reduceLT, Nat.reduceLeDiff, hx.1, r7, t7, l7, n7, r9, t9, l9, n9, c_mul2, c_mul3, c_mul6, c_mul10, c_mul40, c_mul100, c_mul200, c_add2, c_add3, c_add4, c_add5, nI_1, nI_add, nI_clamp, c_sub1, c_eq, c_le, c_lt, zz, nb0, nb1, eL_0, ltL_0, gtL_0, leL_0, geL_0, eL_1, ltL_1, gtL_1, leL_1, geL_1, eL_2, ltL_2, gtL_2, leL_2, geL_2, eL_3, ltL_3, gtL_3, leL_3, geL_3, eL_4, ltL_4, gtL_4, leL_4, geL_4, eL_5, ltL_5, gtL_5, leL_5, geL_5, eL_6, ltL_6, gtL_6, leL_6, geL_6, eL_7, ltL_7, gtL_7, leL_7, geL_7, eL_8, ltL_8, gtL_8, leL_8, geL_8, eL_9, ltL_9, gtL_9, leL_9, geL_9, eL_10, ltL_10, gtL_10, leL_10, geL_10, eL_16, ltL_16, gtL_16, leL_16, geL_16, eL_20, ltL_20, gtL_20, leL_20, geL_20, eL_32, ltL_32, gtL_32, leL_32, geL_32, eL_40, ltL_40, gtL_40, leL_40, geL_40, eL_100, ltL_100, gtL_100, leL_100, geL_100, eL_200, ltL_200, gtL_200, leL_200, geL_200, eL_255, ltL_255, gtL_255, leL_255, geL_255, eL_256, ltL_256, gtL_256, leL_256, geL_256, eL_400, ltL_400, gtL_400, leL_400, geL_400, eL_9999, ltL_9999, gtL_9999, leL_9999, geL_9999, eL_20000, ltL_20000, gtL_20000, leL_20000, geL_20000, iL_0, tL_0, iL_1, tL_1, iL_2, tL_2, iL_3, tL_3, iL_4, tL_4, iL_5, tL_5, iL_6, tL_6, iL_7, tL_7, c_inT]
    refine ⟨fun z => absurd z (by omega), fun _ => ?_⟩
    exact hw
theorem w_c66 {a : Nat} {B : Nat → Nat} {Z : Mm → Prop} {P : Int32 → Mm → Prop} {K : Mm → Nat → Int32 → Int32 → Prop} {v1 v2 : Int32} : ∀ (c : Nat) (m : Mm) (σ : Sg) (i : Nat), c + i = 40 → RZo Z m a B σ → (∀ m', RZo Z m' a B (cp2 c i σ) → ∃ n, wp_Mo_run_92 K P n m' a v1 v2 1) → ∃ n, wp_Mo_run_66 K P n m a v1 v2 (nI i) := by
  intro c
  induction c with
  | zero =>
    intro m σ i hc h k
    obtain ⟨n, hn⟩ : ∃ n : Nat, n = n := ⟨0, rfl⟩
    refine ⟨1, ?_⟩
    unfold wp_Mo_run_66
    have : i = 40 := by omega
    subst this
    exact ⟨fun _ => k m h, fun z => absurd (by decide) z⟩
  | succ c ih =>
    intro m σ i hc h k
    obtain ⟨x, hx⟩ := id h
    obtain ⟨n, hw⟩ := ih _ _ (i + 1) (by omega) (h.wD 10 i (fD σ 8 i) (by decide)) k
    refine ⟨n + 1, ?_⟩
    unfold wp_Mo_run_66
    have r8 : gR m 11 8 a = B 8 := (hx.2.1 8 (by decide)).1
    have t8 : tg m (B 8) = 33 := (hx.2.1 8 (by decide)).2.1
    have l8 : ln m (B 8) = 40 := (hx.2.1 8 (by decide)).2.2
    have n8 : ∀ i, i < 40 → aI m 33 (B 8) i = fD (uF σ 26 x) 8 i := hx.2.2.2.2.2.1 8 (by decide)
    have r10 : gR m 11 10 a = B 10 := (hx.2.1 10 (by decide)).1
    have t10 : tg m (B 10) = 35 := (hx.2.1 10 (by decide)).2.1
    have l10 : ln m (B 10) = 40 := (hx.2.1 10 (by decide)).2.2
    have n10 : ∀ i, i < 40 → aI m 35 (B 10) i = fD (uF σ 26 x) 10 i := hx.2.2.2.2.2.1 10 (by decide)
    simp (disch := omega) only [forall_eq, tg_sI, gI_sI, gR_sI, aI_sI, aR_sI, ln_sI, tg_sR, gI_sR, gR_sR, aI_sR, aR_sR, ln_sR, tg_wI, gI_wI, gR_wI, aI_wI, aR_wI, ln_wI, tg_wR, gI_wR, gR_wR, aI_wR, aR_wR, ln_wR, tg_wC, gI_wC, gR_wC, aI_wC, aR_wC, ln_wC, tg_nO, gI_nO, gR_nO, aI_nO, aR_nO, ln_nO, tg_nA, gI_nA, gR_nA, aI_nA, aR_nA, ln_nA, Nat.reduceEqDiff, reduceCtorEq, false_and, true_and, and_true, and_false, and_self, if_true, if_false, ↓reduceIte, forall_const, true_implies, imp_self, not_true, not_false_eq_true, implies_true, not_false, eq_self, Nat.reduceLT, Nat.reduceLeDiff, hx.1, r8, t8, l8, n8, r10, t10, l10, n10, c_mul2, c_mul3, c_mul6, c_mul10, c_mul40, c_mul100, c_mul200, c_add2, c_add3, c_add4, c_add5, nI_1, nI_add, nI_clamp, c_sub1, c_eq, c_le, c_lt, zz, nb0, nb1, eL_0, ltL_0, gtL_0, leL_0, geL_0, eL_1, ltL_1, gtL_1, leL_1, geL_1, eL_2, ltL_2, gtL_2, leL_2, geL_2, eL_3, ltL_3, gtL_3, leL_3, geL_3, eL_4, ltL_4, gtL_4, leL_4, geL_4, eL_5, ltL_5, gtL_5, leL_5, geL_5, eL_6, ltL_6, gtL_6, leL_6, geL_6, eL_7, ltL_7, gtL_7, leL_7, geL_7, eL_8, ltL_8, gtL_8, leL_8, geL_8, eL_9, ltL_9, gtL_9, leL_9, geL_9, eL_10, ltL_10, gtL_10, leL_10, geL_10, eL_16, ltL_16, gtL_16, leL_16, geL_16, eL_20, ltL_20, gtL_20, leL_20, geL_20, eL_32, ltL_32, gtL_32, leL_32, geL_32, eL_40, ltL_40, gtL_40, leL_40, geL_40, eL_100, ltL_100, gtL_100, leL_100, geL_100, eL_200, ltL_200, gtL_200, leL_200, geL_200, eL_255, ltL_255, gtL_255, leL_255, geL_255, eL_256, ltL_256, gtL_256, leL_256, geL_256, eL_400, ltL_400, gtL_400, leL_400, geL_400, eL_9999, ltL_9999, gtL_9999, leL_9999, geL_9999, eL_20000, ltL_20000, gtL_20000, leL_20000, geL_20000, iL_0, tL_0, iL_1, tL_1, iL_2, tL_2, iL_3, tL_3, iL_4, tL_4, iL_5, tL_5, iL_6, tL_6, iL_7, tL_7, c_inT]
    refine ⟨fun z => absurd z (by omega), fun _ => ?_⟩
    exact hw
theorem w_c41 {a : Nat} {B : Nat → Nat} {Z : Mm → Prop} {P : Int32 → Mm → Prop} {K : Mm → Nat → Int32 → Int32 → Prop} {v1 v2 : Int32} : ∀ (c : Nat) (m : Mm) (σ : Sg) (i : Nat), c + i = 4 → RZo Z m a B σ → (∀ m', RZo Z m' a B (cp1 c i σ) → ∃ n, wp_Mo_run_66 K P n m' a v1 v2 0) → ∃ n, wp_Mo_run_41 K P n m a v1 v2 (nI i) := by
  intro c
  induction c with
  | zero =>
    intro m σ i hc h k
    obtain ⟨n, hn⟩ : ∃ n : Nat, n = n := ⟨0, rfl⟩
    refine ⟨1, ?_⟩
    unfold wp_Mo_run_41
    have : i = 4 := by omega
    subst this
    exact ⟨fun _ => k m h, fun z => absurd (by decide) z⟩
  | succ c ih =>
    intro m σ i hc h k
    obtain ⟨x, hx⟩ := id h
    obtain ⟨n, hw⟩ := ih _ _ (i + 1) (by omega) (h.wN 9 i (fN σ 7 i) (by decide)) k
    refine ⟨n + 1, ?_⟩
    unfold wp_Mo_run_41
    have r7 : gR m 11 7 a = B 7 := (hx.2.1 7 (by decide)).1
    have t7 : tg m (B 7) = 32 := (hx.2.1 7 (by decide)).2.1
    have l7 : ln m (B 7) = 4 := (hx.2.1 7 (by decide)).2.2
    have n7 : ∀ i, i < 4 → aI m 32 (B 7) i = nI (fN (uF σ 26 x) 7 i) := hx.2.2.2.2.1 7 (by decide)
    have r9 : gR m 11 9 a = B 9 := (hx.2.1 9 (by decide)).1
    have t9 : tg m (B 9) = 34 := (hx.2.1 9 (by decide)).2.1
    have l9 : ln m (B 9) = 4 := (hx.2.1 9 (by decide)).2.2
    have n9 : ∀ i, i < 4 → aI m 34 (B 9) i = nI (fN (uF σ 26 x) 9 i) := hx.2.2.2.2.1 9 (by decide)
    simp (disch := omega) only [forall_eq, tg_sI, gI_sI, gR_sI, aI_sI, aR_sI, ln_sI, tg_sR, gI_sR, gR_sR, aI_sR, aR_sR, ln_sR, tg_wI, gI_wI, gR_wI, aI_wI, aR_wI, ln_wI, tg_wR, gI_wR, gR_wR, aI_wR, aR_wR, ln_wR, tg_wC, gI_wC, gR_wC, aI_wC, aR_wC, ln_wC, tg_nO, gI_nO, gR_nO, aI_nO, aR_nO, ln_nO, tg_nA, gI_nA, gR_nA, aI_nA, aR_nA, ln_nA, Nat.reduceEqDiff, reduceCtorEq, false_and, true_and, and_true, and_false, and_self, if_true, if_false, ↓reduceIte, forall_const, true_implies, imp_self, not_true, not_false_eq_true, implies_true, not_false, eq_self, Nat.reduceLT, Nat.reduceLeDiff, hx.1, r7, t7, l7, n7, r9, t9, l9, n9, c_mul2, c_mul3, c_mul6, c_mul10, c_mul40, c_mul100, c_mul200, c_add2, c_add3, c_add4, c_add5, nI_1, nI_add, nI_clamp, c_sub1, c_eq, c_le, c_lt, zz, nb0, nb1, eL_0, ltL_0, gtL_0, leL_0, geL_0, eL_1, ltL_1, gtL_1, leL_1, geL_1, eL_2, ltL_2, gtL_2, leL_2, geL_2, eL_3, ltL_3, gtL_3, leL_3, geL_3, eL_4, ltL_4, gtL_4, leL_4, geL_4, eL_5, ltL_5, gtL_5, leL_5, geL_5, eL_6, ltL_6, gtL_6, leL_6, geL_6, eL_7, ltL_7, gtL_7, leL_7, geL_7, eL_8, ltL_8, gtL_8, leL_8, geL_8, eL_9, ltL_9, gtL_9, leL_9, geL_9, eL_10, ltL_10, gtL_10, leL_10, geL_10, eL_16, ltL_16, gtL_16, leL_16, geL_16, eL_20, ltL_20, gtL_20, leL_20, geL_20, eL_32, ltL_32, gtL_32, leL_32, geL_32, eL_40, ltL_40, gtL_40, leL_40, geL_40, eL_100, ltL_100, gtL_100, leL_100, geL_100, eL_200, ltL_200, gtL_200, leL_200, geL_200, eL_255, ltL_255, gtL_255, leL_255, geL_255, eL_256, ltL_256, gtL_256, leL_256, geL_256, eL_400, ltL_400, gtL_400, leL_400, geL_400, eL_9999, ltL_9999, gtL_9999, leL_9999, geL_9999, eL_20000, ltL_20000, gtL_20000, leL_20000, geL_20000, iL_0, tL_0, iL_1, tL_1, iL_2, tL_2, iL_3, tL_3, iL_4, tL_4, iL_5, tL_5, iL_6, tL_6, iL_7, tL_7, c_inT]
    refine ⟨fun z => absurd z (by omega), fun _ => ?_⟩
    exact hw
