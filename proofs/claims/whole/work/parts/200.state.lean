/-! THE ABSTRACT STATE: numbers, arrays of numbers, arrays of data (in the reference's places), the marks -/
abbrev Sg : Type := (Nat → Nat) × (Nat → Nat → Nat) × (Nat → Nat → Int32) × Int32
def fF (σ : Sg) (f : Nat) : Nat := σ.1 f
def fN (σ : Sg) (f i : Nat) : Nat := σ.2.1 f i
def fD (σ : Sg) (f i : Nat) : Int32 := σ.2.2.1 f i
def fM (σ : Sg) : Int32 := σ.2.2.2
def uF (σ : Sg) (f v : Nat) : Sg := (va_up σ.1 f v, σ.2)
def uN (σ : Sg) (f i v : Nat) : Sg := (σ.1, (fun f' i' => if f' = f ∧ i' = i then v else σ.2.1 f' i'), σ.2.2)
def uD (σ : Sg) (f i : Nat) (v : Int32) : Sg := (σ.1, σ.2.1, (fun f' i' => if f' = f ∧ i' = i then v else σ.2.2.1 f' i'), σ.2.2.2)
def uM (σ : Sg) (v : Int32) : Sg := (σ.1, σ.2.1, σ.2.2.1, v)
theorem fF_uF (σ : Sg) (f v f' : Nat) : fF (uF σ f v) f' = if f' = f then v else fF σ f' := rfl
theorem fN_uF (σ : Sg) (f v f' i' : Nat) : fN (uF σ f v) f' i' = fN σ f' i' := rfl
theorem fD_uF (σ : Sg) (f v f' i' : Nat) : fD (uF σ f v) f' i' = fD σ f' i' := rfl
theorem fM_uF (σ : Sg) (f v : Nat) : fM (uF σ f v) = fM σ := rfl
theorem fF_uN (σ : Sg) (f i v f' : Nat) : fF (uN σ f i v) f' = fF σ f' := rfl
theorem fN_uN (σ : Sg) (f i v f' i' : Nat) : fN (uN σ f i v) f' i' = if f' = f ∧ i' = i then v else fN σ f' i' := rfl
theorem fD_uN (σ : Sg) (f i v f' i' : Nat) : fD (uN σ f i v) f' i' = fD σ f' i' := rfl
theorem fM_uN (σ : Sg) (f i v : Nat) : fM (uN σ f i v) = fM σ := rfl
theorem fF_uD (σ : Sg) (f i : Nat) (v : Int32) (f' : Nat) : fF (uD σ f i v) f' = fF σ f' := rfl
theorem fN_uD (σ : Sg) (f i : Nat) (v : Int32) (f' i' : Nat) : fN (uD σ f i v) f' i' = fN σ f' i' := rfl
theorem fD_uD (σ : Sg) (f i : Nat) (v : Int32) (f' i' : Nat) : fD (uD σ f i v) f' i' = if f' = f ∧ i' = i then v else fD σ f' i' := rfl
theorem fM_uD (σ : Sg) (f i : Nat) (v : Int32) : fM (uD σ f i v) = fM σ := rfl
theorem fF_uM (σ : Sg) (v : Int32) (f' : Nat) : fF (uM σ v) f' = fF σ f' := rfl
theorem fN_uM (σ : Sg) (v : Int32) (f' i' : Nat) : fN (uM σ v) f' i' = fN σ f' i' := rfl
theorem fD_uM (σ : Sg) (v : Int32) (f' i' : Nat) : fD (uM σ v) f' i' = fD σ f' i' := rfl
theorem fM_uM (σ : Sg) (v : Int32) : fM (uM σ v) = v := rfl
def kd : Nat → Nat := fun f => match f with
  | 3 => 28
  | 4 => 29
  | 5 => 30
  | 6 => 31
  | 7 => 32
  | 8 => 33
  | 9 => 34
  | 10 => 35
  | 11 => 36
  | 12 => 37
  | 13 => 38
  | 14 => 39
  | 16 => 40
  | 17 => 41
  | 18 => 42
  | 19 => 43
  | 20 => 44
  | 21 => 45
  | 22 => 46
  | 23 => 47
  | 29 => 48
  | 33 => 49
  | 34 => 50
  | _ => 0
def al : Nat → Nat := fun f => match f with
  | 3 => 4000
  | 4 => 20
  | 5 => 120
  | 6 => 800
  | 7 => 4
  | 8 => 40
  | 9 => 4
  | 10 => 40
  | 11 => 10
  | 12 => 10
  | 13 => 1000
  | 14 => 400
  | 16 => 8
  | 17 => 8
  | 18 => 8
  | 19 => 8
  | 20 => 8
  | 21 => 24
  | 22 => 8
  | 23 => 8
  | 29 => 20
  | 33 => 4
  | 34 => 4
  | _ => 0
def aN : List Nat := [4, 5, 7, 9, 11, 12, 16, 17, 18, 19, 20, 21, 22, 23, 33]
def aD : List Nat := [3, 6, 8, 10, 13, 14, 29, 34]
def sN : List Nat := [1, 2, 15, 24, 25, 26, 27, 28, 31, 32, 35, 36]
/-- what the reference does leaves Z -/
def Zc (Z : Mm → Prop) : Prop := (∀ m i x v, Z m → Z (sI m 11 i x v)) ∧ (∀ m k x i v, 28 ≤ k → Z m → Z (wI m k x i v))
/-- the reference's object at a, its arrays at B, holds σ -/
def RZ (Z : Mm → Prop) (m : Mm) (a : Nat) (B : Nat → Nat) (σ : Sg) : Prop := tg m a = 11 ∧ (∀ f ∈ aN ++ aD, gR m 11 f a = B f ∧ tg m (B f) = kd f ∧ ln m (B f) = al f) ∧ (∀ f ∈ sN, gI m 11 f a = nI (fF σ f)) ∧ gI m 11 30 a = fM σ ∧ (∀ f ∈ aN, ∀ i, i < al f → aI m (kd f) (B f) i = nI (fN σ f i)) ∧ (∀ f ∈ aD, ∀ i, i < al f → aI m (kd f) (B f) i = fD σ f i) ∧ Zc Z ∧ Z m
theorem kd_inj : ∀ f ∈ aN ++ aD, ∀ g ∈ aN ++ aD, kd f = kd g → f = g := by decide
theorem kd_g0 : ∀ f ∈ aN ++ aD, 28 ≤ kd f := by decide
theorem aND : ∀ f ∈ aN, f ∉ aD := by decide
theorem RZ.code {m : Mm} {a : Nat} {B : Nat → Nat} {Z : Mm → Prop} {σ : Sg} (h : RZ Z m a B σ) (v : Int32) : RZ Z (sI m 11 0 a v) a B σ := by
  obtain ⟨h1, h2, h3, h4, h5, h6, hc, hz⟩ := h
  refine ⟨h1, h2, fun f hf => ?_, ?_, h5, h6, hc, hc.1 _ _ _ _ hz⟩
  · rw [gI_sI, if_neg (by rintro ⟨-, h, -⟩; subst h; revert hf; decide)]; exact h3 f hf
  · rw [gI_sI, if_neg (by rintro ⟨-, h, -⟩; revert h; decide)]; exact h4
theorem RZ.sF {m : Mm} {a : Nat} {B : Nat → Nat} {Z : Mm → Prop} {σ : Sg} (h : RZ Z m a B σ) (f v : Nat) (hf0 : f ∈ sN) : RZ Z (sI m 11 f a (nI v)) a B (uF σ f v) := by
  obtain ⟨h1, h2, h3, h4, h5, h6, hc, hz⟩ := h
  refine ⟨h1, h2, fun g hg => ?_, ?_, h5, h6, hc, hc.1 _ _ _ _ hz⟩
  · rw [gI_sI, fF_uF]
    by_cases e : g = f
    · subst e; simp
    · rw [if_neg (by rintro ⟨-, h, -⟩; exact e h), if_neg e]; exact h3 g hg
  · rw [gI_sI, if_neg (by rintro ⟨-, h, -⟩; subst h; revert hf0; decide)]; exact h4
theorem RZ.sM {m : Mm} {a : Nat} {B : Nat → Nat} {Z : Mm → Prop} {σ : Sg} (h : RZ Z m a B σ) (v : Int32) : RZ Z (sI m 11 30 a v) a B (uM σ v) := by
  obtain ⟨h1, h2, h3, h4, h5, h6, hc, hz⟩ := h
  refine ⟨h1, h2, fun f hf => ?_, ?_, h5, h6, hc, hc.1 _ _ _ _ hz⟩
  · rw [gI_sI, if_neg (by rintro ⟨-, h, -⟩; subst h; revert hf; decide)]; exact h3 f hf
  · rw [gI_sI, if_pos ⟨rfl, rfl, rfl⟩]; rfl
theorem RZ.wN {m : Mm} {a : Nat} {B : Nat → Nat} {Z : Mm → Prop} {σ : Sg} (h : RZ Z m a B σ) (f i v : Nat) (hf0 : f ∈ aN) : RZ Z (wI m (kd f) (B f) i (nI v)) a B (uN σ f i v) := by
  obtain ⟨h1, h2, h3, h4, h5, h6, hc, hz⟩ := h
  refine ⟨h1, h2, h3, h4, fun g hg j hj => ?_, fun g hg j hj => ?_, hc, hc.2 _ _ _ _ _ (kd_g0 f (by first | exact List.mem_append_left _ hf0 | exact List.mem_append_right _ hf0)) hz⟩
  · rw [aI_wI, fN_uN]
    by_cases e : g = f
    · subst e
      by_cases e2 : j = i
      · subst e2; simp
      · rw [if_neg (by rintro ⟨-, -, h⟩; exact e2 h), if_neg (by rintro ⟨-, h⟩; exact e2 h)]; exact h5 g hg j hj
    · rw [if_neg (by rintro ⟨h, -, -⟩; exact e (kd_inj g (List.mem_append_left _ hg) f (List.mem_append_left _ hf0) h)), if_neg (by rintro ⟨h, -⟩; exact e h)]; exact h5 g hg j hj
  · rw [aI_wI, if_neg (by rintro ⟨h, -, -⟩; have := kd_inj g (List.mem_append_right _ hg) f (List.mem_append_left _ hf0) h; subst this; exact aND _ hf0 hg)]; exact h6 g hg j hj
theorem RZ.wD {m : Mm} {a : Nat} {B : Nat → Nat} {Z : Mm → Prop} {σ : Sg} (h : RZ Z m a B σ) (f i : Nat) (v : Int32) (hf0 : f ∈ aD) : RZ Z (wI m (kd f) (B f) i v) a B (uD σ f i v) := by
  obtain ⟨h1, h2, h3, h4, h5, h6, hc, hz⟩ := h
  refine ⟨h1, h2, h3, h4, fun g hg j hj => ?_, fun g hg j hj => ?_, hc, hc.2 _ _ _ _ _ (kd_g0 f (by first | exact List.mem_append_left _ hf0 | exact List.mem_append_right _ hf0)) hz⟩
  · rw [aI_wI, if_neg (by rintro ⟨h, -, -⟩; have := kd_inj g (List.mem_append_left _ hg) f (List.mem_append_right _ hf0) h; subst this; exact aND _ hg hf0)]; exact h5 g hg j hj
  · rw [aI_wI, fD_uD]
    by_cases e : g = f
    · subst e
      by_cases e2 : j = i
      · subst e2; simp
      · rw [if_neg (by rintro ⟨-, -, h⟩; exact e2 h), if_neg (by rintro ⟨-, h⟩; exact e2 h)]; exact h6 g hg j hj
    · rw [if_neg (by rintro ⟨h, -, -⟩; exact e (kd_inj g (List.mem_append_right _ hg) f (List.mem_append_right _ hf0) h)), if_neg (by rintro ⟨h, -⟩; exact e h)]; exact h6 g hg j hj
/-! numbers -/
theorem c_mul2 (k : Nat) : (2 : Int32) * nI k = nI (2 * k) := pk_mul 2 k
theorem c_mul3 (k : Nat) : (3 : Int32) * nI k = nI (3 * k) := pk_mul 3 k
theorem c_mul6 (k : Nat) : (6 : Int32) * nI k = nI (6 * k) := pk_mul 6 k
theorem c_mul10 (k : Nat) : (10 : Int32) * nI k = nI (10 * k) := pk_mul 10 k
theorem c_mul40 (k : Nat) : (40 : Int32) * nI k = nI (40 * k) := pk_mul 40 k
theorem c_mul100 (k : Nat) : (100 : Int32) * nI k = nI (100 * k) := pk_mul 100 k
theorem c_mul200 (k : Nat) : (200 : Int32) * nI k = nI (200 * k) := pk_mul 200 k
theorem c_add2 (k : Nat) : nI k + 2 = nI (k + 2) := nI_add k 2
theorem c_add3 (k : Nat) : nI k + 3 = nI (k + 3) := nI_add k 3
theorem c_add4 (k : Nat) : nI k + 4 = nI (k + 4) := nI_add k 4
theorem c_add5 (k : Nat) : nI k + 5 = nI (k + 5) := nI_add k 5
theorem c_in {k N : Nat} (hN : N < 2 ^ 31) (h : k < N) : vp_in (nI k) N := vp_in_nI h hN
theorem c_sub1 {k : Nat} (h : 1 ≤ k) : nI k - 1 = nI (k - 1) := by
  have := nI_pred (k - 1)
  rw [show k - 1 + 1 = k by omega] at this
  exact this
theorem c_eq {a b : Nat} (ha : a < 2 ^ 31) (hb : b < 2 ^ 31) : (nI a = nI b) = (a = b) := propext (nI_eq ha hb)
theorem c_le {a b : Nat} (ha : a < 2 ^ 31) (hb : b < 2 ^ 31) : (nI a ≤ nI b) = (a ≤ b) := propext (nI_leI ha hb)
theorem c_lt {a b : Nat} (ha : a < 2 ^ 31) (hb : b < 2 ^ 31) : (nI a < nI b) = (a < b) := propext (nI_ltI ha hb)
theorem zN : (0 : Int32) = nI 0 := rfl
