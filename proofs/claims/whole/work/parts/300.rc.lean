/-! THE CLASS: its objects at the addresses A -/
def ShF (m : Mm) (A : Nat → Nat) : Prop := tg m (A 0) = 1 ∧ tg m (A 1) = 12 ∧ tg m (A 2) = 2 ∧ tg m (A 3) = 3 ∧ tg m (A 4) = 14 ∧ tg m (A 5) = 15 ∧ tg m (A 6) = 4 ∧ tg m (A 7) = 16 ∧ tg m (A 8) = 17 ∧ tg m (A 9) = 5 ∧ tg m (A 10) = 18 ∧ tg m (A 11) = 9 ∧ tg m (A 12) = 19 ∧ tg m (A 13) = 6 ∧ tg m (A 14) = 20 ∧ tg m (A 15) = 7 ∧ tg m (A 16) = 21 ∧ tg m (A 17) = 22 ∧ tg m (A 18) = 23 ∧ tg m (A 19) = 13 ∧ tg m (A 20) = 26 ∧ ln m (A 1) = 20 ∧ ln m (A 4) = 4 ∧ ln m (A 5) = 4 ∧ ln m (A 7) = 40 ∧ ln m (A 8) = 40 ∧ ln m (A 10) = 10 ∧ ln m (A 12) = 8 ∧ ln m (A 14) = 20 ∧ ln m (A 16) = 200 ∧ ln m (A 17) = 200 ∧ ln m (A 18) = 200 ∧ ln m (A 19) = 4 ∧ ln m (A 20) = 400 ∧ gR m 1 0 (A 0) = A 1 ∧ gR m 1 1 (A 0) = A 2 ∧ gR m 2 0 (A 2) = A 3 ∧ gR m 2 1 (A 2) = A 6 ∧ gR m 2 2 (A 2) = A 9 ∧ gR m 2 4 (A 2) = A 13 ∧ gR m 2 5 (A 2) = A 15 ∧ gR m 2 6 (A 2) = A 19 ∧ gR m 3 0 (A 3) = A 4 ∧ gR m 3 1 (A 3) = A 5 ∧ gR m 4 0 (A 6) = A 7 ∧ gR m 4 1 (A 6) = A 8 ∧ gR m 5 0 (A 9) = A 10 ∧ gR m 5 1 (A 9) = A 11 ∧ gR m 5 2 (A 9) = A 12 ∧ gR m 6 0 (A 13) = A 14 ∧ gR m 7 0 (A 15) = A 16 ∧ gR m 7 1 (A 15) = A 17 ∧ gR m 7 2 (A 15) = A 18 ∧ gR m 9 0 (A 11) = A 20
theorem ShF.T0 {m : Mm} {A : Nat → Nat} (h : ShF m A) : tg m (A 0) = 1 := h.1
theorem ShF.T1 {m : Mm} {A : Nat → Nat} (h : ShF m A) : tg m (A 1) = 12 := h.2.1
theorem ShF.T2 {m : Mm} {A : Nat → Nat} (h : ShF m A) : tg m (A 2) = 2 := h.2.2.1
theorem ShF.T3 {m : Mm} {A : Nat → Nat} (h : ShF m A) : tg m (A 3) = 3 := h.2.2.2.1
theorem ShF.T4 {m : Mm} {A : Nat → Nat} (h : ShF m A) : tg m (A 4) = 14 := h.2.2.2.2.1
theorem ShF.T5 {m : Mm} {A : Nat → Nat} (h : ShF m A) : tg m (A 5) = 15 := h.2.2.2.2.2.1
theorem ShF.T6 {m : Mm} {A : Nat → Nat} (h : ShF m A) : tg m (A 6) = 4 := h.2.2.2.2.2.2.1
theorem ShF.T7 {m : Mm} {A : Nat → Nat} (h : ShF m A) : tg m (A 7) = 16 := h.2.2.2.2.2.2.2.1
theorem ShF.T8 {m : Mm} {A : Nat → Nat} (h : ShF m A) : tg m (A 8) = 17 := h.2.2.2.2.2.2.2.2.1
theorem ShF.T9 {m : Mm} {A : Nat → Nat} (h : ShF m A) : tg m (A 9) = 5 := h.2.2.2.2.2.2.2.2.2.1
theorem ShF.T10 {m : Mm} {A : Nat → Nat} (h : ShF m A) : tg m (A 10) = 18 := h.2.2.2.2.2.2.2.2.2.2.1
theorem ShF.T11 {m : Mm} {A : Nat → Nat} (h : ShF m A) : tg m (A 11) = 9 := h.2.2.2.2.2.2.2.2.2.2.2.1
theorem ShF.T12 {m : Mm} {A : Nat → Nat} (h : ShF m A) : tg m (A 12) = 19 := h.2.2.2.2.2.2.2.2.2.2.2.2.1
theorem ShF.T13 {m : Mm} {A : Nat → Nat} (h : ShF m A) : tg m (A 13) = 6 := h.2.2.2.2.2.2.2.2.2.2.2.2.2.1
theorem ShF.T14 {m : Mm} {A : Nat → Nat} (h : ShF m A) : tg m (A 14) = 20 := h.2.2.2.2.2.2.2.2.2.2.2.2.2.2.1
theorem ShF.T15 {m : Mm} {A : Nat → Nat} (h : ShF m A) : tg m (A 15) = 7 := h.2.2.2.2.2.2.2.2.2.2.2.2.2.2.2.1
theorem ShF.T16 {m : Mm} {A : Nat → Nat} (h : ShF m A) : tg m (A 16) = 21 := h.2.2.2.2.2.2.2.2.2.2.2.2.2.2.2.2.1
theorem ShF.T17 {m : Mm} {A : Nat → Nat} (h : ShF m A) : tg m (A 17) = 22 := h.2.2.2.2.2.2.2.2.2.2.2.2.2.2.2.2.2.1
theorem ShF.T18 {m : Mm} {A : Nat → Nat} (h : ShF m A) : tg m (A 18) = 23 := h.2.2.2.2.2.2.2.2.2.2.2.2.2.2.2.2.2.2.1
theorem ShF.T19 {m : Mm} {A : Nat → Nat} (h : ShF m A) : tg m (A 19) = 13 := h.2.2.2.2.2.2.2.2.2.2.2.2.2.2.2.2.2.2.2.1
theorem ShF.T20 {m : Mm} {A : Nat → Nat} (h : ShF m A) : tg m (A 20) = 26 := h.2.2.2.2.2.2.2.2.2.2.2.2.2.2.2.2.2.2.2.2.1
theorem ShF.L1 {m : Mm} {A : Nat → Nat} (h : ShF m A) : ln m (A 1) = 20 := h.2.2.2.2.2.2.2.2.2.2.2.2.2.2.2.2.2.2.2.2.2.1
theorem ShF.L4 {m : Mm} {A : Nat → Nat} (h : ShF m A) : ln m (A 4) = 4 := h.2.2.2.2.2.2.2.2.2.2.2.2.2.2.2.2.2.2.2.2.2.2.1
theorem ShF.L5 {m : Mm} {A : Nat → Nat} (h : ShF m A) : ln m (A 5) = 4 := h.2.2.2.2.2.2.2.2.2.2.2.2.2.2.2.2.2.2.2.2.2.2.2.1
theorem ShF.L7 {m : Mm} {A : Nat → Nat} (h : ShF m A) : ln m (A 7) = 40 := h.2.2.2.2.2.2.2.2.2.2.2.2.2.2.2.2.2.2.2.2.2.2.2.2.1
theorem ShF.L8 {m : Mm} {A : Nat → Nat} (h : ShF m A) : ln m (A 8) = 40 := h.2.2.2.2.2.2.2.2.2.2.2.2.2.2.2.2.2.2.2.2.2.2.2.2.2.1
theorem ShF.L10 {m : Mm} {A : Nat → Nat} (h : ShF m A) : ln m (A 10) = 10 := h.2.2.2.2.2.2.2.2.2.2.2.2.2.2.2.2.2.2.2.2.2.2.2.2.2.2.1
theorem ShF.L12 {m : Mm} {A : Nat → Nat} (h : ShF m A) : ln m (A 12) = 8 := h.2.2.2.2.2.2.2.2.2.2.2.2.2.2.2.2.2.2.2.2.2.2.2.2.2.2.2.1
theorem ShF.L14 {m : Mm} {A : Nat → Nat} (h : ShF m A) : ln m (A 14) = 20 := h.2.2.2.2.2.2.2.2.2.2.2.2.2.2.2.2.2.2.2.2.2.2.2.2.2.2.2.2.1
theorem ShF.L16 {m : Mm} {A : Nat → Nat} (h : ShF m A) : ln m (A 16) = 200 := h.2.2.2.2.2.2.2.2.2.2.2.2.2.2.2.2.2.2.2.2.2.2.2.2.2.2.2.2.2.1
theorem ShF.L17 {m : Mm} {A : Nat → Nat} (h : ShF m A) : ln m (A 17) = 200 := h.2.2.2.2.2.2.2.2.2.2.2.2.2.2.2.2.2.2.2.2.2.2.2.2.2.2.2.2.2.2.1
theorem ShF.L18 {m : Mm} {A : Nat → Nat} (h : ShF m A) : ln m (A 18) = 200 := h.2.2.2.2.2.2.2.2.2.2.2.2.2.2.2.2.2.2.2.2.2.2.2.2.2.2.2.2.2.2.2.1
theorem ShF.L19 {m : Mm} {A : Nat → Nat} (h : ShF m A) : ln m (A 19) = 4 := h.2.2.2.2.2.2.2.2.2.2.2.2.2.2.2.2.2.2.2.2.2.2.2.2.2.2.2.2.2.2.2.2.1
theorem ShF.L20 {m : Mm} {A : Nat → Nat} (h : ShF m A) : ln m (A 20) = 400 := h.2.2.2.2.2.2.2.2.2.2.2.2.2.2.2.2.2.2.2.2.2.2.2.2.2.2.2.2.2.2.2.2.2.1
theorem ShF.R1_0 {m : Mm} {A : Nat → Nat} (h : ShF m A) : gR m 1 0 (A 0) = A 1 := h.2.2.2.2.2.2.2.2.2.2.2.2.2.2.2.2.2.2.2.2.2.2.2.2.2.2.2.2.2.2.2.2.2.2.1
theorem ShF.R1_1 {m : Mm} {A : Nat → Nat} (h : ShF m A) : gR m 1 1 (A 0) = A 2 := h.2.2.2.2.2.2.2.2.2.2.2.2.2.2.2.2.2.2.2.2.2.2.2.2.2.2.2.2.2.2.2.2.2.2.2.1
theorem ShF.R2_0 {m : Mm} {A : Nat → Nat} (h : ShF m A) : gR m 2 0 (A 2) = A 3 := h.2.2.2.2.2.2.2.2.2.2.2.2.2.2.2.2.2.2.2.2.2.2.2.2.2.2.2.2.2.2.2.2.2.2.2.2.1
theorem ShF.R2_1 {m : Mm} {A : Nat → Nat} (h : ShF m A) : gR m 2 1 (A 2) = A 6 := h.2.2.2.2.2.2.2.2.2.2.2.2.2.2.2.2.2.2.2.2.2.2.2.2.2.2.2.2.2.2.2.2.2.2.2.2.2.1
theorem ShF.R2_2 {m : Mm} {A : Nat → Nat} (h : ShF m A) : gR m 2 2 (A 2) = A 9 := h.2.2.2.2.2.2.2.2.2.2.2.2.2.2.2.2.2.2.2.2.2.2.2.2.2.2.2.2.2.2.2.2.2.2.2.2.2.2.1
theorem ShF.R2_4 {m : Mm} {A : Nat → Nat} (h : ShF m A) : gR m 2 4 (A 2) = A 13 := h.2.2.2.2.2.2.2.2.2.2.2.2.2.2.2.2.2.2.2.2.2.2.2.2.2.2.2.2.2.2.2.2.2.2.2.2.2.2.2.1
theorem ShF.R2_5 {m : Mm} {A : Nat → Nat} (h : ShF m A) : gR m 2 5 (A 2) = A 15 := h.2.2.2.2.2.2.2.2.2.2.2.2.2.2.2.2.2.2.2.2.2.2.2.2.2.2.2.2.2.2.2.2.2.2.2.2.2.2.2.2.1
theorem ShF.R2_6 {m : Mm} {A : Nat → Nat} (h : ShF m A) : gR m 2 6 (A 2) = A 19 := h.2.2.2.2.2.2.2.2.2.2.2.2.2.2.2.2.2.2.2.2.2.2.2.2.2.2.2.2.2.2.2.2.2.2.2.2.2.2.2.2.2.1
theorem ShF.R3_0 {m : Mm} {A : Nat → Nat} (h : ShF m A) : gR m 3 0 (A 3) = A 4 := h.2.2.2.2.2.2.2.2.2.2.2.2.2.2.2.2.2.2.2.2.2.2.2.2.2.2.2.2.2.2.2.2.2.2.2.2.2.2.2.2.2.2.1
theorem ShF.R3_1 {m : Mm} {A : Nat → Nat} (h : ShF m A) : gR m 3 1 (A 3) = A 5 := h.2.2.2.2.2.2.2.2.2.2.2.2.2.2.2.2.2.2.2.2.2.2.2.2.2.2.2.2.2.2.2.2.2.2.2.2.2.2.2.2.2.2.2.1
theorem ShF.R4_0 {m : Mm} {A : Nat → Nat} (h : ShF m A) : gR m 4 0 (A 6) = A 7 := h.2.2.2.2.2.2.2.2.2.2.2.2.2.2.2.2.2.2.2.2.2.2.2.2.2.2.2.2.2.2.2.2.2.2.2.2.2.2.2.2.2.2.2.2.1
theorem ShF.R4_1 {m : Mm} {A : Nat → Nat} (h : ShF m A) : gR m 4 1 (A 6) = A 8 := h.2.2.2.2.2.2.2.2.2.2.2.2.2.2.2.2.2.2.2.2.2.2.2.2.2.2.2.2.2.2.2.2.2.2.2.2.2.2.2.2.2.2.2.2.2.1
theorem ShF.R5_0 {m : Mm} {A : Nat → Nat} (h : ShF m A) : gR m 5 0 (A 9) = A 10 := h.2.2.2.2.2.2.2.2.2.2.2.2.2.2.2.2.2.2.2.2.2.2.2.2.2.2.2.2.2.2.2.2.2.2.2.2.2.2.2.2.2.2.2.2.2.2.1
theorem ShF.R5_1 {m : Mm} {A : Nat → Nat} (h : ShF m A) : gR m 5 1 (A 9) = A 11 := h.2.2.2.2.2.2.2.2.2.2.2.2.2.2.2.2.2.2.2.2.2.2.2.2.2.2.2.2.2.2.2.2.2.2.2.2.2.2.2.2.2.2.2.2.2.2.2.1
theorem ShF.R5_2 {m : Mm} {A : Nat → Nat} (h : ShF m A) : gR m 5 2 (A 9) = A 12 := h.2.2.2.2.2.2.2.2.2.2.2.2.2.2.2.2.2.2.2.2.2.2.2.2.2.2.2.2.2.2.2.2.2.2.2.2.2.2.2.2.2.2.2.2.2.2.2.2.1
theorem ShF.R6_0 {m : Mm} {A : Nat → Nat} (h : ShF m A) : gR m 6 0 (A 13) = A 14 := h.2.2.2.2.2.2.2.2.2.2.2.2.2.2.2.2.2.2.2.2.2.2.2.2.2.2.2.2.2.2.2.2.2.2.2.2.2.2.2.2.2.2.2.2.2.2.2.2.2.1
theorem ShF.R7_0 {m : Mm} {A : Nat → Nat} (h : ShF m A) : gR m 7 0 (A 15) = A 16 := h.2.2.2.2.2.2.2.2.2.2.2.2.2.2.2.2.2.2.2.2.2.2.2.2.2.2.2.2.2.2.2.2.2.2.2.2.2.2.2.2.2.2.2.2.2.2.2.2.2.2.1
theorem ShF.R7_1 {m : Mm} {A : Nat → Nat} (h : ShF m A) : gR m 7 1 (A 15) = A 17 := h.2.2.2.2.2.2.2.2.2.2.2.2.2.2.2.2.2.2.2.2.2.2.2.2.2.2.2.2.2.2.2.2.2.2.2.2.2.2.2.2.2.2.2.2.2.2.2.2.2.2.2.1
theorem ShF.R7_2 {m : Mm} {A : Nat → Nat} (h : ShF m A) : gR m 7 2 (A 15) = A 18 := h.2.2.2.2.2.2.2.2.2.2.2.2.2.2.2.2.2.2.2.2.2.2.2.2.2.2.2.2.2.2.2.2.2.2.2.2.2.2.2.2.2.2.2.2.2.2.2.2.2.2.2.2.1
theorem ShF.R9_0 {m : Mm} {A : Nat → Nat} (h : ShF m A) : gR m 9 0 (A 11) = A 20 := h.2.2.2.2.2.2.2.2.2.2.2.2.2.2.2.2.2.2.2.2.2.2.2.2.2.2.2.2.2.2.2.2.2.2.2.2.2.2.2.2.2.2.2.2.2.2.2.2.2.2.2.2.2
def dmA (n x : Nat) : Prop := x ≤ 20 ∨ (30 ≤ x ∧ x < 50) ∨ (51 ≤ x ∧ x < 58) ∨ (61 ≤ x ∧ x < 68) ∨ (100 ≤ x ∧ x < 100 + n) ∨ (130 ≤ x ∧ x < 130 + n) ∨ (160 ≤ x ∧ x < 160 + n)
def ShV (m : Mm) (A : Nat → Nat) (n : Nat) : Prop := (∀ i, i < 10 → aR m 18 (A 10) i = A (30 + i) ∧ tg m (A (30 + i)) = 9 ∧ gR m 9 0 (A (30 + i)) = A (40 + i) ∧ tg m (A (40 + i)) = 26 ∧ ln m (A (40 + i)) = 100) ∧ (∀ i, 1 ≤ i → i < 8 → aR m 19 (A 12) i = A (50 + i) ∧ tg m (A (50 + i)) = 10 ∧ gR m 10 0 (A (50 + i)) = A (60 + i) ∧ tg m (A (60 + i)) = 27 ∧ ln m (A (60 + i)) = 3) ∧ (∀ i, i < n → aR m 12 (A 1) i = A (100 + i) ∧ tg m (A (100 + i)) = 8 ∧ gR m 8 0 (A (100 + i)) = A (130 + i) ∧ gR m 8 1 (A (100 + i)) = A (160 + i) ∧ tg m (A (130 + i)) = 24 ∧ ln m (A (130 + i)) = 200 ∧ tg m (A (160 + i)) = 25 ∧ ln m (A (160 + i)) = 40) ∧ (∀ x y, dmA n x → dmA n y → A x = A y → x = y) ∧ (∀ x, dmA n x → A x ≠ 0)
def hsA (A : Nat → Nat) (σ : Sg) (h : Nat) : Nat := if h = 1 then A 11 else A (30 + fN σ 17 h)
def HC (m : Mm) (A : Nat → Nat) (σ : Sg) (h : Nat) : Prop := (fN σ 16 h = 0 → gR m 10 4 (A (50 + h)) = 0) ∧ (fN σ 16 h ≠ 0 → gR m 10 4 (A (50 + h)) = hsA A σ h ∧ gI m 10 1 (A (50 + h)) = nI (fN σ 20 h) ∧ gI m 10 3 (A (50 + h)) = nI (fN σ 19 h) ∧ gI m 10 5 (A (50 + h)) = nI (fN σ 18 h)) ∧ (∀ i, i < 3 → aI m 27 (A (60 + h)) i = nI (fN σ 21 (3 * h + i)))
def JS (m : Mm) (A : Nat → Nat) (σ : Sg) (j : Nat) : Prop := gI m 8 2 (A (100 + j)) = nI (fN σ 4 j) ∧ (∀ i, i < fN σ 4 j → aI m 24 (A (130 + j)) i = fD σ 3 (200 * j + i))
def JT (m : Mm) (A : Nat → Nat) (σ : Sg) (j : Nat) : Prop := gI m 8 4 (A (100 + j)) = nI (fN σ 5 (6 * j)) ∧ gI m 8 5 (A (100 + j)) = nI (fN σ 5 (6 * j + 1)) ∧ gI m 8 6 (A (100 + j)) = nI (fN σ 5 (6 * j + 2)) ∧ gI m 8 3 (A (100 + j)) = nI (fN σ 5 (6 * j + 3)) ∧ gI m 8 7 (A (100 + j)) = nI (fN σ 5 (6 * j + 4)) ∧ gI m 8 8 (A (100 + j)) = nI (fN σ 5 (6 * j + 5)) ∧ (∀ i, i < fN σ 5 (6 * j + 3) → aI m 25 (A (160 + j)) i = fD σ 6 (40 * j + i))
/-- numbers and switches -/
def CN (m : Mm) (A : Nat → Nat) (σ : Sg) : Prop := gI m 1 2 (A 0) = nI (fF σ 2) ∧ gI m 1 3 (A 0) = nI (fF σ 24) ∧ gI m 2 3 (A 2) = nI (fF σ 1)
def CD (m : Mm) (A : Nat → Nat) (σ : Sg) : Prop := ∀ i, i < 4 → aI m 14 (A 4) i = nI (fN σ 7 i)
def CR (m : Mm) (A : Nat → Nat) (σ : Sg) : Prop := ∀ i, i < 40 → aI m 16 (A 7) i = fD σ 8 i
def CS (m : Mm) (A : Nat → Nat) (σ : Sg) : Prop := (∀ n, n < 10 → gI m 9 1 (A (30 + n)) = nI (fN σ 12 n) ∧ gI m 9 2 (A (30 + n)) = nI (fN σ 11 n) ∧ ∀ i, i < 100 → aI m 26 (A (40 + n)) i = fD σ 13 (100 * n + i)) ∧ gI m 9 1 (A 11) = nI (fF σ 15) ∧ (∀ i, i < 400 → aI m 26 (A 20) i = fD σ 14 i)
/-- the class holds σ: w says which handles are of a job, c which jobs have told -/
def RC (m : Mm) (A : Nat → Nat) (σ : Sg) (w : Nat → Nat) (c : Nat → Prop) : Prop := ShF m A ∧ ShV m A (fF σ 2) ∧ CN m A σ ∧ CD m A σ ∧ CR m A σ ∧ CS m A σ ∧ (∀ h, 1 ≤ h → h < 8 → HC m A σ h) ∧ (∀ h, 1 ≤ h → h < 8 → gI m 10 6 (A (50 + h)) = nI (w h)) ∧ (∀ j, j < fF σ 2 → JS m A σ j) ∧ (∀ j, j < fF σ 2 → c j → JT m A σ j)
/-- the reference's object at a, its arrays at B, holds σ -/
def RM (m : Mm) (a : Nat) (B : Nat → Nat) (σ : Sg) : Prop := tg m a = 11 ∧ (∀ f ∈ aN ++ aD, gR m 11 f a = B f ∧ tg m (B f) = kd f ∧ ln m (B f) = al f) ∧ (∀ f ∈ sN, gI m 11 f a = nI (fF σ f)) ∧ gI m 11 30 a = fM σ ∧ (∀ f ∈ aN, ∀ i, i < al f → aI m (kd f) (B f) i = nI (fN σ f i)) ∧ (∀ f ∈ aD, ∀ i, i < al f → aI m (kd f) (B f) i = fD σ f i)
theorem RZ.of {m : Mm} {a : Nat} {B : Nat → Nat} {σ : Sg} {Z : Mm → Prop} (h : RM m a B σ) (hc : Zc Z) (hz : Z m) : RZ Z m a B σ := ⟨h.1, h.2.1, h.2.2.1, h.2.2.2.1, h.2.2.2.2.1, h.2.2.2.2.2, hc, hz⟩
theorem RZ.rm {m : Mm} {a : Nat} {B : Nat → Nat} {σ : Sg} {Z : Mm → Prop} (h : RZ Z m a B σ) : RM m a B σ := ⟨h.1, h.2.1, h.2.2.1, h.2.2.2.1, h.2.2.2.2.1, h.2.2.2.2.2.1⟩
theorem RZ.z {m : Mm} {a : Nat} {B : Nat → Nat} {σ : Sg} {Z : Mm → Prop} (h : RZ Z m a B σ) : Z m := h.2.2.2.2.2.2.2
/-! what the class does leaves the reference -/
theorem kd_ge : ∀ f ∈ aN ++ aD, 28 ≤ kd f := by decide
theorem RM.oI {m : Mm} {a : Nat} {B : Nat → Nat} {σ : Sg} (h : RM m a B σ) {k : Nat} (hk : k ≠ 11) (i x : Nat) (v : Int32) : RM (sI m k i x v) a B σ := by
  obtain ⟨h1, h2, h3, h4, h5, h6⟩ := h
  refine ⟨h1, h2, fun f hf => ?_, ?_, h5, h6⟩
  · rw [gI_sI, if_neg (fun e => hk e.1.symm)]; exact h3 f hf
  · rw [gI_sI, if_neg (fun e => hk e.1.symm)]; exact h4
theorem RM.oR {m : Mm} {a : Nat} {B : Nat → Nat} {σ : Sg} (h : RM m a B σ) {k : Nat} (hk : k ≠ 11) (i x v : Nat) : RM (sR m k i x v) a B σ := by
  obtain ⟨h1, h2, h3, h4, h5, h6⟩ := h
  refine ⟨h1, fun f hf => ?_, h3, h4, h5, h6⟩
  obtain ⟨a1, a2, a3⟩ := h2 f hf
  refine ⟨?_, a2, a3⟩
  rw [gR_sR, if_neg (fun e => hk e.1.symm)]; exact a1
theorem RM.oW {m : Mm} {a : Nat} {B : Nat → Nat} {σ : Sg} (h : RM m a B σ) {k : Nat} (hk : k < 28) (x i : Nat) (v : Int32) : RM (wI m k x i v) a B σ := by
  obtain ⟨h1, h2, h3, h4, h5, h6⟩ := h
  refine ⟨h1, h2, h3, h4, fun f hf j hj => ?_, fun f hf j hj => ?_⟩
  · rw [aI_wI, if_neg (fun e => by have := kd_ge f (List.mem_append_left _ hf); omega)]; exact h5 f hf j hj
  · rw [aI_wI, if_neg (fun e => by have := kd_ge f (List.mem_append_right _ hf); omega)]; exact h6 f hf j hj
theorem RM.oC {m : Mm} {a : Nat} {B : Nat → Nat} {σ : Sg} (h : RM m a B σ) {k : Nat} (hk : k < 28) (x : Nat) (g : Nat → Int32) : RM (wC m k x g) a B σ := by
  obtain ⟨h1, h2, h3, h4, h5, h6⟩ := h
  refine ⟨h1, h2, h3, h4, fun f hf j hj => ?_, fun f hf j hj => ?_⟩
  · rw [aI_wC, if_neg (fun e => by have := kd_ge f (List.mem_append_left _ hf); omega)]; exact h5 f hf j hj
  · rw [aI_wC, if_neg (fun e => by have := kd_ge f (List.mem_append_right _ hf); omega)]; exact h6 f hf j hj
theorem RM.oWR {m : Mm} {a : Nat} {B : Nat → Nat} {σ : Sg} (h : RM m a B σ) (k x i v : Nat) : RM (wR m k x i v) a B σ := h
theorem RM.oN {m : Mm} {a : Nat} {B : Nat → Nat} {σ : Sg} (h : RM m a B σ) {q : Nat} (hq : tg m q = 0) (k : Nat) : RM (nO m k q) a B σ := by
  obtain ⟨h1, h2, h3, h4, h5, h6⟩ := h
  have ha : a ≠ q := fun e => by rw [e, hq] at h1; cases h1
  have hB : ∀ f ∈ aN ++ aD, B f ≠ q := fun f hf e => by have := (h2 f hf).2.1; have := kd_ge f hf; rw [e, hq] at *; omega
  refine ⟨?_, fun f hf => ⟨?_, ?_, (h2 f hf).2.2⟩, fun f hf => ?_, ?_, h5, h6⟩
  · rw [tg_nO, if_neg ha]; exact h1
  · rw [gR_nO, if_neg ha]; exact (h2 f hf).1
  · rw [tg_nO, if_neg (hB f hf)]; exact (h2 f hf).2.1
  · rw [gI_nO, if_neg ha]; exact h3 f hf
  · rw [gI_nO, if_neg ha]; exact h4
theorem RM.oA {m : Mm} {a : Nat} {B : Nat → Nat} {σ : Sg} (h : RM m a B σ) {q : Nat} (hq : tg m q = 0) (k n : Nat) : RM (nA m k q n) a B σ := by
  obtain ⟨h1, h2, h3, h4, h5, h6⟩ := h
  have ha : a ≠ q := fun e => by rw [e, hq] at h1; cases h1
  have hB : ∀ f ∈ aN ++ aD, B f ≠ q := fun f hf e => by have := (h2 f hf).2.1; have := kd_ge f hf; rw [e, hq] at *; omega
  refine ⟨?_, fun f hf => ⟨(h2 f hf).1, ?_, ?_⟩, h3, h4, fun f hf j hj => ?_, fun f hf j hj => ?_⟩
  · rw [tg_nA, if_neg ha]; exact h1
  · rw [tg_nA, if_neg (hB f hf)]; exact (h2 f hf).2.1
  · rw [ln_nA, if_neg (hB f hf)]; exact (h2 f hf).2.2
  · rw [aI_nA, if_neg (hB f (List.mem_append_left _ hf))]; exact h5 f hf j hj
  · rw [aI_nA, if_neg (hB f (List.mem_append_right _ hf))]; exact h6 f hf j hj

