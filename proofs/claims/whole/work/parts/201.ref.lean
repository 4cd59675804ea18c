theorem eL_0 {a : Nat} (h : a < 2 ^ 31) : (nI a = (0 : Int32)) = (a = 0) := c_eq (b := 0) h (by decide)
theorem ltL_0 {a : Nat} (h : a < 2 ^ 31) : (nI a < (0 : Int32)) = (a < 0) := c_lt (b := 0) h (by decide)
theorem gtL_0 {a : Nat} (h : a < 2 ^ 31) : ((0 : Int32) < nI a) = (0 < a) := c_lt (a := 0) (by decide) h
theorem leL_0 {a : Nat} (h : a < 2 ^ 31) : (nI a ≤ (0 : Int32)) = (a ≤ 0) := c_le (b := 0) h (by decide)
theorem geL_0 {a : Nat} (h : a < 2 ^ 31) : ((0 : Int32) ≤ nI a) = (0 ≤ a) := c_le (a := 0) (by decide) h
theorem eL_1 {a : Nat} (h : a < 2 ^ 31) : (nI a = (1 : Int32)) = (a = 1) := c_eq (b := 1) h (by decide)
theorem ltL_1 {a : Nat} (h : a < 2 ^ 31) : (nI a < (1 : Int32)) = (a < 1) := c_lt (b := 1) h (by decide)
theorem gtL_1 {a : Nat} (h : a < 2 ^ 31) : ((1 : Int32) < nI a) = (1 < a) := c_lt (a := 1) (by decide) h
theorem leL_1 {a : Nat} (h : a < 2 ^ 31) : (nI a ≤ (1 : Int32)) = (a ≤ 1) := c_le (b := 1) h (by decide)
theorem geL_1 {a : Nat} (h : a < 2 ^ 31) : ((1 : Int32) ≤ nI a) = (1 ≤ a) := c_le (a := 1) (by decide) h
theorem eL_2 {a : Nat} (h : a < 2 ^ 31) : (nI a = (2 : Int32)) = (a = 2) := c_eq (b := 2) h (by decide)
theorem ltL_2 {a : Nat} (h : a < 2 ^ 31) : (nI a < (2 : Int32)) = (a < 2) := c_lt (b := 2) h (by decide)
theorem gtL_2 {a : Nat} (h : a < 2 ^ 31) : ((2 : Int32) < nI a) = (2 < a) := c_lt (a := 2) (by decide) h
theorem leL_2 {a : Nat} (h : a < 2 ^ 31) : (nI a ≤ (2 : Int32)) = (a ≤ 2) := c_le (b := 2) h (by decide)
theorem geL_2 {a : Nat} (h : a < 2 ^ 31) : ((2 : Int32) ≤ nI a) = (2 ≤ a) := c_le (a := 2) (by decide) h
theorem eL_3 {a : Nat} (h : a < 2 ^ 31) : (nI a = (3 : Int32)) = (a = 3) := c_eq (b := 3) h (by decide)
theorem ltL_3 {a : Nat} (h : a < 2 ^ 31) : (nI a < (3 : Int32)) = (a < 3) := c_lt (b := 3) h (by decide)
theorem gtL_3 {a : Nat} (h : a < 2 ^ 31) : ((3 : Int32) < nI a) = (3 < a) := c_lt (a := 3) (by decide) h
theorem leL_3 {a : Nat} (h : a < 2 ^ 31) : (nI a ≤ (3 : Int32)) = (a ≤ 3) := c_le (b := 3) h (by decide)
theorem geL_3 {a : Nat} (h : a < 2 ^ 31) : ((3 : Int32) ≤ nI a) = (3 ≤ a) := c_le (a := 3) (by decide) h
theorem eL_4 {a : Nat} (h : a < 2 ^ 31) : (nI a = (4 : Int32)) = (a = 4) := c_eq (b := 4) h (by decide)
theorem ltL_4 {a : Nat} (h : a < 2 ^ 31) : (nI a < (4 : Int32)) = (a < 4) := c_lt (b := 4) h (by decide)
theorem gtL_4 {a : Nat} (h : a < 2 ^ 31) : ((4 : Int32) < nI a) = (4 < a) := c_lt (a := 4) (by decide) h
theorem leL_4 {a : Nat} (h : a < 2 ^ 31) : (nI a ≤ (4 : Int32)) = (a ≤ 4) := c_le (b := 4) h (by decide)
theorem geL_4 {a : Nat} (h : a < 2 ^ 31) : ((4 : Int32) ≤ nI a) = (4 ≤ a) := c_le (a := 4) (by decide) h
theorem eL_5 {a : Nat} (h : a < 2 ^ 31) : (nI a = (5 : Int32)) = (a = 5) := c_eq (b := 5) h (by decide)
theorem ltL_5 {a : Nat} (h : a < 2 ^ 31) : (nI a < (5 : Int32)) = (a < 5) := c_lt (b := 5) h (by decide)
theorem gtL_5 {a : Nat} (h : a < 2 ^ 31) : ((5 : Int32) < nI a) = (5 < a) := c_lt (a := 5) (by decide) h
theorem leL_5 {a : Nat} (h : a < 2 ^ 31) : (nI a ≤ (5 : Int32)) = (a ≤ 5) := c_le (b := 5) h (by decide)
theorem geL_5 {a : Nat} (h : a < 2 ^ 31) : ((5 : Int32) ≤ nI a) = (5 ≤ a) := c_le (a := 5) (by decide) h
theorem eL_6 {a : Nat} (h : a < 2 ^ 31) : (nI a = (6 : Int32)) = (a = 6) := c_eq (b := 6) h (by decide)
theorem ltL_6 {a : Nat} (h : a < 2 ^ 31) : (nI a < (6 : Int32)) = (a < 6) := c_lt (b := 6) h (by decide)
theorem gtL_6 {a : Nat} (h : a < 2 ^ 31) : ((6 : Int32) < nI a) = (6 < a) := c_lt (a := 6) (by decide) h
theorem leL_6 {a : Nat} (h : a < 2 ^ 31) : (nI a ≤ (6 : Int32)) = (a ≤ 6) := c_le (b := 6) h (by decide)
theorem geL_6 {a : Nat} (h : a < 2 ^ 31) : ((6 : Int32) ≤ nI a) = (6 ≤ a) := c_le (a := 6) (by decide) h
theorem eL_7 {a : Nat} (h : a < 2 ^ 31) : (nI a = (7 : Int32)) = (a = 7) := c_eq (b := 7) h (by decide)
theorem ltL_7 {a : Nat} (h : a < 2 ^ 31) : (nI a < (7 : Int32)) = (a < 7) := c_lt (b := 7) h (by decide)
theorem gtL_7 {a : Nat} (h : a < 2 ^ 31) : ((7 : Int32) < nI a) = (7 < a) := c_lt (a := 7) (by decide) h
theorem leL_7 {a : Nat} (h : a < 2 ^ 31) : (nI a ≤ (7 : Int32)) = (a ≤ 7) := c_le (b := 7) h (by decide)
theorem geL_7 {a : Nat} (h : a < 2 ^ 31) : ((7 : Int32) ≤ nI a) = (7 ≤ a) := c_le (a := 7) (by decide) h
theorem eL_8 {a : Nat} (h : a < 2 ^ 31) : (nI a = (8 : Int32)) = (a = 8) := c_eq (b := 8) h (by decide)
theorem ltL_8 {a : Nat} (h : a < 2 ^ 31) : (nI a < (8 : Int32)) = (a < 8) := c_lt (b := 8) h (by decide)
theorem gtL_8 {a : Nat} (h : a < 2 ^ 31) : ((8 : Int32) < nI a) = (8 < a) := c_lt (a := 8) (by decide) h
theorem leL_8 {a : Nat} (h : a < 2 ^ 31) : (nI a ≤ (8 : Int32)) = (a ≤ 8) := c_le (b := 8) h (by decide)
theorem geL_8 {a : Nat} (h : a < 2 ^ 31) : ((8 : Int32) ≤ nI a) = (8 ≤ a) := c_le (a := 8) (by decide) h
theorem eL_9 {a : Nat} (h : a < 2 ^ 31) : (nI a = (9 : Int32)) = (a = 9) := c_eq (b := 9) h (by decide)
theorem ltL_9 {a : Nat} (h : a < 2 ^ 31) : (nI a < (9 : Int32)) = (a < 9) := c_lt (b := 9) h (by decide)
theorem gtL_9 {a : Nat} (h : a < 2 ^ 31) : ((9 : Int32) < nI a) = (9 < a) := c_lt (a := 9) (by decide) h
theorem leL_9 {a : Nat} (h : a < 2 ^ 31) : (nI a ≤ (9 : Int32)) = (a ≤ 9) := c_le (b := 9) h (by decide)
theorem geL_9 {a : Nat} (h : a < 2 ^ 31) : ((9 : Int32) ≤ nI a) = (9 ≤ a) := c_le (a := 9) (by decide) h
theorem eL_10 {a : Nat} (h : a < 2 ^ 31) : (nI a = (10 : Int32)) = (a = 10) := c_eq (b := 10) h (by decide)
theorem ltL_10 {a : Nat} (h : a < 2 ^ 31) : (nI a < (10 : Int32)) = (a < 10) := c_lt (b := 10) h (by decide)
theorem gtL_10 {a : Nat} (h : a < 2 ^ 31) : ((10 : Int32) < nI a) = (10 < a) := c_lt (a := 10) (by decide) h
theorem leL_10 {a : Nat} (h : a < 2 ^ 31) : (nI a ≤ (10 : Int32)) = (a ≤ 10) := c_le (b := 10) h (by decide)
theorem geL_10 {a : Nat} (h : a < 2 ^ 31) : ((10 : Int32) ≤ nI a) = (10 ≤ a) := c_le (a := 10) (by decide) h
theorem eL_16 {a : Nat} (h : a < 2 ^ 31) : (nI a = (16 : Int32)) = (a = 16) := c_eq (b := 16) h (by decide)
theorem ltL_16 {a : Nat} (h : a < 2 ^ 31) : (nI a < (16 : Int32)) = (a < 16) := c_lt (b := 16) h (by decide)
theorem gtL_16 {a : Nat} (h : a < 2 ^ 31) : ((16 : Int32) < nI a) = (16 < a) := c_lt (a := 16) (by decide) h
theorem leL_16 {a : Nat} (h : a < 2 ^ 31) : (nI a ≤ (16 : Int32)) = (a ≤ 16) := c_le (b := 16) h (by decide)
theorem geL_16 {a : Nat} (h : a < 2 ^ 31) : ((16 : Int32) ≤ nI a) = (16 ≤ a) := c_le (a := 16) (by decide) h
theorem eL_20 {a : Nat} (h : a < 2 ^ 31) : (nI a = (20 : Int32)) = (a = 20) := c_eq (b := 20) h (by decide)
theorem ltL_20 {a : Nat} (h : a < 2 ^ 31) : (nI a < (20 : Int32)) = (a < 20) := c_lt (b := 20) h (by decide)
theorem gtL_20 {a : Nat} (h : a < 2 ^ 31) : ((20 : Int32) < nI a) = (20 < a) := c_lt (a := 20) (by decide) h
theorem leL_20 {a : Nat} (h : a < 2 ^ 31) : (nI a ≤ (20 : Int32)) = (a ≤ 20) := c_le (b := 20) h (by decide)
theorem geL_20 {a : Nat} (h : a < 2 ^ 31) : ((20 : Int32) ≤ nI a) = (20 ≤ a) := c_le (a := 20) (by decide) h
theorem eL_32 {a : Nat} (h : a < 2 ^ 31) : (nI a = (32 : Int32)) = (a = 32) := c_eq (b := 32) h (by decide)
theorem ltL_32 {a : Nat} (h : a < 2 ^ 31) : (nI a < (32 : Int32)) = (a < 32) := c_lt (b := 32) h (by decide)
theorem gtL_32 {a : Nat} (h : a < 2 ^ 31) : ((32 : Int32) < nI a) = (32 < a) := c_lt (a := 32) (by decide) h
theorem leL_32 {a : Nat} (h : a < 2 ^ 31) : (nI a ≤ (32 : Int32)) = (a ≤ 32) := c_le (b := 32) h (by decide)
theorem geL_32 {a : Nat} (h : a < 2 ^ 31) : ((32 : Int32) ≤ nI a) = (32 ≤ a) := c_le (a := 32) (by decide) h
theorem eL_40 {a : Nat} (h : a < 2 ^ 31) : (nI a = (40 : Int32)) = (a = 40) := c_eq (b := 40) h (by decide)
theorem ltL_40 {a : Nat} (h : a < 2 ^ 31) : (nI a < (40 : Int32)) = (a < 40) := c_lt (b := 40) h (by decide)
theorem gtL_40 {a : Nat} (h : a < 2 ^ 31) : ((40 : Int32) < nI a) = (40 < a) := c_lt (a := 40) (by decide) h
theorem leL_40 {a : Nat} (h : a < 2 ^ 31) : (nI a ≤ (40 : Int32)) = (a ≤ 40) := c_le (b := 40) h (by decide)
theorem geL_40 {a : Nat} (h : a < 2 ^ 31) : ((40 : Int32) ≤ nI a) = (40 ≤ a) := c_le (a := 40) (by decide) h
theorem eL_100 {a : Nat} (h : a < 2 ^ 31) : (nI a = (100 : Int32)) = (a = 100) := c_eq (b := 100) h (by decide)
theorem ltL_100 {a : Nat} (h : a < 2 ^ 31) : (nI a < (100 : Int32)) = (a < 100) := c_lt (b := 100) h (by decide)
theorem gtL_100 {a : Nat} (h : a < 2 ^ 31) : ((100 : Int32) < nI a) = (100 < a) := c_lt (a := 100) (by decide) h
theorem leL_100 {a : Nat} (h : a < 2 ^ 31) : (nI a ≤ (100 : Int32)) = (a ≤ 100) := c_le (b := 100) h (by decide)
theorem geL_100 {a : Nat} (h : a < 2 ^ 31) : ((100 : Int32) ≤ nI a) = (100 ≤ a) := c_le (a := 100) (by decide) h
theorem eL_200 {a : Nat} (h : a < 2 ^ 31) : (nI a = (200 : Int32)) = (a = 200) := c_eq (b := 200) h (by decide)
theorem ltL_200 {a : Nat} (h : a < 2 ^ 31) : (nI a < (200 : Int32)) = (a < 200) := c_lt (b := 200) h (by decide)
theorem gtL_200 {a : Nat} (h : a < 2 ^ 31) : ((200 : Int32) < nI a) = (200 < a) := c_lt (a := 200) (by decide) h
theorem leL_200 {a : Nat} (h : a < 2 ^ 31) : (nI a ≤ (200 : Int32)) = (a ≤ 200) := c_le (b := 200) h (by decide)
theorem geL_200 {a : Nat} (h : a < 2 ^ 31) : ((200 : Int32) ≤ nI a) = (200 ≤ a) := c_le (a := 200) (by decide) h
theorem eL_255 {a : Nat} (h : a < 2 ^ 31) : (nI a = (255 : Int32)) = (a = 255) := c_eq (b := 255) h (by decide)
theorem ltL_255 {a : Nat} (h : a < 2 ^ 31) : (nI a < (255 : Int32)) = (a < 255) := c_lt (b := 255) h (by decide)
theorem gtL_255 {a : Nat} (h : a < 2 ^ 31) : ((255 : Int32) < nI a) = (255 < a) := c_lt (a := 255) (by decide) h
theorem leL_255 {a : Nat} (h : a < 2 ^ 31) : (nI a ≤ (255 : Int32)) = (a ≤ 255) := c_le (b := 255) h (by decide)
theorem geL_255 {a : Nat} (h : a < 2 ^ 31) : ((255 : Int32) ≤ nI a) = (255 ≤ a) := c_le (a := 255) (by decide) h
theorem eL_256 {a : Nat} (h : a < 2 ^ 31) : (nI a = (256 : Int32)) = (a = 256) := c_eq (b := 256) h (by decide)
theorem ltL_256 {a : Nat} (h : a < 2 ^ 31) : (nI a < (256 : Int32)) = (a < 256) := c_lt (b := 256) h (by decide)
theorem gtL_256 {a : Nat} (h : a < 2 ^ 31) : ((256 : Int32) < nI a) = (256 < a) := c_lt (a := 256) (by decide) h
theorem leL_256 {a : Nat} (h : a < 2 ^ 31) : (nI a ≤ (256 : Int32)) = (a ≤ 256) := c_le (b := 256) h (by decide)
theorem geL_256 {a : Nat} (h : a < 2 ^ 31) : ((256 : Int32) ≤ nI a) = (256 ≤ a) := c_le (a := 256) (by decide) h
theorem eL_400 {a : Nat} (h : a < 2 ^ 31) : (nI a = (400 : Int32)) = (a = 400) := c_eq (b := 400) h (by decide)
theorem ltL_400 {a : Nat} (h : a < 2 ^ 31) : (nI a < (400 : Int32)) = (a < 400) := c_lt (b := 400) h (by decide)
theorem gtL_400 {a : Nat} (h : a < 2 ^ 31) : ((400 : Int32) < nI a) = (400 < a) := c_lt (a := 400) (by decide) h
theorem leL_400 {a : Nat} (h : a < 2 ^ 31) : (nI a ≤ (400 : Int32)) = (a ≤ 400) := c_le (b := 400) h (by decide)
theorem geL_400 {a : Nat} (h : a < 2 ^ 31) : ((400 : Int32) ≤ nI a) = (400 ≤ a) := c_le (a := 400) (by decide) h
theorem eL_9999 {a : Nat} (h : a < 2 ^ 31) : (nI a = (9999 : Int32)) = (a = 9999) := c_eq (b := 9999) h (by decide)
theorem ltL_9999 {a : Nat} (h : a < 2 ^ 31) : (nI a < (9999 : Int32)) = (a < 9999) := c_lt (b := 9999) h (by decide)
theorem gtL_9999 {a : Nat} (h : a < 2 ^ 31) : ((9999 : Int32) < nI a) = (9999 < a) := c_lt (a := 9999) (by decide) h
theorem leL_9999 {a : Nat} (h : a < 2 ^ 31) : (nI a ≤ (9999 : Int32)) = (a ≤ 9999) := c_le (b := 9999) h (by decide)
theorem geL_9999 {a : Nat} (h : a < 2 ^ 31) : ((9999 : Int32) ≤ nI a) = (9999 ≤ a) := c_le (a := 9999) (by decide) h
theorem eL_20000 {a : Nat} (h : a < 2 ^ 31) : (nI a = (20000 : Int32)) = (a = 20000) := c_eq (b := 20000) h (by decide)
theorem ltL_20000 {a : Nat} (h : a < 2 ^ 31) : (nI a < (20000 : Int32)) = (a < 20000) := c_lt (b := 20000) h (by decide)
theorem gtL_20000 {a : Nat} (h : a < 2 ^ 31) : ((20000 : Int32) < nI a) = (20000 < a) := c_lt (a := 20000) (by decide) h
theorem leL_20000 {a : Nat} (h : a < 2 ^ 31) : (nI a ≤ (20000 : Int32)) = (a ≤ 20000) := c_le (b := 20000) h (by decide)
theorem geL_20000 {a : Nat} (h : a < 2 ^ 31) : ((20000 : Int32) ≤ nI a) = (20000 ≤ a) := c_le (a := 20000) (by decide) h
theorem iL_0 {N : Nat} (hN : N < 2 ^ 31) (h : 0 < N) : vp_in (0 : Int32) N = True := eq_true (vp_in_nI (n := 0) h hN)
theorem tL_0 : (0 : Int32).toNatClampNeg = 0 := rfl
theorem iL_1 {N : Nat} (hN : N < 2 ^ 31) (h : 1 < N) : vp_in (1 : Int32) N = True := eq_true (vp_in_nI (n := 1) h hN)
theorem tL_1 : (1 : Int32).toNatClampNeg = 1 := rfl
theorem iL_2 {N : Nat} (hN : N < 2 ^ 31) (h : 2 < N) : vp_in (2 : Int32) N = True := eq_true (vp_in_nI (n := 2) h hN)
theorem tL_2 : (2 : Int32).toNatClampNeg = 2 := rfl
theorem iL_3 {N : Nat} (hN : N < 2 ^ 31) (h : 3 < N) : vp_in (3 : Int32) N = True := eq_true (vp_in_nI (n := 3) h hN)
theorem tL_3 : (3 : Int32).toNatClampNeg = 3 := rfl
theorem iL_4 {N : Nat} (hN : N < 2 ^ 31) (h : 4 < N) : vp_in (4 : Int32) N = True := eq_true (vp_in_nI (n := 4) h hN)
theorem tL_4 : (4 : Int32).toNatClampNeg = 4 := rfl
theorem iL_5 {N : Nat} (hN : N < 2 ^ 31) (h : 5 < N) : vp_in (5 : Int32) N = True := eq_true (vp_in_nI (n := 5) h hN)
theorem tL_5 : (5 : Int32).toNatClampNeg = 5 := rfl
theorem iL_6 {N : Nat} (hN : N < 2 ^ 31) (h : 6 < N) : vp_in (6 : Int32) N = True := eq_true (vp_in_nI (n := 6) h hN)
theorem tL_6 : (6 : Int32).toNatClampNeg = 6 := rfl
theorem iL_7 {N : Nat} (hN : N < 2 ^ 31) (h : 7 < N) : vp_in (7 : Int32) N = True := eq_true (vp_in_nI (n := 7) h hN)
theorem tL_7 : (7 : Int32).toNatClampNeg = 7 := rfl
theorem c_inT {k N : Nat} (hN : N < 2 ^ 31) (h : k < N) : vp_in (nI k) N = True := eq_true (vp_in_nI h hN)
theorem zz : (0 : Int32).toNatClampNeg = 0 := rfl
theorem nb0 : vp_nar .boolean 0 = nI 0 := rfl
theorem nb1 : vp_nar .boolean 1 = nI 1 := rfl
/-- what always holds of the state -/
def Inv (σ : Sg) : Prop := fF σ 2 ≤ 20 ∧ fF σ 1 ≤ 20000 ∧ fF σ 24 ≤ 1 ∧ fF σ 15 ≤ 400 ∧ (∀ j, fN σ 4 j ≤ 200) ∧ (∀ i, fN σ 5 i ≤ 20000) ∧ (∀ j, fN σ 5 (6 * j + 3) ≤ 40) ∧ (fN σ 7 0 ≤ 3 ∧ 1 ≤ fN σ 7 1 ∧ fN σ 7 1 ≤ 9 ∧ fN σ 7 2 ≤ 1 ∧ fN σ 7 3 ≤ 1) ∧ (∀ n, fN σ 11 n ≤ 1) ∧ (∀ n, fN σ 12 n ≤ 100) ∧ (∀ n, fN σ 11 n = 0 → fN σ 12 n = 0) ∧ (∀ h, fN σ 16 h ≤ 1) ∧ (∀ h, fN σ 17 h ≤ 9) ∧ (∀ h, fN σ 18 h ≤ 2) ∧ (∀ h, fN σ 19 h ≤ 100) ∧ (∀ h, fN σ 20 h ≤ 3) ∧ (∀ i, fN σ 21 i ≤ 3) ∧ (∀ h i, i < fN σ 20 h → 1 ≤ fN σ 21 (3 * h + i)) ∧ fN σ 16 1 = 1 ∧ fN σ 18 1 = 1 ∧ (∀ h, fN σ 23 h ≤ 1) ∧ (∀ i, fD σ 8 i = -1 ∨ 0 ≤ fD σ 8 i)
theorem Inv.jobs {σ : Sg} (h : Inv σ) : fF σ 2 ≤ 20 := h.1
theorem Inv.most {σ : Sg} (h : Inv σ) : fF σ 1 ≤ 20000 := h.2.1
theorem Inv.fails {σ : Sg} (h : Inv σ) : fF σ 24 ≤ 1 := h.2.2.1
theorem Inv.out {σ : Sg} (h : Inv σ) : fF σ 15 ≤ 400 := h.2.2.2.1
theorem Inv.size {σ : Sg} (h : Inv σ) (j : Nat) : fN σ 4 j ≤ 200 := h.2.2.2.2.1 j
theorem Inv.told {σ : Sg} (h : Inv σ) (j : Nat) : fN σ 5 j ≤ 20000 := h.2.2.2.2.2.1 j
theorem Inv.pages {σ : Sg} (h : Inv σ) (j : Nat) : fN σ 5 (6 * j + 3) ≤ 40 := h.2.2.2.2.2.2.1 j
theorem Inv.set {σ : Sg} (h : Inv σ) : fN σ 7 0 ≤ 3 ∧ 1 ≤ fN σ 7 1 ∧ fN σ 7 1 ≤ 9 ∧ fN σ 7 2 ≤ 1 ∧ fN σ 7 3 ≤ 1 := h.2.2.2.2.2.2.2.1
theorem Inv.there {σ : Sg} (h : Inv σ) (j : Nat) : fN σ 11 j ≤ 1 := h.2.2.2.2.2.2.2.2.1 j
theorem Inv.len {σ : Sg} (h : Inv σ) (j : Nat) : fN σ 12 j ≤ 100 := h.2.2.2.2.2.2.2.2.2.1 j
theorem Inv.len0 {σ : Sg} (h : Inv σ) (j : Nat) : fN σ 11 j = 0 → fN σ 12 j = 0 := h.2.2.2.2.2.2.2.2.2.2.1 j
theorem Inv.opn {σ : Sg} (h : Inv σ) (j : Nat) : fN σ 16 j ≤ 1 := h.2.2.2.2.2.2.2.2.2.2.2.1 j
theorem Inv.name {σ : Sg} (h : Inv σ) (j : Nat) : fN σ 17 j ≤ 9 := h.2.2.2.2.2.2.2.2.2.2.2.2.1 j
theorem Inv.mode {σ : Sg} (h : Inv σ) (j : Nat) : fN σ 18 j ≤ 2 := h.2.2.2.2.2.2.2.2.2.2.2.2.2.1 j
theorem Inv.plc {σ : Sg} (h : Inv σ) (j : Nat) : fN σ 19 j ≤ 100 := h.2.2.2.2.2.2.2.2.2.2.2.2.2.2.1 j
theorem Inv.flt {σ : Sg} (h : Inv σ) (j : Nat) : fN σ 20 j ≤ 3 := h.2.2.2.2.2.2.2.2.2.2.2.2.2.2.2.1 j
theorem Inv.knd {σ : Sg} (h : Inv σ) (j : Nat) : fN σ 21 j ≤ 3 := h.2.2.2.2.2.2.2.2.2.2.2.2.2.2.2.2.1 j
theorem Inv.knd1 {σ : Sg} (h : Inv σ) (j i : Nat) : i < fN σ 20 j → 1 ≤ fN σ 21 (3 * j + i) := h.2.2.2.2.2.2.2.2.2.2.2.2.2.2.2.2.2.1 j i
theorem Inv.o1 {σ : Sg} (h : Inv σ) : fN σ 16 1 = 1 := h.2.2.2.2.2.2.2.2.2.2.2.2.2.2.2.2.2.2.1
theorem Inv.m1 {σ : Sg} (h : Inv σ) : fN σ 18 1 = 1 := h.2.2.2.2.2.2.2.2.2.2.2.2.2.2.2.2.2.2.2.1
theorem Inv.own {σ : Sg} (h : Inv σ) (j : Nat) : fN σ 23 j ≤ 1 := h.2.2.2.2.2.2.2.2.2.2.2.2.2.2.2.2.2.2.2.2.1 j
theorem Inv.res {σ : Sg} (h : Inv σ) (j : Nat) : fD σ 8 j = -1 ∨ 0 ≤ fD σ 8 j := h.2.2.2.2.2.2.2.2.2.2.2.2.2.2.2.2.2.2.2.2.2 j
/-- a number between two -/
theorem w_in {m : Mm} {v lo hi : Int32} {P : Int32 → Mm → Prop} (hn : (v < lo ∨ hi < v) → P 0 m) (hy : ¬ v < lo → ¬ hi < v → P 1 m) : wp_Mo_in m v lo hi P :=
  ⟨fun h1 => hn (Or.inl h1), fun h1 => ⟨fun h2 => hn (Or.inr h2), fun h2 => hy h1 h2⟩⟩
/-- a number from 0 on, below N -/
theorem ix_of {v hi : Int32} {n : Nat} (hh : hi.toInt = n) (h1 : ¬ v < 0) (h2 : ¬ hi < v) : ∃ j : Nat, j ≤ n ∧ v = nI j := by
  refine nI_of2 hh h1 ?_
  simp only [Int32.le_iff_toInt_le, Int32.lt_iff_toInt_lt] at *; omega
theorem lt_no {v w : Int32} (h : ¬ v < w) : w ≤ v := by simp only [Int32.le_iff_toInt_le, Int32.lt_iff_toInt_lt] at *; omega
theorem le_no {v w : Int32} (h : ¬ v ≤ w) : w < v := by simp only [Int32.le_iff_toInt_le, Int32.lt_iff_toInt_lt] at *; omega
/-- a number of a job: none, or j below the count -/
theorem w_noJob {m : Mm} {a : Nat} {B : Nat → Nat} {Z : Mm → Prop} {σ : Sg} (h : RZ Z m a B σ) (hI : Inv σ) {v : Int32} {P : Int32 → Mm → Prop} (hn : (v < 0 ∨ nI (fF σ 2) ≤ v) → P 1 m) (hy : ∀ j : Nat, j < fF σ 2 → v = nI j → P 0 m) : wp_Mo_noJob m a v P := by
  unfold wp_Mo_noJob wp_Mo_noJob_0 wp_Mo_noJob_12
  have h2 := h.2.2.1 2 (by decide)
  have hj := hI.jobs
  refine ⟨fun h1 => hn (Or.inl h1), fun h1 => ⟨h.1, fun x ex => ?_⟩⟩
  rw [h2] at ex; subst ex
  refine ⟨fun h3 => ?_, fun h3 => hn (Or.inr (lt_no h3))⟩
  rcases pk_ix v (n := fF σ 2) (by omega) with q | q | ⟨j, q1, q2⟩
  · exact absurd q h1
  · exact absurd q (by simp only [Int32.le_iff_toInt_le, Int32.lt_iff_toInt_lt] at *; omega)
  · exact hy j q1 q2
/-! THE CALLS, as functions of the state -/
def jx (σ : Sg) (v : Int32) : Option Nat := if v < 0 ∨ nI (fF σ 2) ≤ v then none else some v.toNatClampNeg
theorem jx_none {σ : Sg} {v : Int32} (h : v < 0 ∨ nI (fF σ 2) ≤ v) : jx σ v = none := if_pos h
theorem jx_some {σ : Sg} (hI : Inv σ) {j : Nat} (h : j < fF σ 2) : jx σ (nI j) = some j := by
  have := hI.jobs
  unfold jx
  rw [if_neg (by rintro (q | q); exact nI_pos (by omega) q; exact nI_ge h (by omega) q), nI_clamp (by omega)]
def spJob (σ : Sg) : Int32 × Sg := if fF σ 2 = 20 then (-4, σ) else (nI (fF σ 2), uF σ 2 (fF σ 2 + 1))
theorem w_job {m : Mm} {a : Nat} {B : Nat → Nat} {Z : Mm → Prop} {σ : Sg} (h : RZ Z m a B σ) (hI : Inv σ) {P : Int32 → Mm → Prop} (k : ∀ m', RZ Z m' a B (spJob σ).2 → P (spJob σ).1 m') : wp_Mo_job m a P := by
  unfold wp_Mo_job wp_Mo_job_0
  have hj := hI.jobs
  have f2 : gI m 11 2 a = nI (fF σ 2) := h.2.2.1 2 (by decide)
  simp (disch := omega) only [forall_eq, tg_sI, gI_sI, gR_sI, aI_sI, aR_sI, ln_sI, tg_sR, gI_sR, gR_sR, aI_sR, aR_sR, ln_sR, tg_wI, gI_wI, gR_wI, aI_wI, aR_wI, ln_wI, tg_wR, gI_wR, gR_wR, aI_wR, aR_wR, ln_wR, tg_wC, gI_wC, gR_wC, aI_wC, aR_wC, ln_wC, tg_nO, gI_nO, gR_nO, aI_nO, aR_nO, ln_nO, tg_nA, gI_nA, gR_nA, aI_nA, aR_nA, ln_nA, Nat.reduceEqDiff, reduceCtorEq, false_and, true_and, and_true, and_false, and_self, if_true, if_false, ↓reduceIte, forall_const, true_implies, imp_self, not_true, not_false_eq_true, implies_true, not_false, eq_self, Nat.reduceLT, Nat.reduceLeDiff, h.1, f2, c_mul2, c_mul3, c_mul6, c_mul10, c_mul40, c_mul100, c_mul200, c_add2, c_add3, c_add4, c_add5, nI_1, nI_add, nI_clamp, c_sub1, c_eq, c_le, c_lt, zz, nb0, nb1, eL_0, ltL_0, gtL_0, leL_0, geL_0, eL_1, ltL_1, gtL_1, leL_1, geL_1, eL_2, ltL_2, gtL_2, leL_2, geL_2, eL_3, ltL_3, gtL_3, leL_3, geL_3, eL_4, ltL_4, gtL_4, leL_4, geL_4, eL_5, ltL_5, gtL_5, leL_5, geL_5, eL_6, ltL_6, gtL_6, leL_6, geL_6, eL_7, ltL_7, gtL_7, leL_7, geL_7, eL_8, ltL_8, gtL_8, leL_8, geL_8, eL_9, ltL_9, gtL_9, leL_9, geL_9, eL_10, ltL_10, gtL_10, leL_10, geL_10, eL_16, ltL_16, gtL_16, leL_16, geL_16, eL_20, ltL_20, gtL_20, leL_20, geL_20, eL_32, ltL_32, gtL_32, leL_32, geL_32, eL_40, ltL_40, gtL_40, leL_40, geL_40, eL_100, ltL_100, gtL_100, leL_100, geL_100, eL_200, ltL_200, gtL_200, leL_200, geL_200, eL_255, ltL_255, gtL_255, leL_255, geL_255, eL_256, ltL_256, gtL_256, leL_256, geL_256, eL_400, ltL_400, gtL_400, leL_400, geL_400, eL_9999, ltL_9999, gtL_9999, leL_9999, geL_9999, eL_20000, ltL_20000, gtL_20000, leL_20000, geL_20000, iL_0, tL_0, iL_1, tL_1, iL_2, tL_2, iL_3, tL_3, iL_4, tL_4, iL_5, tL_5, iL_6, tL_6, iL_7, tL_7, c_inT, Nat.add_sub_cancel]
  unfold spJob at k
  refine ⟨fun e => ?_, fun e => ?_⟩
  · rw [if_pos e] at k; exact k _ (h.code 0)
  · rw [if_neg e] at k; exact k _ ((h.code 0).sF 2 (fF σ 2 + 1) (by decide))
def spAdd (σ : Sg) (v b : Int32) : Int32 × Sg := match jx σ v with
  | none => (-1, σ)
  | some j => if 0 < fN σ 5 (6 * j) then (-3, σ) else if fN σ 4 j = 200 then (-4, σ) else (nI (fN σ 4 j + 1), uN (uD σ 3 (200 * j + fN σ 4 j) b.toInt8.toInt32) 4 j (fN σ 4 j + 1))
theorem w_add {m : Mm} {a : Nat} {B : Nat → Nat} {Z : Mm → Prop} {σ : Sg} (h : RZ Z m a B σ) (hI : Inv σ) {v b : Int32} {P : Int32 → Mm → Prop} (k : ∀ m', RZ Z m' a B (spAdd σ v b).2 → P (spAdd σ v b).1 m') : wp_Mo_add m a v b P := by
  unfold wp_Mo_add wp_Mo_add_0
  refine ⟨h.1, fun m1 e1 => ⟨by rw [e1]; exact h.1, ?_⟩⟩
  subst e1
  replace h := h.code 0
  generalize sI m 11 0 a 0 = m at h ⊢
  refine w_noJob h hI (fun q => ?_) (fun j q1 q2 => ?_)
  · refine ⟨fun q => absurd q (by decide), fun _ => ?_⟩
    simp only [spAdd, jx_none q] at k
    exact k m h
  · subst q2
    refine ⟨fun _ => ?_, fun q => absurd rfl q⟩
    have hj := hI.jobs
    have hs := hI.size j
    have ht := hI.told (6 * j)
    simp only [spAdd, jx_some hI q1] at k
    have r3 : gR m 11 3 a = B 3 := (h.2.1 3 (by decide)).1
    have t3 : tg m (B 3) = 28 := (h.2.1 3 (by decide)).2.1
    have l3 : ln m (B 3) = 4000 := (h.2.1 3 (by decide)).2.2
    have n3 : ∀ i, i < 4000 → aI m 28 (B 3) i = fD σ 3 i := h.2.2.2.2.2.1 3 (by decide)
    have r4 : gR m 11 4 a = B 4 := (h.2.1 4 (by decide)).1
    have t4 : tg m (B 4) = 29 := (h.2.1 4 (by decide)).2.1
    have l4 : ln m (B 4) = 20 := (h.2.1 4 (by decide)).2.2
    have n4 : ∀ i, i < 20 → aI m 29 (B 4) i = nI (fN σ 4 i) := h.2.2.2.2.1 4 (by decide)
    have r5 : gR m 11 5 a = B 5 := (h.2.1 5 (by decide)).1
    have t5 : tg m (B 5) = 30 := (h.2.1 5 (by decide)).2.1
    have l5 : ln m (B 5) = 120 := (h.2.1 5 (by decide)).2.2
    have n5 : ∀ i, i < 120 → aI m 30 (B 5) i = nI (fN σ 5 i) := h.2.2.2.2.1 5 (by decide)
    simp (disch := omega) only [forall_eq, tg_sI, gI_sI, gR_sI, aI_sI, aR_sI, ln_sI, tg_sR, gI_sR, gR_sR, aI_sR, aR_sR, ln_sR, tg_wI, gI_wI, gR_wI, aI_wI, aR_wI, ln_wI, tg_wR, gI_wR, gR_wR, aI_wR, aR_wR, ln_wR, tg_wC, gI_wC, gR_wC, aI_wC, aR_wC, ln_wC, tg_nO, gI_nO, gR_nO, aI_nO, aR_nO, ln_nO, tg_nA, gI_nA, gR_nA, aI_nA, aR_nA, ln_nA, Nat.reduceEqDiff, reduceCtorEq, false_and, true_and, and_true, and_false, and_self, if_true, if_false, ↓reduceIte, forall_const, true_implies, imp_self, not_true, not_false_eq_true, implies_true, not_false, eq_self, Nat.reduceLT, Nat.reduceLeDiff, h.1, r3, t3, l3, n3, r4, t4, l4, n4, r5, t5, l5, n5, c_mul2, c_mul3, c_mul6, c_mul10, c_mul40, c_mul100, c_mul200, c_add2, c_add3, c_add4, c_add5, nI_1, nI_add, nI_clamp, c_sub1, c_eq, c_le, c_lt, zz, nb0, nb1, eL_0, ltL_0, gtL_0, leL_0, geL_0, eL_1, ltL_1, gtL_1, leL_1, geL_1, eL_2, ltL_2, gtL_2, leL_2, geL_2, eL_3, ltL_3, gtL_3, leL_3, geL_3, eL_4, ltL_4, gtL_4, leL_4, geL_4, eL_5, ltL_5, gtL_5, leL_5, geL_5, eL_6, ltL_6, gtL_6, leL_6, geL_6, eL_7, ltL_7, gtL_7, leL_7, geL_7, eL_8, ltL_8, gtL_8, leL_8, geL_8, eL_9, ltL_9, gtL_9, leL_9, geL_9, eL_10, ltL_10, gtL_10, leL_10, geL_10, eL_16, ltL_16, gtL_16, leL_16, geL_16, eL_20, ltL_20, gtL_20, leL_20, geL_20, eL_32, ltL_32, gtL_32, leL_32, geL_32, eL_40, ltL_40, gtL_40, leL_40, geL_40, eL_100, ltL_100, gtL_100, leL_100, geL_100, eL_200, ltL_200, gtL_200, leL_200, geL_200, eL_255, ltL_255, gtL_255, leL_255, geL_255, eL_256, ltL_256, gtL_256, leL_256, geL_256, eL_400, ltL_400, gtL_400, leL_400, geL_400, eL_9999, ltL_9999, gtL_9999, leL_9999, geL_9999, eL_20000, ltL_20000, gtL_20000, leL_20000, geL_20000, iL_0, tL_0, iL_1, tL_1, iL_2, tL_2, iL_3, tL_3, iL_4, tL_4, iL_5, tL_5, iL_6, tL_6, iL_7, tL_7, c_inT]
    refine ⟨fun e => ?_, fun e => ?_⟩
    · have : ¬ 0 < fN σ 5 (6 * j) := by omega
      rw [if_neg this] at k
      refine ⟨fun e2 => ?_, fun e2 => ?_⟩
      · rw [if_pos e2] at k; exact k _ h
      · rw [if_neg e2] at k
        refine ⟨c_in (by decide) (by omega), ?_⟩
        exact k _ ((h.wD 3 _ _ (by decide)).wN 4 j _ (by decide))
    · rw [if_pos (by omega)] at k; exact k _ h

