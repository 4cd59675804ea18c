theorem beg_ext (k : Nat) (σ : Sg) : (∀ f, f ≠ 25 → fF (begS k σ) f = fF σ f) ∧ fF (begS k σ) 25 = k ∧ (∀ f j, f ≠ 9 → f ≠ 22 → f ≠ 23 → fN (begS k σ) f j = fN σ f j) ∧ (∀ f j, f ≠ 10 → fD (begS k σ) f j = fD σ f j) ∧ (∀ j, j < 4 → fN (begS k σ) 9 j = fN σ 7 j) ∧ (∀ j, j < 40 → fD (begS k σ) 10 j = fD σ 8 j) ∧ (∀ j, 1 ≤ j → j < 8 → fN (begS k σ) 23 j = 0 ∧ fN (begS k σ) 22 j = fN σ 20 j) ∧ (∀ j, (j < 1 ∨ 8 ≤ j) → fN (begS k σ) 23 j = fN σ 23 j) := by
  obtain ⟨a1, a2, a3, a4, a5, a6⟩ := cp1_ext 4 0 σ
  obtain ⟨b1, b2, b3, b4, b5, b6⟩ := cp2_ext 40 0 (cp1 4 0 σ)
  obtain ⟨c1, c2, c3, c4, c5, c6⟩ := cp3_ext 7 1 (cp2 40 0 (cp1 4 0 σ))
  refine ⟨fun f hf => ?_, ?_, fun f j h1 h2 h3 => ?_, fun f j h1 => ?_, fun j hj => ?_, fun j hj => ?_, fun j h1 h2 => ⟨?_, ?_⟩, fun j h1 => ?_⟩
  · unfold begS; rw [fF_uF, if_neg hf, c1, b1, a1]
  · unfold begS; rw [fF_uF, if_pos rfl]
  · unfold begS; rw [fN_uF, c4 f j h3 h2, b3, a4 f j h1]
  · unfold begS; rw [fD_uF, c3, b4 f j h1, a3]
  · unfold begS; rw [fN_uF, c4 9 j (by decide) (by decide), b3, a5 j (by omega) (by omega)]
  · unfold begS; rw [fD_uF, c3, b5 j (by omega) (by omega), a3]
  · unfold begS; rw [fN_uF, (c5 j h1 (by omega)).1]
  · unfold begS; rw [fN_uF, (c5 j h1 (by omega)).2, b3, a4 20 j (by decide)]
  · unfold begS; rw [fN_uF, (c6 j (by omega)).1, b3, a4 23 j (by decide)]
theorem fin_ext (σ : Sg) : (∀ f, fF (finS σ) f = fF σ f) ∧ (∀ f j, f ≠ 7 → f ≠ 16 → f ≠ 20 → fN (finS σ) f j = fN σ f j) ∧ (∀ f j, f ≠ 8 → fD (finS σ) f j = fD σ f j) ∧ (∀ j, j < 4 → fN (finS σ) 7 j = fN σ 9 j) ∧ (∀ j, j < 40 → fD (finS σ) 8 j = fD σ 10 j) ∧ (∀ j, 40 ≤ j → fD (finS σ) 8 j = fD σ 8 j) ∧ (∀ j, 1 ≤ j → j < 8 → fN (finS σ) 16 j = (if fN σ 16 j = 0 then 0 else if fN σ 23 j = 0 then 1 else 0) ∧ fN (finS σ) 20 j = (if fN σ 23 j = 0 then fN σ 22 j else 0)) ∧ (∀ j, (j < 1 ∨ 8 ≤ j) → fN (finS σ) 16 j = fN σ 16 j ∧ fN (finS σ) 20 j = fN σ 20 j) := by
  obtain ⟨a1, a2, a3, a4, a5, a6⟩ := cp4_ext 4 0 σ
  obtain ⟨b1, b2, b3, b4, b5, b6⟩ := cp5_ext 40 0 (cp4 4 0 σ)
  obtain ⟨c1, c2, c3, c4, c5, c6⟩ := cp6_ext 7 1 (cp5 40 0 (cp4 4 0 σ))
  refine ⟨fun f => ?_, fun f j h1 h2 h3 => ?_, fun f j h1 => ?_, fun j hj => ?_, fun j hj => ?_, fun j hj => ?_, fun j h1 h2 => ⟨?_, ?_⟩, fun j h1 => ⟨?_, ?_⟩⟩
  · unfold finS; rw [c1, b1, a1]
  · unfold finS; rw [c4 f j h2 h3, b3, a4 f j h1]
  · unfold finS; rw [c3, b4 f j h1, a3]
  · unfold finS; rw [c4 7 j (by decide) (by decide), b3, a5 j (by omega) (by omega)]
  · unfold finS; rw [c3, b5 j (by omega) (by omega), a3]
  · unfold finS; rw [c3, b6 j (by omega), a3]
  · unfold finS; rw [(c5 j h1 (by omega)).1]; simp only [b3, a4 16 j (by decide), a4 23 j (by decide)]
  · unfold finS; rw [(c5 j h1 (by omega)).2]; simp only [b3, a4 22 j (by decide), a4 23 j (by decide)]
  · unfold finS; rw [(c6 j (by omega)).1, b3, a4 16 j (by decide)]
  · unfold finS; rw [(c6 j (by omega)).2, b3, a4 20 j (by decide)]
theorem beg_RI {k : Nat} {σ : Sg} (h : RI σ) : RI (begS k σ) := by
  obtain ⟨e1, e2, e3, e4, e5, e6, e7, e8⟩ := beg_ext k σ
  have n4 := fun j => e3 4 j (by decide) (by decide) (by decide)
  have n5 := fun j => e3 5 j (by decide) (by decide) (by decide)
  have n7 := fun j => e3 7 j (by decide) (by decide) (by decide)
  have n11 := fun j => e3 11 j (by decide) (by decide) (by decide)
  have n12 := fun j => e3 12 j (by decide) (by decide) (by decide)
  have n16 := fun j => e3 16 j (by decide) (by decide) (by decide)
  have n17 := fun j => e3 17 j (by decide) (by decide) (by decide)
  have n18 := fun j => e3 18 j (by decide) (by decide) (by decide)
  have n19 := fun j => e3 19 j (by decide) (by decide) (by decide)
  have n20 := fun j => e3 20 j (by decide) (by decide) (by decide)
  have n21 := fun j => e3 21 j (by decide) (by decide) (by decide)
  have n33 := fun j => e3 33 j (by decide) (by decide) (by decide)
  have d8 := fun j => e4 8 j (by decide)
  have f1 := e1 1 (by decide)
  have f2 := e1 2 (by decide)
  have f15 := e1 15 (by decide)
  have f24 := e1 24 (by decide)
  have n23 : ∀ j, fN (begS k σ) 23 j ≤ 1 := fun j => by
    by_cases hj : 1 ≤ j ∧ j < 8
    · rw [(e7 j hj.1 hj.2).1]; decide
    · rw [e8 j (by omega)]; exact h.1.own j
  obtain ⟨hI, hT, hb⟩ := h
  refine ⟨?_, ⟨?_, (e7 1 (by decide) (by decide)).1⟩, fun i => by rw [n33]; exact hb i⟩
  · obtain ⟨i1, i2, i3, i4, i5, i6, i7, i8, i9, i10, i11, i12, i13, i14, i15, i16, i17, i18, i19, i20, i21, i22⟩ := hI
    simp only [Inv, n4, n5, n7, n11, n12, n16, n17, n18, n19, n20, n21, d8, f1, f2, f15, f24]
    exact ⟨i1, i2, i3, i4, i5, i6, i7, i8, i9, i10, i11, i12, i13, i14, i15, i16, i17, i18, i19, i20, n23, i22⟩
  · intro g hg ho
    rw [n11, n17]; rw [n16] at ho
    exact hT.1 g hg ho
theorem start_Lp {σ : Sg} (hI : RI σ) (hj : fF σ 25 < 20) : LpS (start σ) := ⟨⟨hI.1, hI.2.1, hj, by show 0 ≤ 201; decide, by show 0 ≤ fF σ 1; omega, by show 0 ≤ 20; decide, by show 0 ≤ 40; decide, by show 0 ≤ 4; decide, hI.2.2, by show 0 ≤ 7; decide, by show 0 ≤ 1; decide⟩, ⟨rfl, rfl, Nat.zero_le _⟩, rfl, rfl⟩
/-- a job, told: all that the run keeps, and the numbers in their bounds -/
theorem job_ok {σ : Sg} (hI : RI σ) (hj : fF σ 25 < 20) : RI (jobS σ) ∧ fF (jobS σ) 2 = fF σ 2 ∧ fF (jobS σ) 1 = fF σ 1 ∧ fF (jobS σ) 24 = fF σ 24 ∧ fF (jobS σ) 25 = fF σ 25 ∧ (∀ i, fN (jobS σ) 9 i = fN σ 9 i) ∧ (∀ i, fD (jobS σ) 10 i = fD σ 10 i) ∧ (∀ i, fN (jobS σ) 22 i = fN σ 22 i) ∧ (∀ i, 1 ≤ fN σ 21 i → 1 ≤ fN (jobS σ) 21 i) := by
  obtain ⟨g, kr, ht, o3, o1⟩ := run_ok (fF σ 1 + 1) (start σ) (start_Lp hI hj)
  obtain ⟨k1, k2, k3, k4, k5, k6, k7, k8, k9, k10, k11, k12⟩ := kr
  unfold jobS
  generalize hr : runS (fF σ 1 + 1) (start σ) = r at *
  obtain ⟨o, τ⟩ := r
  simp only at g ht o3 o1 k1 k2 k3 k4 k6 k7 k8 k9 k10 k11 k12 ⊢
  obtain ⟨g1, g2, j1, j2, j3, j4, j5, j6, j7, j8, j9⟩ := g
  have hm := g1.most
  have hsz : siz τ ≤ 200 := g1.size _
  refine ⟨⟨?_, g2, j7⟩, k3, k2, k4, k1, k9, k10, k11, k12⟩
  unfold tell
  refine (((((g1.u5 _ _ (by omega) (fun j e => by omega)).u5 _ _ (by omega) (fun j e => by omega)).u5 _ _ ?_ (fun j e => by omega)).u5 _ _ (by omega) (fun j e => by omega)).u5 _ _ (by omega) (fun j e => by omega)).u5 _ _ ?_ (fun j e => by omega)
  · split <;> omega
  · split <;> omega
theorem Inv.u16' {σ : Sg} (h : Inv σ) (i v : Nat) (hv : v ≤ 1) (h1 : i = 1 → v = 1) : Inv (uN σ 16 i v) := by
  obtain ⟨i1, i2, i3, i4, i5, i6, i7, i8, i9, i10, i11, i12, i13, i14, i15, i16, i17, i18, i19, i20, i21, i22⟩ := h
  refine ⟨i1, i2, i3, i4, i5, i6, i7, i8, i9, i10, i11, ?_, i13, i14, i15, i16, i17, i18, ?_, i20, i21, i22⟩
  · intro j; rw [fN_uN]; split; exact hv; exact i12 j
  · rw [fN_uN]; split; rename_i e; exact h1 e.2.symm; exact i19
theorem one_ok {k : Nat} {σ : Sg} (h : RI σ) (hk : k < 20) : RI (oneS k σ) ∧ fF (oneS k σ) 2 = fF σ 2 ∧ fF (oneS k σ) 1 = fF σ 1 ∧ fF (oneS k σ) 24 = fF σ 24 := by
  obtain ⟨e1, e2, e3, e4, e5, e6, e7, e8⟩ := beg_ext k σ
  have hb := beg_RI (k := k) h
  obtain ⟨⟨t1, t2, t3⟩, a2, a1, a24, a25, a9, a10, a22, a21⟩ := job_ok hb (by rw [e2]; exact hk)
  obtain ⟨q1, q2, q3, q4, q5, q6, q7, q8⟩ := fin_ext (jobS (begS k σ))
  refine ⟨⟨?_, ⟨?_, ?_⟩, ?_⟩, ?_, ?_, ?_⟩
  · have n4 := fun j => q2 4 j (by decide) (by decide) (by decide)
    have n5 := fun j => q2 5 j (by decide) (by decide) (by decide)
    have n11 := fun j => q2 11 j (by decide) (by decide) (by decide)
    have n12 := fun j => q2 12 j (by decide) (by decide) (by decide)
    have n17 := fun j => q2 17 j (by decide) (by decide) (by decide)
    have n18 := fun j => q2 18 j (by decide) (by decide) (by decide)
    have n19 := fun j => q2 19 j (by decide) (by decide) (by decide)
    have n21 := fun j => q2 21 j (by decide) (by decide) (by decide)
    have n23 := fun j => q2 23 j (by decide) (by decide) (by decide)
    have n7 : ∀ j, j < 4 → fN (finS (jobS (begS k σ))) 7 j = fN σ 7 j := fun j hj => by rw [q4 j hj, a9, e5 j hj]
    obtain ⟨i1, i2, i3, i4, i5, i6, i7, i8, i9, i10, i11, i12, i13, i14, i15, i16, i17, i18, i19, i20, i21, i22⟩ := t1
    unfold oneS
    simp only [Inv, n4, n5, n11, n12, n17, n18, n19, n21, n23, q1, n7 0 (by decide), n7 1 (by decide), n7 2 (by decide), n7 3 (by decide)]
    refine ⟨i1, i2, i3, i4, i5, i6, i7, h.1.set, i9, i10, i11, fun j => ?_, i13, i14, i15, fun j => ?_, i17, fun j i hi => ?_, ?_, i20, i21, fun j => ?_⟩
    · by_cases hj : 1 ≤ j ∧ j < 8
      · rw [(q7 j hj.1 hj.2).1]; split; omega; split <;> omega
      · rw [(q8 j (by omega)).1]; exact i12 j
    · by_cases hj : 1 ≤ j ∧ j < 8
      · rw [(q7 j hj.1 hj.2).2]; split
        · rw [a22, (e7 j hj.1 hj.2).2]; exact h.1.flt j
        · omega
      · rw [(q8 j (by omega)).2]; exact i16 j
    · by_cases hj : 1 ≤ j ∧ j < 8
      · rw [(q7 j hj.1 hj.2).2] at hi
        split at hi
        · rw [a22, (e7 j hj.1 hj.2).2] at hi
          exact a21 _ (by rw [e3 21 _ (by decide) (by decide) (by decide)]; exact h.1.knd1 j i hi)
        · omega
      · rw [(q8 j (by omega)).2] at hi; exact i18 j i hi
    · rw [(q7 1 (by decide) (by decide)).1, i19, t2.2]; rfl
    · by_cases hj : j < 40
      · rw [q5 j hj, a10, e6 j hj]; exact h.1.res j
      · rw [q6 j (by omega)]; exact i22 j
  · intro g hg ho
    unfold oneS at ho ⊢
    rw [q2 11 _ (by decide) (by decide) (by decide), q2 17 _ (by decide) (by decide) (by decide)]
    by_cases hj : 1 ≤ g ∧ g < 8
    · rw [(q7 g hj.1 hj.2).1] at ho
      refine t2.1 g hg (fun z => ?_)
      rw [if_pos z] at ho; exact ho rfl
    · rw [(q8 g (by omega)).1] at ho; exact t2.1 g hg ho
  · unfold oneS; rw [q2 23 _ (by decide) (by decide) (by decide)]; exact t2.2
  · intro i; unfold oneS; rw [q2 33 _ (by decide) (by decide) (by decide)]; exact t3 i
  · unfold oneS; rw [q1, a2, e1 2 (by decide)]
  · unfold oneS; rw [q1, a1, e1 1 (by decide)]
  · unfold oneS; rw [q1, a24, e1 24 (by decide)]

