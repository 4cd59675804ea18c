theorem Inv.u4 {σ : Sg} (h : Inv σ) (i v : Nat) (hv : v ≤ 200) : Inv (uN σ 4 i v) := by
  obtain ⟨i1, i2, i3, i4, i5, i6, i7, i8, i9, i10, i11, i12, i13, i14, i15, i16, i17, i18, i19, i20, i21, i22⟩ := h
  refine ⟨i1, i2, i3, i4, ?_, i6, i7, i8, i9, i10, i11, i12, i13, i14, i15, i16, i17, i18, i19, i20, i21, i22⟩
  · intro j
    rw [fN_uN]
    split
    · exact hv
    · exact i5 j
theorem Inv.u5 {σ : Sg} (h : Inv σ) (i v : Nat) (hv : v ≤ 20000) (h3 : ∀ j, 6 * j + 3 = i → v ≤ 40) : Inv (uN σ 5 i v) := by
  obtain ⟨i1, i2, i3, i4, i5, i6, i7, i8, i9, i10, i11, i12, i13, i14, i15, i16, i17, i18, i19, i20, i21, i22⟩ := h
  refine ⟨i1, i2, i3, i4, i5, ?_, ?_, i8, i9, i10, i11, i12, i13, i14, i15, i16, i17, i18, i19, i20, i21, i22⟩
  · intro j
    rw [fN_uN]
    split
    · exact hv
    · exact i6 j
  · intro j
    rw [fN_uN]
    split
    · rename_i e; exact h3 j e.2
    · exact i7 j
theorem Inv.u7 {σ : Sg} (h : Inv σ) (i v : Nat) (h0 : i = 0 → v ≤ 3) (h1 : i = 1 → 1 ≤ v ∧ v ≤ 9) (h2 : 2 ≤ i → v ≤ 1) : Inv (uN σ 7 i v) := by
  obtain ⟨i1, i2, i3, i4, i5, i6, i7, i8, i9, i10, i11, i12, i13, i14, i15, i16, i17, i18, i19, i20, i21, i22⟩ := h
  refine ⟨i1, i2, i3, i4, i5, i6, i7, ?_, i9, i10, i11, i12, i13, i14, i15, i16, i17, i18, i19, i20, i21, i22⟩
  · simp only [fN_uN]
    obtain ⟨a1, a2, a3, a4, a5⟩ := i8
    refine ⟨?_, ?_, ?_, ?_, ?_⟩ <;> (split <;> (try omega))
    all_goals (rename_i e; have := e.2; first | (have := h0 (by omega); omega) | (have := h1 (by omega); omega) | (have := h2 (by omega); omega))
theorem Inv.u16 {σ : Sg} (h : Inv σ) (i v : Nat) (hv : v ≤ 1) (h1 : i ≠ 1) : Inv (uN σ 16 i v) := by
  obtain ⟨i1, i2, i3, i4, i5, i6, i7, i8, i9, i10, i11, i12, i13, i14, i15, i16, i17, i18, i19, i20, i21, i22⟩ := h
  refine ⟨i1, i2, i3, i4, i5, i6, i7, i8, i9, i10, i11, ?_, i13, i14, i15, i16, i17, i18, ?_, i20, i21, i22⟩
  · intro j
    rw [fN_uN]
    split
    · exact hv
    · exact i12 j
  · rw [fN_uN, if_neg (fun e => h1 e.2.symm)]; exact i19
theorem Inv.u17 {σ : Sg} (h : Inv σ) (i v : Nat) (hv : v ≤ 9) : Inv (uN σ 17 i v) := by
  obtain ⟨i1, i2, i3, i4, i5, i6, i7, i8, i9, i10, i11, i12, i13, i14, i15, i16, i17, i18, i19, i20, i21, i22⟩ := h
  refine ⟨i1, i2, i3, i4, i5, i6, i7, i8, i9, i10, i11, i12, ?_, i14, i15, i16, i17, i18, i19, i20, i21, i22⟩
  · intro j
    rw [fN_uN]
    split
    · exact hv
    · exact i13 j
theorem Inv.u18 {σ : Sg} (h : Inv σ) (i v : Nat) (hv : v ≤ 2) (h1 : i ≠ 1) : Inv (uN σ 18 i v) := by
  obtain ⟨i1, i2, i3, i4, i5, i6, i7, i8, i9, i10, i11, i12, i13, i14, i15, i16, i17, i18, i19, i20, i21, i22⟩ := h
  refine ⟨i1, i2, i3, i4, i5, i6, i7, i8, i9, i10, i11, i12, i13, ?_, i15, i16, i17, i18, i19, ?_, i21, i22⟩
  · intro j
    rw [fN_uN]
    split
    · exact hv
    · exact i14 j
  · rw [fN_uN, if_neg (fun e => h1 e.2.symm)]; exact i20
theorem Inv.u19 {σ : Sg} (h : Inv σ) (i v : Nat) (hv : v ≤ 100) : Inv (uN σ 19 i v) := by
  obtain ⟨i1, i2, i3, i4, i5, i6, i7, i8, i9, i10, i11, i12, i13, i14, i15, i16, i17, i18, i19, i20, i21, i22⟩ := h
  refine ⟨i1, i2, i3, i4, i5, i6, i7, i8, i9, i10, i11, i12, i13, i14, ?_, i16, i17, i18, i19, i20, i21, i22⟩
  · intro j
    rw [fN_uN]
    split
    · exact hv
    · exact i15 j
theorem Inv.u20 {σ : Sg} (h : Inv σ) (i v : Nat) (hv : v ≤ 3) (hk : ∀ j, j < v → 1 ≤ fN σ 21 (3 * i + j)) : Inv (uN σ 20 i v) := by
  obtain ⟨i1, i2, i3, i4, i5, i6, i7, i8, i9, i10, i11, i12, i13, i14, i15, i16, i17, i18, i19, i20, i21, i22⟩ := h
  refine ⟨i1, i2, i3, i4, i5, i6, i7, i8, i9, i10, i11, i12, i13, i14, i15, ?_, i17, ?_, i19, i20, i21, i22⟩
  · intro j
    rw [fN_uN]
    split
    · exact hv
    · exact i16 j
  · intro j k hjk
    rw [fN_uN] at hjk
    split at hjk
    · rename_i e; obtain ⟨-, rfl⟩ := e; exact hk k hjk
    · exact i18 j k hjk
theorem Inv.u21 {σ : Sg} (h : Inv σ) (i v : Nat) (hv : v ≤ 3) (h1 : 1 ≤ v) : Inv (uN σ 21 i v) := by
  obtain ⟨i1, i2, i3, i4, i5, i6, i7, i8, i9, i10, i11, i12, i13, i14, i15, i16, i17, i18, i19, i20, i21, i22⟩ := h
  refine ⟨i1, i2, i3, i4, i5, i6, i7, i8, i9, i10, i11, i12, i13, i14, i15, i16, ?_, ?_, i19, i20, i21, i22⟩
  · intro j
    rw [fN_uN]
    split
    · exact hv
    · exact i17 j
  · intro j k hjk
    rw [fN_uN]
    split
    · exact h1
    · exact i18 j k hjk
theorem Inv.u23 {σ : Sg} (h : Inv σ) (i v : Nat) (hv : v ≤ 1) : Inv (uN σ 23 i v) := by
  obtain ⟨i1, i2, i3, i4, i5, i6, i7, i8, i9, i10, i11, i12, i13, i14, i15, i16, i17, i18, i19, i20, i21, i22⟩ := h
  refine ⟨i1, i2, i3, i4, i5, i6, i7, i8, i9, i10, i11, i12, i13, i14, i15, i16, i17, i18, i19, i20, ?_, i22⟩
  · intro j
    rw [fN_uN]
    split
    · exact hv
    · exact i21 j
theorem Inv.u12 {σ : Sg} (h : Inv σ) (i v : Nat) (hv : v ≤ 100) (ht : fN σ 11 i ≠ 0) : Inv (uN σ 12 i v) := by
  obtain ⟨i1, i2, i3, i4, i5, i6, i7, i8, i9, i10, i11, i12, i13, i14, i15, i16, i17, i18, i19, i20, i21, i22⟩ := h
  refine ⟨i1, i2, i3, i4, i5, i6, i7, i8, i9, ?_, ?_, i12, i13, i14, i15, i16, i17, i18, i19, i20, i21, i22⟩
  · intro j
    rw [fN_uN]
    split
    · exact hv
    · exact i10 j
  · intro j hj
    rw [fN_uN]
    split
    · rename_i e; obtain ⟨-, rfl⟩ := e; exact absurd hj ht
    · exact i11 j hj
theorem Inv.u12z {σ : Sg} (h : Inv σ) (i : Nat) : Inv (uN σ 12 i 0) := by
  obtain ⟨i1, i2, i3, i4, i5, i6, i7, i8, i9, i10, i11, i12, i13, i14, i15, i16, i17, i18, i19, i20, i21, i22⟩ := h
  refine ⟨i1, i2, i3, i4, i5, i6, i7, i8, i9, ?_, ?_, i12, i13, i14, i15, i16, i17, i18, i19, i20, i21, i22⟩
  · intro j
    rw [fN_uN]
    split
    · exact Nat.zero_le _
    · exact i10 j
  · intro j hj
    rw [fN_uN]
    split
    · rfl
    · exact i11 j hj
theorem Inv.u11 {σ : Sg} (h : Inv σ) (i : Nat) : Inv (uN σ 11 i 1) := by
  obtain ⟨i1, i2, i3, i4, i5, i6, i7, i8, i9, i10, i11, i12, i13, i14, i15, i16, i17, i18, i19, i20, i21, i22⟩ := h
  refine ⟨i1, i2, i3, i4, i5, i6, i7, i8, ?_, i10, ?_, i12, i13, i14, i15, i16, i17, i18, i19, i20, i21, i22⟩
  · intro j
    rw [fN_uN]
    split
    · exact Nat.le_refl _
    · exact i9 j
  · intro j hj
    rw [fN_uN] at hj
    split at hj
    · exact absurd hj (by decide)
    · exact i11 j hj
theorem Inv.f2 {σ : Sg} (h : Inv σ) (v : Nat) (hv : v ≤ 20) : Inv (uF σ 2 v) := by
  obtain ⟨i1, i2, i3, i4, i5, i6, i7, i8, i9, i10, i11, i12, i13, i14, i15, i16, i17, i18, i19, i20, i21, i22⟩ := h
  refine ⟨?_, i2, i3, i4, i5, i6, i7, i8, i9, i10, i11, i12, i13, i14, i15, i16, i17, i18, i19, i20, i21, i22⟩
  · exact hv
theorem Inv.f15 {σ : Sg} (h : Inv σ) (v : Nat) (hv : v ≤ 400) : Inv (uF σ 15 v) := by
  obtain ⟨i1, i2, i3, i4, i5, i6, i7, i8, i9, i10, i11, i12, i13, i14, i15, i16, i17, i18, i19, i20, i21, i22⟩ := h
  refine ⟨i1, i2, i3, ?_, i5, i6, i7, i8, i9, i10, i11, i12, i13, i14, i15, i16, i17, i18, i19, i20, i21, i22⟩
  · exact hv
theorem Inv.f24 {σ : Sg} (h : Inv σ) (v : Nat) (hv : v ≤ 1) : Inv (uF σ 24 v) := by
  obtain ⟨i1, i2, i3, i4, i5, i6, i7, i8, i9, i10, i11, i12, i13, i14, i15, i16, i17, i18, i19, i20, i21, i22⟩ := h
  refine ⟨i1, i2, ?_, i4, i5, i6, i7, i8, i9, i10, i11, i12, i13, i14, i15, i16, i17, i18, i19, i20, i21, i22⟩
  · exact hv
theorem Inv.d8 {σ : Sg} (h : Inv σ) (i : Nat) (v : Int32) (hv : v = -1 ∨ 0 ≤ v) : Inv (uD σ 8 i v) := by
  obtain ⟨i1, i2, i3, i4, i5, i6, i7, i8, i9, i10, i11, i12, i13, i14, i15, i16, i17, i18, i19, i20, i21, i22⟩ := h
  refine ⟨i1, i2, i3, i4, i5, i6, i7, i8, i9, i10, i11, i12, i13, i14, i15, i16, i17, i18, i19, i20, i21, ?_⟩
  · intro j
    rw [fD_uD]
    split
    · exact hv
    · exact i22 j
theorem hx_ok {σ : Sg} {v : Int32} {h : Nat} (e : hx σ v = some h) : 1 ≤ h ∧ h ≤ 7 ∧ fN σ 16 h ≠ 0 ∧ v = nI h := by
  unfold hx at e
  split at e
  · cases e
  · rename_i q
    split at e
    · cases e
    · rename_i q2
      cases e
      obtain ⟨i, hi, rfl⟩ := ix_of (v := v) (hi := 7) (n := 7) rfl (fun z => q (Or.inl (by simp only [Int32.lt_iff_toInt_lt, Int32.toInt_zero, show (1 : Int32).toInt = 1 from rfl] at *; omega))) (fun z => q (Or.inr z))
      rw [nI_clamp (by omega)] at q2 ⊢
      refine ⟨?_, hi, q2, rfl⟩
      have : ¬ nI i < 1 := fun z => q (Or.inl z)
      rw [ltL_1 (by omega)] at this; omega
theorem spJob_Inv {σ : Sg} (h : Inv σ) : Inv (spJob σ).2 := by
  unfold spJob; split; exact h; exact h.f2 _ (by have := h.jobs; omega)
theorem spAdd_Inv {σ : Sg} (h : Inv σ) (v b : Int32) : Inv (spAdd σ v b).2 := by
  unfold spAdd; split; exact h
  split; exact h
  split; exact h
  rename_i j _ _ e
  have := h.size j
  exact (show Inv (uD σ 3 _ _) from h).u4 _ _ (by omega)
theorem spDevice_Inv {σ : Sg} (h : Inv σ) (s v : Int32) : Inv (spDevice σ s v).2 := by
  unfold spDevice; split
  · rename_i q
    obtain ⟨i, j, h1, h2, rfl, rfl, h3⟩ := okS_nat q
    rw [nI_clamp (by omega), nI_clamp (by omega)]
    exact h.u7 i j (by omega) (by omega) (by omega)
  · exact h
theorem spDefine_Inv {σ : Sg} (h : Inv σ) (c n v : Int32) : Inv (spDefine σ c n v).2 := by
  unfold spDefine; split; exact h
  split; exact h
  rename_i e
  exact h.d8 _ _ (Or.inr (lt_no (fun q => e (Or.inl q))))
theorem opnd_Inv {σ : Sg} (h : Inv σ) {n md f : Nat} (hn : n ≤ 9) (hm : md ≤ 2) (hf : 2 ≤ f) : Inv (opnd σ n md f) := by
  unfold opnd
  have h12 : Inv (uN σ 12 n (if md = 1 ∨ fN σ 11 n = 0 then 0 else fN σ 12 n)) := by
    split
    · exact h.u12z n
    · rename_i e; exact h.u12 n _ (h.len n) (fun q => e (Or.inr q))
  exact (((((h12.u11 n).u16 f 1 (by omega) (by omega)).u17 f n hn).u18 f md hm (by omega)).u19 f 0 (by omega)).u20 f 0 (by omega) (fun j hj => by omega)
theorem spOpened_Inv {σ : Sg} (h : Inv σ) (n md : Int32) : Inv (spOpened σ n md).2 := by
  unfold spOpened
  split; exact h
  split; exact h
  split; exact h
  split; exact h
  rename_i e1 e2 e3 e4
  obtain ⟨i, hi, rfl⟩ := ix_of (v := n) (hi := 9) (n := 9) rfl (fun z => e1 (Or.inl z)) (fun z => e1 (Or.inr z))
  obtain ⟨j, hj, rfl⟩ := ix_of (v := md) (hi := 2) (n := 2) rfl (fun z => e2 (Or.inl z)) (fun z => e2 (Or.inr z))
  rw [nI_clamp (by omega), nI_clamp (by omega)]
  exact opnd_Inv h hi hj ((frH_le σ 6 (by decide)).2 e4).1
/-- an open file is there -/
def Th (σ : Sg) : Prop := (∀ h, h ≠ 1 → fN σ 16 h ≠ 0 → fN σ 11 (fN σ 17 h) ≠ 0) ∧ fN σ 23 1 = 0
theorem opnd_Th {σ : Sg} (h : Th σ) (n md f : Nat) : Th (opnd σ n md f) := by
  refine ⟨fun g hg ho => ?_, h.2⟩
  simp only [opnd, fN_uN, Nat.reduceEqDiff, false_and, if_false, true_and] at ho ⊢
  by_cases e : g = f
  · subst e; simp
  · simp only [e, if_false] at ho ⊢
    split
    · decide
    · exact h.1 g hg ho
theorem spOpened_Th {σ : Sg} (h : Th σ) (n md : Int32) : Th (spOpened σ n md).2 := by
  unfold spOpened
  split; exact h
  split; exact h
  split; exact h
  split; exact h
  exact opnd_Th h _ _ _
theorem Th.u16z {σ : Sg} (h : Th σ) (i : Nat) : Th (uN σ 16 i 0) := by
  refine ⟨fun g hg ho => ?_, h.2⟩
  rw [fN_uN] at ho
  split at ho
  · exact absurd rfl ho
  · exact h.1 g hg ho
theorem spClose_Th {σ : Sg} (h : Th σ) (v : Int32) : Th (spClose σ v).2 := by
  unfold spClose
  split; exact h
  split; exact h
  exact h.u16z _
theorem spWritten_Inv {σ : Sg} (h : Inv σ) (hT : Th σ) (v x : Int32) : Inv (spWritten σ v x).2 := by
  unfold spWritten
  split; exact h
  rename_i i e
  split; exact h
  split
  · split; exact h
    have := h.out
    exact (show Inv (uD σ 14 _ _) from h).f15 _ (by omega)
  · rename_i e4
    split; exact h
    have := h.len (fN σ 17 i)
    exact (show Inv (uD σ 13 _ _) from h).u12 _ _ (by omega) (hT.1 i e4 (hx_ok e).2.2.1)
theorem spTaken_Inv {σ : Sg} (h : Inv σ) (v : Int32) : Inv (spTaken σ v).2 := by
  unfold spTaken
  split; exact h
  rename_i i e
  split
  · split
    · rename_i e2
      have := h.len (fN σ 17 i)
      exact h.u19 _ _ (by omega)
    · exact h
  · exact h
theorem spFiltered_Inv {σ : Sg} (h : Inv σ) (v x : Int32) : Inv (spFiltered σ v x).2 := by
  unfold spFiltered
  split; exact h
  rename_i i e
  split; exact h
  rename_i q
  split; exact h
  rename_i e3
  have hf := h.flt i
  obtain ⟨j, hj, rfl⟩ := ix_of (v := x) (hi := 3) (n := 3) rfl (fun z => q (Or.inl (by simp only [Int32.lt_iff_toInt_lt, Int32.toInt_zero, show (1 : Int32).toInt = 1 from rfl] at *; omega))) (fun z => q (Or.inr z))
  have hj1 : ¬ nI j < 1 := fun z => q (Or.inl z)
  rw [ltL_1 (by omega)] at hj1
  rw [nI_clamp (by omega)]
  refine (h.u21 _ j hj (by omega)).u20 i _ (by omega) (fun y hy => ?_)
  rw [fN_uN]
  split
  · omega
  · rename_i e4
    exact h.knd1 i y (by have : y ≠ fN σ 20 i := fun z => e4 ⟨rfl, by rw [z]⟩; omega)
theorem spClose_Inv {σ : Sg} (h : Inv σ) (v : Int32) : Inv (spClose σ v).2 := by
  unfold spClose
  split; exact h
  split; exact h
  rename_i e
  exact h.u16 _ _ (by omega) e
theorem spStart_Inv {σ : Sg} (h : Inv σ) (v : Int32) (hv : v = 0 ∨ v = 1) : Inv (spStart σ v).2 := by
  unfold spStart
  rcases hv with rfl | rfl
  · exact h.f24 _ (by decide)
  · exact h.f24 _ (by decide)

