/-! THE CLASS: a new tree of files -/
def nB (j : Nat) : Nat := if j = 10 then 400 else 100
def SQ (m : Mm) (n : Nat) (S Y : Nat → Nat) : Prop := (∀ j, j < n → KS m (S j) (Y j) (nB j)) ∧ (∀ i j, i < n → j < n → S i = S j → i = j) ∧ (∀ i j, i < n → j < n → Y i = Y j → i = j)
theorem SQ.fr {m m' : Mm} {L : List Nat} {n : Nat} {S Y : Nat → Nat} (h : SQ m n S Y) (e : Fr L m m') (hL : ∀ k ∈ [9, 26], k ∉ L) : SQ m' n S Y := ⟨fun j hj => (h.1 j hj).fr e hL, h.2.1, h.2.2⟩
theorem SQ.add {m m' : Mm} {L : List Nat} {n x y : Nat} {S Y : Nat → Nat} (h : SQ m n S Y) (e : Fr L m m') (hL : ∀ k ∈ [9, 26], k ∉ L) (hx : tg m x = 0) (hy : tg m y = 0) (K : KS m' x y (nB n)) : SQ m' (n + 1) (va_up S n x) (va_up Y n y) := by
  have h' := h.fr e hL
  have nS : ∀ j, j < n → S j ≠ x := fun j hj z => by have := (h.1 j hj).1; rw [z, hx] at this; cases this
  have nY : ∀ j, j < n → Y j ≠ y := fun j hj z => by have := (h.1 j hj).2.1; rw [z, hy] at this; cases this
  have s1 : va_up S n x n = x := if_pos rfl
  have s2 : ∀ j, j ≠ n → va_up S n x j = S j := fun j hj => if_neg hj
  have y1 : va_up Y n y n = y := if_pos rfl
  have y2 : ∀ j, j ≠ n → va_up Y n y j = Y j := fun j hj => if_neg hj
  refine ⟨fun j hj => ?_, fun i j hi hj z => ?_, fun i j hi hj z => ?_⟩
  · by_cases q : j = n
    · subst q; rw [s1, y1]; exact K
    · rw [s2 j q, y2 j q]; exact h'.1 j (by omega)
  · by_cases q : i = n
    · by_cases r : j = n
      · rw [q, r]
      · rw [q, s1, s2 j r] at z; exact absurd z.symm (nS j (by omega))
    · by_cases r : j = n
      · rw [r, s1, s2 i q] at z; exact absurd z (nS i (by omega))
      · rw [s2 i q, s2 j r] at z; exact h.2.1 i j (by omega) (by omega) z
  · by_cases q : i = n
    · by_cases r : j = n
      · rw [q, r]
      · rw [q, y1, y2 j r] at z; exact absurd z.symm (nY j (by omega))
    · by_cases r : j = n
      · rw [r, y1, y2 i q] at z; exact absurd z (nY i (by omega))
      · rw [y2 i q, y2 j r] at z; exact h.2.2 i j (by omega) (by omega) z
def HQ (m : Mm) (n s : Nat) (H G : Nat → Nat) : Prop := (∀ j, 1 ≤ j → j < n → KH m (H j) (G j) (if j = 1 then s else 0) (if j = 1 then 1 else 0)) ∧ (∀ i j, 1 ≤ i → i < n → 1 ≤ j → j < n → H i = H j → i = j) ∧ (∀ i j, 1 ≤ i → i < n → 1 ≤ j → j < n → G i = G j → i = j)
theorem HQ.fr {m m' : Mm} {L : List Nat} {n s : Nat} {H G : Nat → Nat} (h : HQ m n s H G) (e : Fr L m m') (hL : ∀ k ∈ [10, 27], k ∉ L) : HQ m' n s H G := ⟨fun j h1 hj => (h.1 j h1 hj).fr e hL, h.2.1, h.2.2⟩
theorem HQ.add {m m' : Mm} {L : List Nat} {n s x y : Nat} {H G : Nat → Nat} (h : HQ m n s H G) (e : Fr L m m') (hL : ∀ k ∈ [10, 27], k ∉ L) (hx : tg m x = 0) (hy : tg m y = 0) (K : KH m' x y (if n = 1 then s else 0) (if n = 1 then 1 else 0)) : HQ m' (n + 1) s (va_up H n x) (va_up G n y) := by
  have h' := h.fr e hL
  have nS : ∀ j, 1 ≤ j → j < n → H j ≠ x := fun j h1 hj z => by have := (h.1 j h1 hj).1; rw [z, hx] at this; cases this
  have nY : ∀ j, 1 ≤ j → j < n → G j ≠ y := fun j h1 hj z => by have := (h.1 j h1 hj).2.1; rw [z, hy] at this; cases this
  have s1 : va_up H n x n = x := if_pos rfl
  have s2 : ∀ j, j ≠ n → va_up H n x j = H j := fun j hj => if_neg hj
  have y1 : va_up G n y n = y := if_pos rfl
  have y2 : ∀ j, j ≠ n → va_up G n y j = G j := fun j hj => if_neg hj
  refine ⟨fun j h1 hj => ?_, fun i j i1 hi j1 hj z => ?_, fun i j i1 hi j1 hj z => ?_⟩
  · by_cases q : j = n
    · subst q; rw [s1, y1]; exact K
    · rw [s2 j q, y2 j q]; exact h'.1 j h1 (by omega)
  · by_cases q : i = n
    · by_cases r : j = n
      · rw [q, r]
      · rw [q, s1, s2 j r] at z; exact absurd z.symm (nS j j1 (by omega))
    · by_cases r : j = n
      · rw [r, s1, s2 i q] at z; exact absurd z (nS i i1 (by omega))
      · rw [s2 i q, s2 j r] at z; exact h.2.1 i j i1 (by omega) j1 (by omega) z
  · by_cases q : i = n
    · by_cases r : j = n
      · rw [q, r]
      · rw [q, y1, y2 j r] at z; exact absurd z.symm (nY j j1 (by omega))
    · by_cases r : j = n
      · rw [r, y1, y2 i q] at z; exact absurd z (nY i i1 (by omega))
      · rw [y2 i q, y2 j r] at z; exact h.2.2 i j i1 (by omega) j1 (by omega) z
def KG (m : Mm) (f qs qh n : Nat) (S Y H G : Nat → Nat) : Prop := tg m f = 5 ∧ tg m qs = 18 ∧ tg m qh = 19 ∧ ln m qs = 10 ∧ ln m qh = 8 ∧ gR m 5 0 f = qs ∧ gR m 5 1 f = S 10 ∧ gR m 5 2 f = qh ∧ (∀ i, i < 10 → aR m 18 qs i = S i) ∧ (∀ i, 1 ≤ i ∧ i < n → aR m 19 qh i = H i) ∧ SQ m 11 S Y ∧ HQ m n (S 10) H G ∧ f ≠ 0 ∧ qs ≠ 0 ∧ qh ≠ 0
theorem KG.fr {m m' : Mm} {L : List Nat} {f qs qh n : Nat} {S Y H G : Nat → Nat} (h : KG m f qs qh n S Y H G) (e : Fr L m m') (hL : ∀ k ∈ [5, 9, 10, 18, 19, 26, 27], k ∉ L) : KG m' f qs qh n S Y H G := by
  obtain ⟨h0, h1, h2, h3, h4, h5, h6, h7, h8, h9, h10, h11, h12, h13, h14⟩ := h
  have gf := e.g h0 (by decide) (hL 5 (by decide))
  have gqs := e.g h1 (by decide) (hL 18 (by decide))
  have gqh := e.g h2 (by decide) (hL 19 (by decide))
  exact ⟨gf.1, gqs.1, gqh.1, gqs.2.1.trans h3, gqh.2.1.trans h4, (gf.2.2.2.1 _ _).trans h5, (gf.2.2.2.1 _ _).trans h6, (gf.2.2.2.1 _ _).trans h7, fun i hi => (gqs.2.2.2.2.2 _ _).trans (h8 i hi), fun i hi => (gqh.2.2.2.2.2 _ _).trans (h9 i hi), h10.fr e (fun k hk => hL k (by revert k; decide)), h11.fr e (fun k hk => hL k (by revert k; decide)), h12, h13, h14⟩
theorem y_F92 {m : Mm} {x qs qh : Nat} {S Y : Nat → Nat} {P : Mm → Prop} (k : ∀ m' H G, Ex m m' → KG m' x qs qh 8 S Y H G → P m') (hx : tg m x = 0) (hqh : tg m qh = 0) : ∀ (c i : Nat) (m2 : Mm) (H G : Nat → Nat), c + i = 8 → 2 ≤ i → Ex m m2 → KG m2 x qs qh i S Y H G → wp_FileTree_init_92 P (c + 1) m2 x (nI i) := by
  intro c
  induction c with
  | zero =>
    intro i m2 H G hc h2 E K
    have hi : i = 8 := by omega
    subst hi
    unfold wp_FileTree_init_92
    exact ⟨fun _ => k m2 H G E K, fun z => absurd (by decide : (7 : Int32) < nI 8) z⟩
  | succ c ih =>
    intro i m2 H G hc h2 E K
    unfold wp_FileTree_init_92
    refine ⟨fun z => absurd z (by rw [gtL_7 (by omega)]; omega), fun _ => ?_⟩
    obtain ⟨k1, k2, k3, k4, k5, k6, k7, k8, k9, k10, k11, k12, k13, k14, k15⟩ := K
    refine ⟨k1, fun u eu => ?_⟩
    rw [k8] at eu
    subst eu
    refine fun q hq hz m5 e5 => ?_
    subst e5
    refine c_Handle hq hz (fun m8 y E8 KH8 hy => ?_)
    have g1 := E8.g k1 (by decide)
    have g2 := E8.g k2 (by decide)
    have g3 := E8.g k3 (by decide)
    have l3 := g3.2.1.trans k5
    refine ⟨g3.1, by rw [l3]; exact vp_in_nI (by omega) (by omega), KH8.1, fun m12 e12 v ev => ?_⟩
    rw [nI_clamp (by omega)] at e12
    rw [nI_1] at ev
    subst ev
    have F1 : Fr [19] m2 m8 := E8.fr [19]
    have F2 : Fr [19] m8 m12 := by rw [e12]; exact Fr.wR g3.1 (by decide) _ _ _
    have F := F1.tr F2
    have KH12 := KH8.fr F2 (by decide)
    have K11 := k11.fr F (by decide)
    have K12 := k12.add (x := q) (y := y) F (by decide) hq hy (by rw [if_neg (by omega), if_neg (by omega)]; exact KH12)
    refine ih (i + 1) m12 (va_up H i q) (va_up G i y) (by omega) (by omega) ?_ ?_
    · rw [e12]; exact (E.tr E8).wR hqh _ _ _
    · have s1 : va_up H i q i = q := if_pos rfl
      have s2 : ∀ j, j ≠ i → va_up H i q j = H j := fun j hj => if_neg hj
      subst e12
      refine ⟨g1.1, g2.1, g3.1, g2.2.1.trans k4, l3, (g1.2.2.2.1 _ _).trans k6, (g1.2.2.2.1 _ _).trans k7, (g1.2.2.2.1 _ _).trans k8, fun j hj => ?_, fun j hj => ?_, K11, K12, k13, k14, k15⟩
      · rw [aR_wR, if_neg (fun z => absurd z.1 (by decide))]; exact (g2.2.2.2.2.2 _ _).trans (k9 j hj)
      · rw [aR_wR]
        by_cases r : j = i
        · rw [if_pos ⟨rfl, rfl, r⟩, r, s1]
        · rw [if_neg (fun z => r z.2.2), s2 j r]; exact (g3.2.2.2.2.2 _ _).trans (k10 j ⟨hj.1, by omega⟩)
theorem y_F15 {m : Mm} {x qs : Nat} {P : Mm → Prop} (k : ∀ m' qh S Y H G, Ex m m' → KG m' x qs qh 8 S Y H G → tg m qh = 0 → P m') (hx : tg m x = 0) (hz : x ≠ 0) (hqs : tg m qs = 0) (zqs : qs ≠ 0) : ∀ (c i : Nat) (m2 : Mm) (S Y : Nat → Nat), c + i = 10 → Ex m m2 → tg m2 x = 5 → tg m2 qs = 18 → ln m2 qs = 10 → gR m2 5 0 x = qs → (∀ j, j < i → aR m2 18 qs j = S j) → SQ m2 i S Y → wp_FileTree_init_15 P (c + 1) m2 x (nI i) := by
  intro c
  induction c with
  | zero =>
    intro i m2 S Y hc E k1 k2 k4 k6 k9 k11
    have hi : i = 10 := by omega
    subst hi
    unfold wp_FileTree_init_15
    refine ⟨fun _ => ?_, fun z => absurd (by decide : (10 : Int32) ≤ nI 10) z⟩
    refine fun q hq zq m3 e3 => ?_
    subst e3
    refine c_Store (n := 400) hq zq (by decide) (by decide) (fun m6 y E6 K6 hy => ?_)
    have g1 := E6.g k1 (by decide)
    have g2 := E6.g k2 (by decide)
    refine ⟨g1.1, fun m9 e9 => ?_⟩
    have F1 : Fr [5] m2 m6 := E6.fr [5]
    have F2 : Fr [5] m6 m9 := by rw [e9]; exact Fr.sR g1.1 (by decide) _ _ _
    have K9 := K6.fr F2 (by decide)
    have S9 := k11.add (x := q) (y := y) (F1.tr F2) (by decide) hq hy K9
    have k9' : ∀ j, j < 10 → aR m9 18 qs j = va_up S 10 q j := fun j hj => by
      rw [e9]
      show aR m6 18 qs j = if j = 10 then q else S j
      rw [if_neg (by omega)]
      exact (g2.2.2.2.2.2 _ _).trans (k9 j hj)
    have s10 : va_up S 10 q 10 = q := if_pos rfl
    have t9 : tg m9 x = 5 := by rw [e9]; exact g1.1
    have tq9 : tg m9 qs = 18 := by rw [e9]; exact g2.1
    have lq9 : ln m9 qs = 10 := by rw [e9]; exact g2.2.1.trans k4
    have r0 : gR m9 5 0 x = qs := by rw [e9, gR_sR, if_neg (fun z => absurd z.2.1 (by decide))]; exact (g1.2.2.2.1 _ _).trans k6
    have r1 : gR m9 5 1 x = va_up S 10 q 10 := by rw [s10, e9, gR_sR, if_pos ⟨rfl, rfl, rfl⟩]
    have E9 : Ex m m9 := by rw [e9]; exact (E.tr E6).sR hx _ _ _
    generalize hS' : va_up S 10 q = S' at S9 k9' s10 r1
    generalize va_up Y 10 y = Y' at S9
    clear hS' e9 F1 F2 g1 g2 K6 K9 k11 k9 k6 k4 k2 k1 E6 E hc hy hq
    refine fun h hh zh m11 e11 => ?_
    subst e11
    refine c_Handle hh zh (fun m14 g E14 K14 hg => ?_)
    have g1 := E14.g t9 (by decide)
    have g2 := E14.g tq9 (by decide)
    refine ⟨g1.1, fun x16 e16 => ?_⟩
    have r1' := (g1.2.2.2.1 5 1).trans r1
    rw [r1'] at e16
    subst e16
    refine ⟨K14.1, x_attach K14.1 (Or.inl rfl) ?_⟩
    have E18 : Ex m9 (atM m14 h (S' 10) 1 0) := (((((((((E14.sR hh 10 4 0).sI hh 10 5 0).sI hh 10 6 0).sI hh 10 3 0).sI hh 10 1 0).sI hh 10 2 0).sR hh 10 4 (S' 10)).sI hh 10 5 1).sI hh 10 6 0)
    have K18 : KH (atM m14 h (S' 10) 1 0) h g (S' 10) 1 := by
      obtain ⟨c1, c2, c3, c4, c5, c6, c7, c8, c9, c10, c11, c12⟩ := K14
      refine ⟨c1, c2, c3, ?_, ?_, ?_, ?_, ?_, ?_, c10, c11, c12⟩
      · unfold atM dtM
        simp only [gR_sI, gR_sR, Nat.reduceEqDiff, reduceCtorEq, true_and, and_true, false_and, and_false, if_true, if_false, ↓reduceIte, and_self]
        exact c4
      · unfold atM dtM
        simp only [gR_sI, gR_sR, Nat.reduceEqDiff, reduceCtorEq, true_and, and_true, false_and, and_false, if_true, if_false, ↓reduceIte, and_self]
      · unfold atM dtM
        simp only [gI_sI, gI_sR, Nat.reduceEqDiff, reduceCtorEq, true_and, and_true, false_and, and_false, if_true, if_false, ↓reduceIte, and_self]
      · unfold atM dtM
        simp only [gI_sI, gI_sR, Nat.reduceEqDiff, reduceCtorEq, true_and, and_true, false_and, and_false, if_true, if_false, ↓reduceIte, and_self]
      · unfold atM dtM
        simp only [gI_sI, gI_sR, Nat.reduceEqDiff, reduceCtorEq, true_and, and_true, false_and, and_false, if_true, if_false, ↓reduceIte, and_self]
        rfl
      · unfold atM dtM
        simp only [gI_sI, gI_sR, Nat.reduceEqDiff, reduceCtorEq, true_and, and_true, false_and, and_false, if_true, if_false, ↓reduceIte, and_self]
    generalize atM m14 h (S' 10) 1 0 = m18 at E18 K18
    clear g1 g2 r1' K14 E14
    clear m14
    refine fun qh hqh zqh m22 e22 => ?_
    have E22 : Ex m18 m22 := by rw [e22]; exact (Ex.rf _).nA hqh 19 8
    have E922 := E18.tr E22
    have g1 := E922.g t9 (by decide)
    have g2 := E922.g tq9 (by decide)
    have K22 := K18.fr (E22.fr []) (by decide)
    have S22 := S9.fr (E922.fr []) (by decide)
    have th : tg m22 qh = 19 := by rw [e22, tg_nA, if_pos rfl]
    have lh : ln m22 qh = 8 := by rw [e22, ln_nA, if_pos rfl]
    have bh : tg m qh = 0 := (E9.tr E18).z hqh
    refine ⟨g1.1, fun m28 e28 => ?_⟩
    have t28 : tg m28 x = 5 := by rw [e28]; exact g1.1
    refine ⟨t28, fun x29 e29 => ?_⟩
    rw [e28, gR_sR, if_pos ⟨rfl, rfl, rfl⟩] at e29
    subst e29
    have th28 : tg m28 x29 = 19 := by rw [e28]; exact th
    have lh28 : ln m28 x29 = 8 := by rw [e28]; exact lh
    have h28 : tg m28 h = 10 := by rw [e28]; exact K22.1
    refine ⟨th28, by rw [lh28]; exact vp_in_nI (n := 1) (by decide) (by decide), h28, fun m33 e33 => ?_⟩
    have e33' : m33 = wR m28 19 x29 1 h := e33
    have F28 : Fr [5, 19] m22 m28 := by rw [e28]; exact Fr.sR g1.1 (by decide) _ _ _
    have F33 : Fr [5, 19] m28 m33 := by rw [e33']; exact Fr.wR th28 (by decide) _ _ _
    have F := F28.tr F33
    have K33 := K22.fr F (by decide)
    have S33 := S22.fr F (by decide)
    refine y_F92 (S := S') (Y := Y') (fun m' H G E' K' => k m' x29 S' Y' H G E' K' bh) hx bh 6 2 m33 (fun _ => h) (fun _ => g) rfl (by decide) ?_ ?_
    · rw [e33', e28]; exact ((E9.tr E922).sR hx _ _ _).wR bh _ _ _
    · have q1 := (g1.2.2.2.1 5 0).trans r0
      have q2 := (g1.2.2.2.1 5 1).trans r1
      subst e33'
      subst e28
      refine ⟨g1.1, g2.1, th, g2.2.1.trans lq9, lh, ?_, ?_, ?_, fun j hj => ?_, fun j hj => ?_, S33, ⟨fun j h1 h2 => ?_, fun i j i1 i2 j1 j2 _ => by omega, fun i j i1 i2 j1 j2 _ => by omega⟩, hz, zqs, zqh⟩
      · show gR (sR m22 5 2 x x29) 5 0 x = qs
        rw [gR_sR, if_neg (fun z => absurd z.2.1 (by decide))]; exact q1
      · show gR (sR m22 5 2 x x29) 5 1 x = S' 10
        rw [gR_sR, if_neg (fun z => absurd z.2.1 (by decide))]; exact q2
      · show gR (sR m22 5 2 x x29) 5 2 x = x29
        rw [gR_sR, if_pos ⟨rfl, rfl, rfl⟩]
      · rw [aR_wR, if_neg (fun z => absurd z.1 (by decide))]
        exact (g2.2.2.2.2.2 _ _).trans (k9' j hj)
      · have : j = 1 := by omega
        rw [aR_wR, if_pos ⟨rfl, rfl, this⟩]
      · have : j = 1 := by omega
        rw [if_pos this, if_pos this]
        exact K33
  | succ c ih =>
    intro i m2 S Y hc E k1 k2 k4 k6 k9 k11
    unfold wp_FileTree_init_15
    refine ⟨fun z => absurd z (by rw [geL_10 (by omega)]; omega), fun _ => ⟨k1, fun u eu => ?_⟩⟩
    rw [k6] at eu
    subst eu
    refine fun q hq zq m38 e38 => ?_
    subst e38
    refine c_Store (n := 100) hq zq (by decide) (by decide) (fun m41 y E41 K41 hy => ?_)
    have g1 := E41.g k1 (by decide)
    have g2 := E41.g k2 (by decide)
    have l2 := g2.2.1.trans k4
    refine ⟨g2.1, by rw [l2]; exact vp_in_nI (by omega) (by omega), K41.1, fun m45 e45 v ev => ?_⟩
    rw [nI_clamp (by omega)] at e45
    rw [nI_1] at ev
    subst ev
    have F1 : Fr [18] m2 m41 := E41.fr [18]
    have F2 : Fr [18] m41 m45 := by rw [e45]; exact Fr.wR g2.1 (by decide) _ _ _
    have K45 := K41.fr F2 (by decide)
    have S45 := k11.add (x := q) (y := y) (F1.tr F2) (by decide) hq hy (by rw [show nB i = 100 from if_neg (by omega)]; exact K45)
    have s1 : va_up S i q i = q := if_pos rfl
    have s2 : ∀ j, j ≠ i → va_up S i q j = S j := fun j hj => if_neg hj
    refine ih (i + 1) m45 (va_up S i q) (va_up Y i y) (by omega) ?_ ?_ ?_ ?_ ?_ (fun j hj => ?_) S45
    · rw [e45]; exact (E.tr E41).wR hqs _ _ _
    · rw [e45]; exact g1.1
    · rw [e45]; exact g2.1
    · rw [e45]; exact l2
    · rw [e45]; exact (g1.2.2.2.1 _ _).trans k6
    · rw [e45, aR_wR]
      by_cases r : j = i
      · rw [if_pos ⟨rfl, rfl, r⟩, r, s1]
      · rw [if_neg (fun z => r z.2.2), s2 j r]; exact (g2.2.2.2.2.2 _ _).trans (k9 j (by omega))
theorem c_FileTree {m : Mm} {x : Nat} (hx : tg m x = 0) (hz : x ≠ 0) {P : Mm → Prop} (k : ∀ m' qs qh S Y H G, Ex m m' → KG m' x qs qh 8 S Y H G → P m') : wp_FileTree_init (nO m 5 x) x P := by
  unfold wp_FileTree_init wp_FileTree_init_0
  have E0 : Ex m (nO m 5 x) := (Ex.rf m).nO hx 5
  have X0 : tg (nO m 5 x) x = 5 := by rw [tg_nO, if_pos rfl]
  generalize nO m 5 x = m0 at E0 X0
  refine ⟨hz, fun q hq zq m3 e3 => ?_⟩
  have S3 : Ex m0 m3 := by rw [e3]; exact (Ex.rf _).nA hq 18 10
  have bq : tg m q = 0 := E0.z hq
  have X3 := (S3.g X0 (by decide)).1
  have t3 : tg m3 q = 18 := by rw [e3, tg_nA, if_pos rfl]
  have l3 : ln m3 q = 10 := by rw [e3, ln_nA, if_pos rfl]
  refine ⟨X3, fun m9 e9 => ?_⟩
  refine y_F15 (qs := q) (fun m' qh S Y H G E K _ => k m' q qh S Y H G E K) hx hz bq zq 10 0 m9 (fun _ => 0) (fun _ => 0) rfl ?_ ?_ ?_ ?_ ?_ (fun j hj => absurd hj (Nat.not_lt_zero j)) ⟨fun j hj => absurd hj (Nat.not_lt_zero j), fun i j hi => absurd hi (Nat.not_lt_zero i), fun i j hi => absurd hi (Nat.not_lt_zero i)⟩
  · rw [e9]; exact (E0.tr S3).sR hx _ _ _
  · rw [e9]; exact X3
  · rw [e9]; exact t3
  · rw [e9]; exact l3
  · rw [e9, gR_sR, if_pos ⟨rfl, rfl, rfl⟩]
