/-! THE PLAN -/
def mtB (g : Nat → Int32) (b : Nat) : Nat → Int32
  | 0 => -1
  | i + 1 => if dn g i = true ∧ g i = 125 ∧ (opn g i).head? = some b then nI i else mtB g b i
def OB (f : Nat → Int32) : List Nat → Prop
  | [] => True
  | b :: r => f r.length = nI b ∧ OB f r
theorem OB_congr {f f' : Nat → Int32} : ∀ L : List Nat, (∀ k, k < L.length → f' k = f k) → OB f L → OB f' L
  | [], _, _ => trivial
  | b :: r, h, q => ⟨by rw [h _ (by simp)]; exact q.1, OB_congr r (fun k hk => h k (by simp; omega)) q.2⟩
theorem opn_lt {g : Nat → Int32} {p b : Nat} (h : b ∈ opn g p) : b < p := by
  obtain ⟨l, r, e⟩ := List.append_of_mem h
  exact (opn_mem p b r l e).1
theorem opn_len (g : Nat → Int32) : ∀ p, (opn g p).length ≤ p
  | 0 => by simp [opn]
  | p + 1 => by
    have := opn_len g p
    by_cases hd : dn g p = true
    · by_cases h1 : g p = 123
      · rw [opn_in hd h1]; simp; omega
      · by_cases h2 : g p = 125
        · rw [opn_out hd h2]; simp; omega
        · rw [opn_oth h1 h2]; omega
    · rw [opn_no hd]; omega
theorem opn_not {g : Nat → Int32} {b : Nat} : ∀ q p, p ≤ q → b < p → b ∉ opn g p → b ∉ opn g q
  | 0, p, h, hb, _ => absurd hb (by omega)
  | q + 1, p, h, hb, hn => by
    by_cases e : p = q + 1
    · rw [← e]; exact hn
    · have ih := opn_not q p (by omega) hb hn
      by_cases hd : dn g q = true
      · by_cases h1 : g q = 123
        · rw [opn_in hd h1]
          intro hm
          rcases List.mem_cons.mp hm with e | e
          · omega
          · exact ih e
        · by_cases h2 : g q = 125
          · rw [opn_out hd h2]
            intro hm
            exact ih (List.mem_of_mem_tail hm)
          · rw [opn_oth h1 h2]; exact ih
      · rw [opn_no hd]; exact ih
theorem mtB_lo {g : Nat → Int32} {b : Nat} : ∀ i, i ≤ b + 1 → mtB g b i = -1
  | 0, _ => rfl
  | i + 1, h => by
    unfold mtB
    rw [if_neg, mtB_lo i (by omega)]
    rintro ⟨-, -, q⟩
    have : b ∈ opn g i := List.mem_of_mem_head? q
    have := opn_lt this
    omega
theorem mtB_hi {g : Nat → Int32} {b e : Nat} (he : dn g e = true) (h125 : g e = 125) (ho : opn g e = b :: opn g b) (hb : b < e) : ∀ i, e < i → mtB g b i = nI e
  | 0, h => absurd h (by omega)
  | i + 1, h => by
    unfold mtB
    by_cases q : e = i
    · subst q
      rw [if_pos ⟨he, h125, by rw [ho]; rfl⟩]
    · rw [if_neg, mtB_hi he h125 ho hb i (by omega)]
      rintro ⟨-, -, z⟩
      have hm : b ∈ opn g i := List.mem_of_mem_head? z
      have : b ∉ opn g (e + 1) := by
        rw [opn_out he h125, ho]
        intro q
        have := opn_lt (show b ∈ opn g b from q)
        omega
      exact opn_not i (e + 1) (by omega) (by omega) this hm
theorem mtB_no {g : Nat → Int32} {b n : Nat} (h : ∀ q, b < q → q < n → dn g q = true → g q = 125 → (opn g q).head? ≠ some b) : ∀ i, i ≤ n → mtB g b i = -1
  | 0, _ => rfl
  | i + 1, hi => by
    unfold mtB
    rw [if_neg, mtB_no h i (by omega)]
    rintro ⟨q1, q2, q3⟩
    by_cases hb : b < i
    · exact h i hb (by omega) q1 q2 q3
    · have : b ∈ opn g i := List.mem_of_mem_head? q3
      have := opn_lt this
      omega
theorem mtB_eo {g : Nat → Int32} {b n : Nat} (hb : b < n) (hd : dn g b = true) (h123 : g b = 123) : mtB g b n = opI (eo g n b) := by
  obtain ⟨s1, s2⟩ := eo_scan hb hd h123
  cases he : eo g n b with
  | none => exact mtB_no (s2 he) n (Nat.le_refl _)
  | some e =>
    obtain ⟨a1, a2, a3, a4, a5⟩ := s1 e he
    exact mtB_hi a2 a3 a4 a5 n a1
theorem nd_iff {g : Nat → Int32} {n i : Nat} (h : i < n) : nd g n i = i ↔ dn g i = true := by
  refine ⟨fun q => ?_, fun q => nd_dn h q⟩
  by_cases hd : dn g i = true
  · exact hd
  · have := (nd_ok (g := g) (n := n) _ (i + 1) rfl (by omega)).1
    rw [nd_no hd] at q
    omega
theorem sub1 (k : Nat) : nI (k + 1) + (-1) = nI k := by
  rw [show nI (k + 1) + (-1) = nI (k + 1) - 1 from (Int32.sub_eq_add_neg _ _).symm, c_sub1 (by omega)]; rfl
theorem sub0 (k : Nat) : nI k + (-1) = nI k - 1 := (Int32.sub_eq_add_neg _ _).symm
def PB (m : Mm) (A : Nat → Nat) (J S : Nat) (g : Nat → Int32) (n : Nat) : Prop := tg m J = 8 ∧ gI m 8 2 J = nI n ∧ gR m 8 0 J = S ∧ tg m S = 24 ∧ ln m S = 200 ∧ (∀ i, i < n → aI m 24 S i = g i) ∧ ShF m A ∧ gI m 7 3 (A 15) = nI n ∧ n ≤ 200
def ClP (Z : Mm → Prop) : Prop := (∀ m x i v, Z m → Z (wI m 21 x i v)) ∧ (∀ m x i v, Z m → Z (wI m 22 x i v)) ∧ (∀ m x i v, Z m → Z (wI m 23 x i v)) ∧ (∀ m v x, Z m → Z (sI m 7 3 x v))
theorem y_sign {m : Mm} {A : Nat → Nat} {J S n : Nat} {g : Nat → Int32} (h : PB m A J S g n) {i : Nat} (hi : i < n) {P : Int32 → Mm → Prop} (k : P (g i) m) : wp_Job_signAt m J (nI i) P := by
  unfold wp_Job_signAt wp_Job_signAt_0 wp_Job_signAt_12
  obtain ⟨h1, h2, h3, h4, h5, h6, h7, h8, h9⟩ := h
  rw [ltL_0 (by omega)]
  refine ⟨fun z => absurd z (by omega), fun _ => ?_⟩
  have e := h6 i hi
  simp (disch := omega) only [forall_eq, h1, h2, h3, h4, h5, true_and, c_inT, nI_clamp, e]
  rw [c_lt (by omega) (by omega)]
  exact ⟨fun _ => k, fun z => absurd hi z⟩
theorem bI_or (b : Bool) : bI b = if b = true then 1 else 0 := rfl
theorem fd35 {m : Mm} {A : Nat → Nat} {J S n : Nat} {g : Nat → Int32} (h : PB m A J S g n) {i : Nat} (hi : i < n) {K : Mm → Nat → Nat → Int32 → Int32 → Prop} {P : Mm → Prop} (k : K (wI m 21 (A 16) i (if dn g i = true then nI i else -1)) (A 15) J (bI (rmk g (i + 1))) (nI (i + 1))) {b : Bool} (hb : b = (rmk g i || g i == 37)) : wp_Plan_findDoneSigns_35 K P m (A 15) J (nI i) (g i) (bI b) := by
  obtain ⟨h1, h2, h3, h4, h5, h6, h7, h8, h9⟩ := h
  have T15 := h7.T15
  have T16 := h7.T16
  have L16 := h7.L16
  have R := h7.R7_0
  unfold wp_Plan_findDoneSigns_35 wp_Plan_findDoneSigns_59 wp_Plan_findDoneSigns_64 wp_Plan_findDoneSigns_80 wp_Plan_findDoneSigns_81
  simp (disch := omega) only [forall_eq, T15, T16, L16, R, true_and, c_inT, nI_clamp, nI_1]
  have er : rmk g (i + 1) = (b && (g i != 10)) := by rw [hb]; rfl
  have ed : dn g i = (!b && g i != 32 && g i != 10) := by rw [hb]; rfl
  cases b with
  | true =>
    have ed' : ¬ dn g i = true := by rw [ed]; simp
    rw [if_neg ed'] at k
    refine ⟨fun z => absurd z (by decide), fun _ => ⟨fun z => absurd z (by decide), fun _ => ⟨fun z => ?_, fun z => ?_⟩⟩⟩
    · rw [er, z] at k; exact k
    · rw [show rmk g (i + 1) = true by rw [er]; simpa using z] at k; exact k
  | false =>
    have er' : rmk g (i + 1) = false := by rw [er]; rfl
    rw [er'] at k
    refine ⟨fun _ => ⟨fun z => ?_, fun z => ⟨fun z1 => ?_, fun z1 => ?_⟩⟩, fun z => absurd rfl z⟩
    · rw [if_neg (by rw [ed, z]; decide)] at k
      exact ⟨fun _ => k, fun z => absurd rfl z⟩
    · rw [if_neg (by rw [ed, z1]; decide)] at k
      exact ⟨fun _ => k, fun z => absurd rfl z⟩
    · rw [if_pos (by rw [ed]; simp [z, z1])] at k
      exact ⟨fun _ => k, fun z => absurd rfl z⟩
theorem fd2 {A : Nat → Nat} {J S n : Nat} {g : Nat → Int32} {Z : Mm → Prop} (hZ : ClP Z) {P : Mm → Prop} (k : ∀ m', PB m' A J S g n → Z m' → (∀ t, t < n → aI m' 21 (A 16) t = nI (nd g n t)) → P m') : ∀ (c : Nat) (m : Mm), c ≤ n → PB m A J S g n → Z m → (∀ t, t < c → aI m 21 (A 16) t = if dn g t = true then nI t else -1) → (∀ t, c ≤ t → t < n → aI m 21 (A 16) t = nI (nd g n t)) → ∃ f, wp_Plan_findDoneSigns_101 P f m (A 15) (nI (nd g n c)) (nI c - 1)
  | 0, m, _, hP, z, _, h2 => ⟨1, by
    unfold wp_Plan_findDoneSigns_101
    exact ⟨fun _ => k m hP z (fun t ht => h2 t (by omega) ht), fun q => absurd (by decide) q⟩⟩
  | c + 1, m, hc, hP, z, h1, h2 => by
    obtain ⟨f, hf⟩ := fd2 hZ k c (wI m 21 (A 16) c (nI (nd g n c))) (by omega) hP (hZ.1 _ _ _ _ z) (fun t ht => by
      have e : ¬ t = c := by omega
      have := h1 t (by omega)
      simp (disch := omega) only [forall_eq, tg_sI, gI_sI, gR_sI, aI_sI, aR_sI, ln_sI, tg_sR, gI_sR, gR_sR, aI_sR, aR_sR, ln_sR, tg_wI, gI_wI, gR_wI, aI_wI, aR_wI, ln_wI, tg_wR, gI_wR, gR_wR, aI_wR, aR_wR, ln_wR, tg_wC, gI_wC, gR_wC, aI_wC, aR_wC, ln_wC, tg_nO, gI_nO, gR_nO, aI_nO, aR_nO, ln_nO, tg_nA, gI_nA, gR_nA, aI_nA, aR_nA, ln_nA, Nat.reduceEqDiff, reduceCtorEq, false_and, true_and, and_true, and_false, and_self, if_true, if_false, ↓reduceIte, forall_const, true_implies, imp_self, not_true, not_false_eq_true, implies_true, not_false, eq_self, Nat.reduceLT, Nat.reduceLeDiff, fF_uF, fN_uF, fD_uF, fM_uF, fF_uN, fN_uN, fD_uN, fM_uN, fF_uD, fN_uD, fD_uD, fM_uD, fF_uM, fN_uM, fD_uM, fM_uM, e]
      exact this) (fun t ht1 ht2 => by
      by_cases e : t = c
      · subst e; simp (disch := omega) only [forall_eq, tg_sI, gI_sI, gR_sI, aI_sI, aR_sI, ln_sI, tg_sR, gI_sR, gR_sR, aI_sR, aR_sR, ln_sR, tg_wI, gI_wI, gR_wI, aI_wI, aR_wI, ln_wI, tg_wR, gI_wR, gR_wR, aI_wR, aR_wR, ln_wR, tg_wC, gI_wC, gR_wC, aI_wC, aR_wC, ln_wC, tg_nO, gI_nO, gR_nO, aI_nO, aR_nO, ln_nO, tg_nA, gI_nA, gR_nA, aI_nA, aR_nA, ln_nA, Nat.reduceEqDiff, reduceCtorEq, false_and, true_and, and_true, and_false, and_self, if_true, if_false, ↓reduceIte, forall_const, true_implies, imp_self, not_true, not_false_eq_true, implies_true, not_false, eq_self, Nat.reduceLT, Nat.reduceLeDiff, fF_uF, fN_uF, fD_uF, fM_uF, fF_uN, fN_uN, fD_uN, fM_uN, fF_uD, fN_uD, fD_uD, fM_uD, fF_uM, fN_uM, fD_uM, fM_uM]
      · have := h2 t (by omega) ht2
        simp (disch := omega) only [forall_eq, tg_sI, gI_sI, gR_sI, aI_sI, aR_sI, ln_sI, tg_sR, gI_sR, gR_sR, aI_sR, aR_sR, ln_sR, tg_wI, gI_wI, gR_wI, aI_wI, aR_wI, ln_wI, tg_wR, gI_wR, gR_wR, aI_wR, aR_wR, ln_wR, tg_wC, gI_wC, gR_wC, aI_wC, aR_wC, ln_wC, tg_nO, gI_nO, gR_nO, aI_nO, aR_nO, ln_nO, tg_nA, gI_nA, gR_nA, aI_nA, aR_nA, ln_nA, Nat.reduceEqDiff, reduceCtorEq, false_and, true_and, and_true, and_false, and_self, if_true, if_false, ↓reduceIte, forall_const, true_implies, imp_self, not_true, not_false_eq_true, implies_true, not_false, eq_self, Nat.reduceLT, Nat.reduceLeDiff, fF_uF, fN_uF, fD_uF, fM_uF, fF_uN, fN_uN, fD_uN, fM_uN, fF_uD, fN_uD, fD_uD, fM_uD, fF_uM, fN_uM, fD_uM, fM_uM, e]
        exact this)
    refine ⟨f + 1, ?_⟩
    obtain ⟨p1, p2, p3, p4, p5, p6, p7, p8, p9⟩ := hP
    have T15 := p7.T15
    have T16 := p7.T16
    have L16 := p7.L16
    have R := p7.R7_0
    have e1 : nI (c + 1) - 1 = nI c := by rw [c_sub1 (by omega)]; rfl
    have hv := h1 c (by omega)
    unfold wp_Plan_findDoneSigns_101 wp_Plan_findDoneSigns_123
    rw [e1, ltL_0 (by omega)]
    refine ⟨fun q => absurd q (by omega), fun _ => ?_⟩
    simp (disch := omega) only [forall_eq, T15, T16, L16, R, true_and, c_inT, nI_clamp, sub0]
    rw [hv]
    by_cases hd : dn g c = true
    · rw [if_pos hd]
      rw [nd_dn (by omega) hd] at hf
      exact ⟨fun q => absurd q (n_m1 (by omega)), fun _ => hf⟩
    · rw [if_neg hd]
      rw [nd_no hd] at hf
      exact ⟨fun _ => hf, fun q => absurd rfl q⟩
theorem fd1 {A : Nat → Nat} {J S n : Nat} {g : Nat → Int32} {Z : Mm → Prop} (hZ : ClP Z) {P : Mm → Prop} (k : ∀ m', PB m' A J S g n → Z m' → (∀ t, t < n → aI m' 21 (A 16) t = nI (nd g n t)) → P m') : ∀ (c i : Nat) (m : Mm), c + i = n → PB m A J S g n → Z m → (∀ t, t < i → aI m 21 (A 16) t = if dn g t = true then nI t else -1) → ∃ f, wp_Plan_findDoneSigns_4 P f m (A 15) J (bI (rmk g i)) (nI i)
  | 0, i, m, hc, hP, z, h1 => ⟨1, by
    have hi : i = n := by omega
    subst hi
    have k2 := fd2 hZ k i m (Nat.le_refl _) hP z h1 (fun t a b => absurd a (by omega))
    obtain ⟨p1, p2, p3, p4, p5, p6, p7, p8, p9⟩ := hP
    have T15 := p7.T15
    unfold wp_Plan_findDoneSigns_4
    simp only [forall_eq, T15, p8, true_and]
    rw [c_le (by omega) (by omega)]
    rw [nd_ge (Nat.le_refl _)] at k2
    exact ⟨fun _ => k2, fun q => absurd (Nat.le_refl _) q⟩⟩
  | c + 1, i, m, hc, hP, z, h1 => by
    obtain ⟨f, hf⟩ := fd1 hZ k c (i + 1) (wI m 21 (A 16) i (if dn g i = true then nI i else -1)) (by omega) hP (hZ.1 _ _ _ _ z) (fun t ht => by
      by_cases e : t = i
      · subst e; simp (disch := omega) only [forall_eq, tg_sI, gI_sI, gR_sI, aI_sI, aR_sI, ln_sI, tg_sR, gI_sR, gR_sR, aI_sR, aR_sR, ln_sR, tg_wI, gI_wI, gR_wI, aI_wI, aR_wI, ln_wI, tg_wR, gI_wR, gR_wR, aI_wR, aR_wR, ln_wR, tg_wC, gI_wC, gR_wC, aI_wC, aR_wC, ln_wC, tg_nO, gI_nO, gR_nO, aI_nO, aR_nO, ln_nO, tg_nA, gI_nA, gR_nA, aI_nA, aR_nA, ln_nA, Nat.reduceEqDiff, reduceCtorEq, false_and, true_and, and_true, and_false, and_self, if_true, if_false, ↓reduceIte, forall_const, true_implies, imp_self, not_true, not_false_eq_true, implies_true, not_false, eq_self, Nat.reduceLT, Nat.reduceLeDiff, fF_uF, fN_uF, fD_uF, fM_uF, fF_uN, fN_uN, fD_uN, fM_uN, fF_uD, fN_uD, fD_uD, fM_uD, fF_uM, fN_uM, fD_uM, fM_uM]
      · have := h1 t (by omega)
        simp (disch := omega) only [forall_eq, tg_sI, gI_sI, gR_sI, aI_sI, aR_sI, ln_sI, tg_sR, gI_sR, gR_sR, aI_sR, aR_sR, ln_sR, tg_wI, gI_wI, gR_wI, aI_wI, aR_wI, ln_wI, tg_wR, gI_wR, gR_wR, aI_wR, aR_wR, ln_wR, tg_wC, gI_wC, gR_wC, aI_wC, aR_wC, ln_wC, tg_nO, gI_nO, gR_nO, aI_nO, aR_nO, ln_nO, tg_nA, gI_nA, gR_nA, aI_nA, aR_nA, ln_nA, Nat.reduceEqDiff, reduceCtorEq, false_and, true_and, and_true, and_false, and_self, if_true, if_false, ↓reduceIte, forall_const, true_implies, imp_self, not_true, not_false_eq_true, implies_true, not_false, eq_self, Nat.reduceLT, Nat.reduceLeDiff, fF_uF, fN_uF, fD_uF, fM_uF, fF_uN, fN_uN, fD_uN, fM_uN, fF_uD, fN_uD, fD_uD, fM_uD, fF_uM, fN_uM, fD_uM, fM_uM, e]
        exact this)
    refine ⟨f + 1, ?_⟩
    have hP' := hP
    obtain ⟨p1, p2, p3, p4, p5, p6, p7, p8, p9⟩ := hP
    have T15 := p7.T15
    unfold wp_Plan_findDoneSigns_4 wp_Plan_findDoneSigns_30
    refine ⟨T15, fun u eu => ?_⟩
    rw [p8] at eu
    subst eu
    rw [c_le (by omega) (by omega)]
    refine ⟨fun q => absurd q (by omega), fun _ => ⟨p1, y_sign hP' (by omega) ?_⟩⟩
    have key : ∀ b, b = (rmk g i || g i == 37) → wp_Plan_findDoneSigns_35 (wp_Plan_findDoneSigns_4 P f) P m (A 15) J (nI i) (g i) (bI b) := fun b hb => fd35 hP' (by omega) hf hb
    cases hr : rmk g i with
    | true => exact ⟨fun q => absurd q (by decide), fun _ => key true (by rw [hr]; rfl)⟩
    | false => exact ⟨fun _ => ⟨fun q => key true (by rw [hr, q]; rfl), fun q => key false (by rw [hr]; simpa using q)⟩, fun q => absurd rfl q⟩
theorem fm {A : Nat → Nat} {J S n : Nat} {g : Nat → Int32} {Z : Mm → Prop} (hZ : ClP Z) {P : Mm → Prop} (k : ∀ m', PB m' A J S g n → Z m' → PL m' A g n → P m') : ∀ (c i : Nat) (m : Mm), c + i = n → PB m A J S g n → Z m → (∀ t, t < n → aI m 21 (A 16) t = nI (nd g n t)) → OB (fun t => aI m 23 (A 18) t) (opn g i) → (∀ t, t < i → dn g t = true → (g t = 125 → aI m 22 (A 17) t = hdI (opn g t)) ∧ (g t = 123 → aI m 22 (A 17) t = mtB g t i)) → ∃ f, wp_Plan_findMates_4 P f m (A 15) J (nI (opn g i).length) (nI i)
  | 0, i, m, hc, hP, z, hD, _, hM => ⟨1, by
    have hi : i = n := by omega
    subst hi
    have kk := k m hP z ⟨hP.2.2.2.2.2.2.2.1, hD, fun t ht hd => ⟨(hM t ht hd).1, fun e => by rw [(hM t ht hd).2 e, mtB_eo ht hd e]⟩⟩
    obtain ⟨p1, p2, p3, p4, p5, p6, p7, p8, p9⟩ := hP
    have T15 := p7.T15
    unfold wp_Plan_findMates_4
    simp only [forall_eq, T15, p8, true_and]
    rw [c_le (by omega) (by omega)]
    exact ⟨fun _ => kk, fun q => absurd (Nat.le_refl _) q⟩⟩
  | c + 1, i, m, hc, hP, z, hD, hO, hM => by
    have step := fun m' => fm hZ k c (i + 1) m' (by omega)
    have hlen := opn_len g i
    have hP' := hP
    obtain ⟨p1, p2, p3, p4, p5, p6, p7, p8, p9⟩ := hP
    have T15 := p7.T15
    have T16 := p7.T16
    have L16 := p7.L16
    have T17 := p7.T17
    have L17 := p7.L17
    have T18 := p7.T18
    have L18 := p7.L18
    have R0 := p7.R7_0
    have R1 := p7.R7_1
    have R2 := p7.R7_2
    have hDi := hD i (by omega)
    have hM8 : ∀ t, t < i → dn g t = true → (g t = 125 → aI (wI m 22 (A 17) i (-1)) 22 (A 17) t = hdI (opn g t)) ∧ (g t = 123 → aI (wI m 22 (A 17) i (-1)) 22 (A 17) t = mtB g t i) := fun t ht hd => by
      have e : ¬ t = i := by omega
      have := hM t ht hd
      simp (disch := omega) only [forall_eq, tg_sI, gI_sI, gR_sI, aI_sI, aR_sI, ln_sI, tg_sR, gI_sR, gR_sR, aI_sR, aR_sR, ln_sR, tg_wI, gI_wI, gR_wI, aI_wI, aR_wI, ln_wI, tg_wR, gI_wR, gR_wR, aI_wR, aR_wR, ln_wR, tg_wC, gI_wC, gR_wC, aI_wC, aR_wC, ln_wC, tg_nO, gI_nO, gR_nO, aI_nO, aR_nO, ln_nO, tg_nA, gI_nA, gR_nA, aI_nA, aR_nA, ln_nA, Nat.reduceEqDiff, reduceCtorEq, false_and, true_and, and_true, and_false, and_self, if_true, if_false, ↓reduceIte, forall_const, true_implies, imp_self, not_true, not_false_eq_true, implies_true, not_false, eq_self, Nat.reduceLT, Nat.reduceLeDiff, fF_uF, fN_uF, fD_uF, fM_uF, fF_uN, fN_uN, fD_uN, fM_uN, fF_uD, fN_uD, fD_uD, fM_uD, fF_uM, fN_uM, fD_uM, fM_uM, e]
      exact this
    have self : aI (wI m 22 (A 17) i (-1)) 22 (A 17) i = -1 := by simp (disch := omega) only [forall_eq, tg_sI, gI_sI, gR_sI, aI_sI, aR_sI, ln_sI, tg_sR, gI_sR, gR_sR, aI_sR, aR_sR, ln_sR, tg_wI, gI_wI, gR_wI, aI_wI, aR_wI, ln_wI, tg_wR, gI_wR, gR_wR, aI_wR, aR_wR, ln_wR, tg_wC, gI_wC, gR_wC, aI_wC, aR_wC, ln_wC, tg_nO, gI_nO, gR_nO, aI_nO, aR_nO, ln_nO, tg_nA, gI_nA, gR_nA, aI_nA, aR_nA, ln_nA, Nat.reduceEqDiff, reduceCtorEq, false_and, true_and, and_true, and_false, and_self, if_true, if_false, ↓reduceIte, forall_const, true_implies, imp_self, not_true, not_false_eq_true, implies_true, not_false, eq_self, Nat.reduceLT, Nat.reduceLeDiff, fF_uF, fN_uF, fD_uF, fM_uF, fF_uN, fN_uN, fD_uN, fM_uN, fF_uD, fN_uD, fD_uD, fM_uD, fF_uM, fN_uM, fD_uM, fM_uM]
    by_cases hd : dn g i = true
    · have hnd : nd g n i = i := nd_dn (by omega) hd
      by_cases h123 : g i = 123
      · -- an opening brace
        obtain ⟨f, hf⟩ := step (wI (wI m 22 (A 17) i (-1)) 23 (A 18) (opn g i).length (nI i)) hP' (hZ.2.2.1 _ _ _ _ (hZ.2.1 _ _ _ _ z)) hD (by
          rw [opn_in hd h123]
          refine ⟨?_, OB_congr _ (fun t ht => ?_) hO⟩
          · simp (disch := omega) only [forall_eq, tg_sI, gI_sI, gR_sI, aI_sI, aR_sI, ln_sI, tg_sR, gI_sR, gR_sR, aI_sR, aR_sR, ln_sR, tg_wI, gI_wI, gR_wI, aI_wI, aR_wI, ln_wI, tg_wR, gI_wR, gR_wR, aI_wR, aR_wR, ln_wR, tg_wC, gI_wC, gR_wC, aI_wC, aR_wC, ln_wC, tg_nO, gI_nO, gR_nO, aI_nO, aR_nO, ln_nO, tg_nA, gI_nA, gR_nA, aI_nA, aR_nA, ln_nA, Nat.reduceEqDiff, reduceCtorEq, false_and, true_and, and_true, and_false, and_self, if_true, if_false, ↓reduceIte, forall_const, true_implies, imp_self, not_true, not_false_eq_true, implies_true, not_false, eq_self, Nat.reduceLT, Nat.reduceLeDiff, fF_uF, fN_uF, fD_uF, fM_uF, fF_uN, fN_uN, fD_uN, fM_uN, fF_uD, fN_uD, fD_uD, fM_uD, fF_uM, fN_uM, fD_uM, fM_uM]
          · have e : ¬ t = (opn g i).length := by omega
            simp (disch := omega) only [forall_eq, tg_sI, gI_sI, gR_sI, aI_sI, aR_sI, ln_sI, tg_sR, gI_sR, gR_sR, aI_sR, aR_sR, ln_sR, tg_wI, gI_wI, gR_wI, aI_wI, aR_wI, ln_wI, tg_wR, gI_wR, gR_wR, aI_wR, aR_wR, ln_wR, tg_wC, gI_wC, gR_wC, aI_wC, aR_wC, ln_wC, tg_nO, gI_nO, gR_nO, aI_nO, aR_nO, ln_nO, tg_nA, gI_nA, gR_nA, aI_nA, aR_nA, ln_nA, Nat.reduceEqDiff, reduceCtorEq, false_and, true_and, and_true, and_false, and_self, if_true, if_false, ↓reduceIte, forall_const, true_implies, imp_self, not_true, not_false_eq_true, implies_true, not_false, eq_self, Nat.reduceLT, Nat.reduceLeDiff, fF_uF, fN_uF, fD_uF, fM_uF, fF_uN, fN_uN, fD_uN, fM_uN, fF_uD, fN_uD, fD_uD, fM_uD, fF_uM, fN_uM, fD_uM, fM_uM, e]) (fun t ht hdt => by
          by_cases e : t = i
          · subst e
            exact ⟨fun q => absurd (h123.symm.trans q) (by decide), fun _ => by rw [mtB_lo _ (Nat.le_refl _)]; exact self⟩
          · refine ⟨(hM8 t (by omega) hdt).1, fun q => ?_⟩
            rw [show mtB g t (i + 1) = mtB g t i from if_neg (fun q => absurd (h123.symm.trans q.2.1) (by decide))]
            exact (hM8 t (by omega) hdt).2 q)
        refine ⟨f + 1, ?_⟩
        rw [opn_in hd h123] at hf
        unfold wp_Plan_findMates_4
        simp (disch := omega) only [forall_eq, T15, T16, L16, T17, L17, R0, R1, p1, p8, tg_wI, gR_wI, ln_wI, gI_wI, aI_wI, Nat.reduceEqDiff, false_and, if_false, true_and, c_inT, nI_clamp, hDi, hnd]
        rw [c_le (by omega) (by omega)]
        refine ⟨fun q => absurd q (by omega), fun _ => ⟨fun _ => y_sign (m := wI m 22 (A 17) i (-1)) hP' (by omega) ?_, fun q => absurd trivial q⟩⟩
        unfold wp_Plan_findMates_38 wp_Plan_findMates_67 wp_Plan_findMates_105
        refine ⟨fun _ => ⟨fun q => absurd q (by rw [geL_200 (by omega)]; omega), fun _ => ?_⟩, fun q => absurd h123 q⟩
        simp (disch := omega) only [forall_eq, T15, T18, L18, R2, tg_wI, gR_wI, ln_wI, true_and, c_inT, nI_clamp, nI_1]
        exact hf
      · by_cases h125 : g i = 125
        · cases hL : opn g i with
          | nil =>
            obtain ⟨f, hf⟩ := step (wI m 22 (A 17) i (-1)) hP' (hZ.2.1 _ _ _ _ z) hD (by rw [opn_out hd h125, hL]; trivial) (fun t ht hdt => by
              by_cases e : t = i
              · subst e
                exact ⟨fun _ => by rw [hL]; exact self, fun q => absurd (h125.symm.trans q) (by decide)⟩
              · refine ⟨(hM8 t (by omega) hdt).1, fun q => ?_⟩
                rw [show mtB g t (i + 1) = mtB g t i from if_neg (fun q => by have := q.2.2; rw [hL] at this; cases this)]
                exact (hM8 t (by omega) hdt).2 q)
            refine ⟨f + 1, ?_⟩
            rw [opn_out hd h125, hL] at hf
            unfold wp_Plan_findMates_4
            simp (disch := omega) only [forall_eq, T15, T16, L16, T17, L17, R0, R1, p1, p8, tg_wI, gR_wI, ln_wI, gI_wI, aI_wI, Nat.reduceEqDiff, false_and, if_false, true_and, c_inT, nI_clamp, hDi, hnd]
            rw [c_le (by omega) (by omega)]
            refine ⟨fun q => absurd q (by omega), fun _ => ⟨fun _ => y_sign (m := wI m 22 (A 17) i (-1)) hP' (by omega) ?_, fun q => absurd trivial q⟩⟩
            unfold wp_Plan_findMates_38 wp_Plan_findMates_67 wp_Plan_findMates_105
            refine ⟨fun q => absurd q h123, fun _ => ⟨fun _ => ⟨fun _ => ?_, fun q => absurd (by decide) q⟩, fun q => absurd h125 q⟩⟩
            simp only [forall_eq, nI_1]
            exact hf
          | cons b L =>
            have hmem := opn_mem i b L [] hL
            rw [hL] at hO
            obtain ⟨ob, oL⟩ := hO
            have ob' : aI m 23 (A 18) L.length = nI b := ob
            have hLl : L.length + 1 ≤ i := by rw [hL] at hlen; simpa using hlen
            obtain ⟨f, hf⟩ := step (wI (wI (wI m 22 (A 17) i (-1)) 22 (A 17) i (nI b)) 22 (A 17) b (nI i)) hP' (hZ.2.1 _ _ _ _ (hZ.2.1 _ _ _ _ (hZ.2.1 _ _ _ _ z))) hD (by rw [opn_out hd h125, hL]; exact oL) (fun t ht hdt => by
              by_cases e : t = i
              · subst e
                have eb : ¬ t = b := by omega
                refine ⟨fun _ => ?_, fun q => absurd (h125.symm.trans q) (by decide)⟩
                rw [hL]
                simp (disch := omega) only [forall_eq, tg_sI, gI_sI, gR_sI, aI_sI, aR_sI, ln_sI, tg_sR, gI_sR, gR_sR, aI_sR, aR_sR, ln_sR, tg_wI, gI_wI, gR_wI, aI_wI, aR_wI, ln_wI, tg_wR, gI_wR, gR_wR, aI_wR, aR_wR, ln_wR, tg_wC, gI_wC, gR_wC, aI_wC, aR_wC, ln_wC, tg_nO, gI_nO, gR_nO, aI_nO, aR_nO, ln_nO, tg_nA, gI_nA, gR_nA, aI_nA, aR_nA, ln_nA, Nat.reduceEqDiff, reduceCtorEq, false_and, true_and, and_true, and_false, and_self, if_true, if_false, ↓reduceIte, forall_const, true_implies, imp_self, not_true, not_false_eq_true, implies_true, not_false, eq_self, Nat.reduceLT, Nat.reduceLeDiff, fF_uF, fN_uF, fD_uF, fM_uF, fF_uN, fN_uN, fD_uN, fM_uN, fF_uD, fN_uD, fD_uD, fM_uD, fF_uM, fN_uM, fD_uM, fM_uM, eb]
                rfl
              · by_cases eb : t = b
                · subst eb
                  refine ⟨fun q => absurd (hmem.2.2.1.symm.trans q) (by decide), fun q => ?_⟩
                  rw [show mtB g t (i + 1) = nI i from if_pos ⟨hd, h125, by rw [hL]; rfl⟩]
                  simp (disch := omega) only [forall_eq, tg_sI, gI_sI, gR_sI, aI_sI, aR_sI, ln_sI, tg_sR, gI_sR, gR_sR, aI_sR, aR_sR, ln_sR, tg_wI, gI_wI, gR_wI, aI_wI, aR_wI, ln_wI, tg_wR, gI_wR, gR_wR, aI_wR, aR_wR, ln_wR, tg_wC, gI_wC, gR_wC, aI_wC, aR_wC, ln_wC, tg_nO, gI_nO, gR_nO, aI_nO, aR_nO, ln_nO, tg_nA, gI_nA, gR_nA, aI_nA, aR_nA, ln_nA, Nat.reduceEqDiff, reduceCtorEq, false_and, true_and, and_true, and_false, and_self, if_true, if_false, ↓reduceIte, forall_const, true_implies, imp_self, not_true, not_false_eq_true, implies_true, not_false, eq_self, Nat.reduceLT, Nat.reduceLeDiff, fF_uF, fN_uF, fD_uF, fM_uF, fF_uN, fN_uN, fD_uN, fM_uN, fF_uD, fN_uD, fD_uD, fM_uD, fF_uM, fN_uM, fD_uM, fM_uM]
                · have h8 := hM8 t (by omega) hdt
                  have rd : aI (wI (wI (wI m 22 (A 17) i (-1)) 22 (A 17) i (nI b)) 22 (A 17) b (nI i)) 22 (A 17) t = aI (wI m 22 (A 17) i (-1)) 22 (A 17) t := by
                    simp (disch := omega) only [forall_eq, tg_sI, gI_sI, gR_sI, aI_sI, aR_sI, ln_sI, tg_sR, gI_sR, gR_sR, aI_sR, aR_sR, ln_sR, tg_wI, gI_wI, gR_wI, aI_wI, aR_wI, ln_wI, tg_wR, gI_wR, gR_wR, aI_wR, aR_wR, ln_wR, tg_wC, gI_wC, gR_wC, aI_wC, aR_wC, ln_wC, tg_nO, gI_nO, gR_nO, aI_nO, aR_nO, ln_nO, tg_nA, gI_nA, gR_nA, aI_nA, aR_nA, ln_nA, Nat.reduceEqDiff, reduceCtorEq, false_and, true_and, and_true, and_false, and_self, if_true, if_false, ↓reduceIte, forall_const, true_implies, imp_self, not_true, not_false_eq_true, implies_true, not_false, eq_self, Nat.reduceLT, Nat.reduceLeDiff, fF_uF, fN_uF, fD_uF, fM_uF, fF_uN, fN_uN, fD_uN, fM_uN, fF_uD, fN_uD, fD_uD, fM_uD, fF_uM, fN_uM, fD_uM, fM_uM, e, eb]
                  rw [rd]
                  refine ⟨h8.1, fun q => ?_⟩
                  rw [show mtB g t (i + 1) = mtB g t i from if_neg (fun q => by have := q.2.2; rw [hL] at this; exact eb (by injection this with this; exact this.symm))]
                  exact h8.2 q)
            refine ⟨f + 1, ?_⟩
            rw [opn_out hd h125, hL] at hf
            unfold wp_Plan_findMates_4
            simp (disch := omega) only [forall_eq, T15, T16, L16, T17, L17, R0, R1, p1, p8, tg_wI, gR_wI, ln_wI, gI_wI, aI_wI, Nat.reduceEqDiff, false_and, if_false, true_and, c_inT, nI_clamp, hDi, hnd]
            rw [c_le (by omega) (by omega)]
            refine ⟨fun q => absurd q (by omega), fun _ => ⟨fun _ => y_sign (m := wI m 22 (A 17) i (-1)) hP' (by omega) ?_, fun q => absurd trivial q⟩⟩
            unfold wp_Plan_findMates_38 wp_Plan_findMates_67 wp_Plan_findMates_105
            have len : (b :: L).length = L.length + 1 := rfl
            rw [len, leL_0 (by omega)]
            refine ⟨fun q => absurd q h123, fun _ => ⟨fun _ => ⟨fun q => absurd q (by omega), fun _ => ?_⟩, fun q => absurd h125 q⟩⟩
            have hbi := hmem.1
            simp (disch := omega) only [forall_eq, T15, T17, L17, T18, L18, R1, R2, tg_wI, gR_wI, ln_wI, aI_wI, Nat.reduceEqDiff, false_and, if_false, true_and, c_inT, nI_clamp, nI_1, sub1, ob']
            exact hf
        · obtain ⟨f, hf⟩ := step (wI m 22 (A 17) i (-1)) hP' (hZ.2.1 _ _ _ _ z) hD (by rw [opn_oth h123 h125]; exact hO) (fun t ht hdt => by
            by_cases e : t = i
            · subst e
              exact ⟨fun q => absurd q h125, fun q => absurd q h123⟩
            · refine ⟨(hM8 t (by omega) hdt).1, fun q => ?_⟩
              rw [show mtB g t (i + 1) = mtB g t i from if_neg (fun q => h125 q.2.1)]
              exact (hM8 t (by omega) hdt).2 q)
          refine ⟨f + 1, ?_⟩
          rw [opn_oth h123 h125] at hf
          unfold wp_Plan_findMates_4
          simp (disch := omega) only [forall_eq, T15, T16, L16, T17, L17, R0, R1, p1, p8, tg_wI, gR_wI, ln_wI, gI_wI, aI_wI, Nat.reduceEqDiff, false_and, if_false, true_and, c_inT, nI_clamp, hDi, hnd]
          rw [c_le (by omega) (by omega)]
          refine ⟨fun q => absurd q (by omega), fun _ => ⟨fun _ => y_sign (m := wI m 22 (A 17) i (-1)) hP' (by omega) ?_, fun q => absurd trivial q⟩⟩
          unfold wp_Plan_findMates_38 wp_Plan_findMates_67 wp_Plan_findMates_105
          refine ⟨fun q => absurd q h123, fun _ => ⟨fun q => absurd q h125, fun _ => ?_⟩⟩
          simp only [forall_eq, nI_1]
          exact hf
    · have hnd : ¬ nd g n i = i := fun q => hd ((nd_iff (by omega)).mp q)
      have hndl : nd g n i ≤ n := (nd_ok (g := g) (n := n) _ i rfl (by omega)).2.1
      obtain ⟨f, hf⟩ := step (wI m 22 (A 17) i (-1)) hP' (hZ.2.1 _ _ _ _ z) hD (by rw [opn_no hd]; exact hO) (fun t ht hdt => by
        by_cases e : t = i
        · subst e
          exact absurd hdt hd
        · refine ⟨(hM8 t (by omega) hdt).1, fun q => ?_⟩
          rw [show mtB g t (i + 1) = mtB g t i from if_neg (fun q => hd q.1)]
          exact (hM8 t (by omega) hdt).2 q)
      refine ⟨f + 1, ?_⟩
      rw [opn_no hd] at hf
      unfold wp_Plan_findMates_4
      simp (disch := omega) only [forall_eq, T15, T16, L16, T17, L17, R0, R1, p1, p8, tg_wI, gR_wI, ln_wI, gI_wI, aI_wI, Nat.reduceEqDiff, false_and, if_false, true_and, c_inT, nI_clamp, hDi, c_eq]
      rw [c_le (by omega) (by omega)]
      refine ⟨fun q => absurd q (by omega), fun _ => ⟨fun q => absurd q hnd, fun _ => ?_⟩⟩
      unfold wp_Plan_findMates_38 wp_Plan_findMates_67 wp_Plan_findMates_105
      refine ⟨fun q => absurd q (by decide), fun _ => ⟨fun q => absurd q (by decide), fun _ => ?_⟩⟩
      simp only [forall_eq, nI_1]
      exact hf
theorem y_prepare {m : Mm} {A : Nat → Nat} {J S n : Nat} {g : Nat → Int32} {Z : Mm → Prop} (hZ : ClP Z) (hS : ShF m A) (h1 : tg m J = 8) (h2 : gI m 8 2 J = nI n) (h3 : gR m 8 0 J = S) (h4 : tg m S = 24) (h5 : ln m S = 200) (h6 : ∀ i, i < n → aI m 24 S i = g i) (hn : n ≤ 200) (z : Z m) {P : Mm → Prop} (k : ∀ m', Z m' → PL m' A g n → ShF m' A → P m') : wp_Plan_prepare m (A 15) J P := by
  unfold wp_Plan_prepare wp_Plan_prepare_0
  have T15 := hS.T15
  have e : (if (200 : Int32) < nI n then (200 : Int32) else nI n) = nI n := if_neg (by rw [gtL_200 (by omega)]; omega)
  simp only [forall_eq, h1, h2, e, T15, tg_sI, true_and]
  have hP : PB (sI m 7 3 (A 15) (nI n)) A J S g n := ⟨h1, h2, h3, h4, h5, h6, hS, by simp (disch := omega) only [forall_eq, tg_sI, gI_sI, gR_sI, aI_sI, aR_sI, ln_sI, tg_sR, gI_sR, gR_sR, aI_sR, aR_sR, ln_sR, tg_wI, gI_wI, gR_wI, aI_wI, aR_wI, ln_wI, tg_wR, gI_wR, gR_wR, aI_wR, aR_wR, ln_wR, tg_wC, gI_wC, gR_wC, aI_wC, aR_wC, ln_wC, tg_nO, gI_nO, gR_nO, aI_nO, aR_nO, ln_nO, tg_nA, gI_nA, gR_nA, aI_nA, aR_nA, ln_nA, Nat.reduceEqDiff, reduceCtorEq, false_and, true_and, and_true, and_false, and_self, if_true, if_false, ↓reduceIte, forall_const, true_implies, imp_self, not_true, not_false_eq_true, implies_true, not_false, eq_self, Nat.reduceLT, Nat.reduceLeDiff, fF_uF, fN_uF, fD_uF, fM_uF, fF_uN, fN_uN, fD_uN, fM_uN, fF_uD, fN_uD, fD_uD, fM_uD, fF_uM, fN_uM, fD_uM, fM_uM], hn⟩
  unfold wp_Plan_findDoneSigns wp_Plan_findDoneSigns_0
  refine fd1 hZ (fun m1 hP1 z1 hD => ⟨hP1.2.2.2.2.2.2.1.T15, ?_⟩) n 0 _ rfl hP (hZ.2.2.2 _ _ _ z) (fun t ht => absurd ht (by omega))
  unfold wp_Plan_findMates wp_Plan_findMates_0
  exact fm hZ (fun m2 hP2 z2 hL => k m2 z2 hL hP2.2.2.2.2.2.2.1) n 0 m1 rfl hP1 z1 hD trivial (fun t ht => absurd ht (by omega))
