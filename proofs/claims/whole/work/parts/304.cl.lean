/-! THE CLASS: calls on the file tree -/
def Cl (Z : Mm → Prop) : Prop := (∀ m k i x v, (k = 9 ∨ k = 10) → Z m → Z (sI m k i x v)) ∧ (∀ m x v, Z m → Z (sR m 10 4 x v)) ∧ (∀ m k x i v, (k = 26 ∨ k = 27) → Z m → Z (wI m k x i v))
theorem Cl.dt {Z : Mm → Prop} (h : Cl Z) {m : Mm} (x : Nat) (z : Z m) : Z (dtM m x) :=
  h.1 _ _ _ _ _ (Or.inr rfl) (h.1 _ _ _ _ _ (Or.inr rfl) (h.1 _ _ _ _ _ (Or.inr rfl) (h.1 _ _ _ _ _ (Or.inr rfl) (h.1 _ _ _ _ _ (Or.inr rfl) (h.2.1 _ _ _ z)))))
theorem Cl.at {Z : Mm → Prop} (h : Cl Z) {m : Mm} (x s : Nat) (md o : Int32) (z : Z m) : Z (atM m x s md o) :=
  h.1 _ _ _ _ _ (Or.inr rfl) (h.1 _ _ _ _ _ (Or.inr rfl) (h.2.1 _ _ _ (h.dt x z)))
theorem Cl.me {Z : Mm → Prop} (h : Cl Z) {m : Mm} (s : Nat) (z : Z m) : Z (meM m s) := h.1 _ _ _ _ _ (Or.inl rfl) (h.1 _ _ _ _ _ (Or.inl rfl) z)
theorem Cl.rm (a : Nat) (B : Nat → Nat) (τ : Sg) : Cl (fun m => RM m a B τ) := ⟨fun m k i x v e z => z.oI (by omega) i x v, fun m x v z => z.oR (by decide) 4 x v, fun m k x i v e z => z.oW (by omega) x i v⟩
theorem uN_self (σ : Sg) (f i : Nat) : uN σ f i (fN σ f i) = σ := by
  obtain ⟨a, b, d, e⟩ := σ
  have : (fun f' i' => if f' = f ∧ i' = i then b f i else b f' i') = b := by
    funext f' i'
    split
    · rename_i q; rw [q.1, q.2]
    · rfl
  exact congrArg (fun q => (a, q, d, e)) this
theorem ft_put_in {m : Mm} {x y s b n L i : Nat} {σ : Sg} (hF : FlA m x y σ i) (st : StA m s b n L) (hI : Inv σ) (hs : gR m 10 4 x = s) {v : Int32} {P : Int32 → Mm → Prop} (k0 : ¬ n < L → P (-4) m) (k1 : n < L → P 1 (sI (wI m 26 b n (by1 (wfl σ i (fN σ 20 i) (by8 v)))) 9 1 s (nI (n + 1)))) : (tg m s = 9 ∧ wp_Store_isFull m s (fun r_14 m_13 => ((r_14 = 0 → (tg m_13 x = 10 ∧ ∀ x_17 : Nat, x_17 = gR m_13 10 4 x → (tg m_13 x = 10 ∧ wp_Handle_asWritten m_13 x v (fun r_20 m_19 => (tg m_19 x_17 = 9 ∧ wp_Store_append m_19 x_17 r_20 (fun m_22 => P 1 m_22)))))) ∧ (¬ r_14 = 0 → P (-4) m_13)))) := by
  refine ⟨st.1, x_isFull st (fun l => ?_) (fun l => ?_)⟩
  · refine ⟨fun _ => ⟨hF.1, fun u eu => ⟨hF.1, ?_⟩⟩, fun z => absurd rfl z⟩
    rw [hs] at eu
    subst eu
    exact x_asWritten hF hI ⟨st.1, x_append st l (k1 l)⟩
  · exact ⟨fun z => absurd z (by decide), fun _ => k0 l⟩
theorem ft_put {m : Mm} {A : Nat → Nat} {σ : Sg} {w : Nat → Nat} {c : Nat → Prop} (h : RC m A σ w c) (hI : Inv σ) {Z : Mm → Prop} (hZ : Cl Z) (z : Z m) {v x : Int32} {P : Int32 → Mm → Prop} (k : ∀ m', RC m' A (spWritten σ v x).2 w c → Z m' → (∀ y, gI m' 10 2 y = gI m 10 2 y) → P (spWritten σ v x).1 m') : wp_FileTree_put m (A 9) v x P := by
  unfold wp_FileTree_put wp_FileTree_put_0
  refine ⟨h.1.T9, x_opn h hI (fun q => ?_) (fun i i1 i2 i3 i4 i5 => ?_)⟩
  · simp only [spWritten, q] at k; exact ⟨fun _ => k m h z (fun _ => rfl), fun z => absurd rfl z⟩
  · subst i4
    simp only [spWritten, i5] at k
    obtain ⟨-, c2, -⟩ := h.hc i1 i2
    obtain ⟨s1, s2, s3, s4⟩ := c2 i3
    have T := (h.2.1.2.1 i i1 (by omega)).2.1
    have md := hI.mode i
    have nm := hI.name i
    have hF := h.flA i1 i2 i3
    refine ⟨fun q => absurd q (h.z50 i1 i2), fun _ => ?_⟩
    refine ⟨T, fun u eu => ?_⟩
    subst eu
    rw [s1]
    refine ⟨fun q => absurd q (h.zh hI i), fun _ => ⟨T, fun u eu => ?_⟩⟩
    subst eu
    rw [s4, eL_0 (by omega)]
    refine ⟨fun q => by rw [if_pos q] at k; exact k m h z (fun _ => rfl), fun q => ⟨T, fun u eu => ?_⟩⟩
    subst eu
    rw [if_neg q] at k
    by_cases e : i = 1
    · subst e
      rw [if_pos rfl] at k
      have hs : hsA A σ 1 = A 11 := if_pos rfl
      rw [hs] at s1
      rw [hs]
      refine ft_put_in hF (h.stO hI) hI s1 (fun l => ?_) (fun l => ?_)
      · rw [if_pos (by have := hI.out; omega)] at k; exact k m h z (fun _ => rfl)
      · rw [if_neg (by omega)] at k
        exact k _ h.wo (hZ.1 _ _ _ _ _ (Or.inl rfl) (hZ.2.2 _ _ _ _ _ (Or.inl rfl) z)) (fun _ => rfl)
    · rw [if_neg e] at k
      have hs : hsA A σ i = A (30 + fN σ 17 i) := if_neg e
      rw [hs] at s1
      rw [hs]
      refine ft_put_in hF (h.stN hI nm) hI s1 (fun l => ?_) (fun l => ?_)
      · rw [if_pos (by have := hI.len (fN σ 17 i); omega)] at k; exact k m h z (fun _ => rfl)
      · rw [if_neg (by omega)] at k
        exact k _ (h.wn nm l) (hZ.1 _ _ _ _ _ (Or.inl rfl) (hZ.2.2 _ _ _ _ _ (Or.inl rfl) z)) (fun _ => rfl)
theorem ft_take {m : Mm} {A : Nat → Nat} {σ : Sg} {w : Nat → Nat} {c : Nat → Prop} (h : RC m A σ w c) (hI : Inv σ) {Z : Mm → Prop} (hZ : Cl Z) (z : Z m) {v : Int32} {P : Int32 → Mm → Prop} (k : ∀ m', RC m' A (spTaken σ v).2 w c → Z m' → (∀ y, gI m' 10 2 y = gI m 10 2 y) → P (spTaken σ v).1 m') : wp_FileTree_take m (A 9) v P := by
  unfold wp_FileTree_take wp_FileTree_take_0
  refine ⟨h.1.T9, x_opn h hI (fun q => ?_) (fun i i1 i2 i3 i4 i5 => ?_)⟩
  · simp only [spTaken, q] at k; exact ⟨fun _ => k m h z (fun _ => rfl), fun z => absurd rfl z⟩
  · subst i4
    simp only [spTaken, i5] at k
    obtain ⟨-, c2, -⟩ := h.hc i1 i2
    obtain ⟨s1, s2, s3, s4⟩ := c2 i3
    have T := (h.2.1.2.1 i i1 (by omega)).2.1
    have md := hI.mode i
    have nm := hI.name i
    have pl := hI.plc i
    have ln1 := hI.len (fN σ 17 i)
    have hF := h.flA i1 i2 i3
    refine ⟨fun q => absurd q (h.z50 i1 i2), fun _ => ⟨T, fun u eu => ?_⟩⟩
    subst eu
    rw [s1]
    refine ⟨fun q => absurd q (h.zh hI i), fun _ => ⟨T, fun u eu => ?_⟩⟩
    subst eu
    rw [s4, eL_0 (by omega)]
    refine ⟨fun q => ⟨T, fun u eu => ⟨T, ?_⟩⟩, fun q => by rw [if_neg q] at k; exact k m h z (fun _ => rfl)⟩
    subst eu
    rw [if_pos q] at k
    have e : i ≠ 1 := fun e => by rw [e, hI.m1] at q; cases q
    have hs : hsA A σ i = A (30 + fN σ 17 i) := if_neg e
    rw [hs] at s1
    rw [hs]
    unfold wp_Handle_nextByte wp_Handle_nextByte_0
    have st := h.stN hI nm
    refine ⟨T, fun u eu => ⟨st.1, ?_⟩⟩
    subst eu
    rw [s3]
    refine x_byteAt st (fun l => ?_) (fun j l1 l2 => ?_)
    · rw [ltL_0 (by omega), c_le (by omega) (by omega)] at l
      rw [if_neg (by omega)] at k
      exact ⟨fun _ => k m h z (fun _ => rfl), fun z => absurd rfl z⟩
    · have ej : fN σ 19 i = j := by rw [c_eq (by omega) (by omega)] at l2; exact l2
      subst ej
      rw [if_pos l1] at k
      refine ⟨fun z => absurd z (n_m1 (by have := by8_lt (aI m 26 (A (40 + fN σ 17 i)) (fN σ 19 i)); omega)), fun _ => ⟨T, ?_⟩⟩
      have hb : aI m 26 (A (40 + fN σ 17 i)) (fN σ 19 i) = fD σ 13 (100 * fN σ 17 i + fN σ 19 i) := (h.cs.1 _ (by omega)).2.2 _ (by omega)
      simp only [forall_eq, s3, T, true_and, nI_1, nI_add, hb]
      have h' := h.pl (p := fN σ 19 i + 1) i1 (i := i) (by omega)
      refine x_rd_loop (σ := uN σ 19 i (fN σ 19 i + 1)) (h'.flA i1 i2 i3) (hI.u19 i _ (by omega)) _ 0 _ rfl (by8_lt _) ?_
      rw [tfl_congr (σ := uN σ 19 i (fN σ 19 i + 1)) (τ := σ) (fun _ => rfl)]
      exact k _ h' (hZ.1 _ _ _ _ _ (Or.inr rfl) z) (fun y => rfl)
theorem ft_filter {m : Mm} {A : Nat → Nat} {σ : Sg} {w : Nat → Nat} {c : Nat → Prop} (h : RC m A σ w c) (hI : Inv σ) {Z : Mm → Prop} (hZ : Cl Z) (z : Z m) {v x : Int32} {P : Int32 → Mm → Prop} (k : ∀ m', RC m' A (spFiltered σ v x).2 w c → Z m' → (∀ y, gI m' 10 2 y = gI m 10 2 y) → P (spFiltered σ v x).1 m') : wp_FileTree_putFilter m (A 9) v x P := by
  unfold wp_FileTree_putFilter wp_FileTree_putFilter_0
  refine ⟨h.1.T9, x_opn h hI (fun q => ?_) (fun i i1 i2 i3 i4 i5 => ?_)⟩
  · simp only [spFiltered, q] at k; exact ⟨fun _ => k m h z (fun _ => rfl), fun z => absurd rfl z⟩
  · subst i4
    simp only [spFiltered, i5] at k
    have T := (h.2.1.2.1 i i1 (by omega)).2.1
    have fl := hI.flt i
    obtain ⟨f1, f2, f3, f4, f5, f6⟩ := h.flA i1 i2 i3
    refine ⟨fun q => absurd q (h.z50 i1 i2), fun _ => ⟨fun q => ?_, fun q => ⟨fun q1 => ⟨T, ?_⟩, fun q1 => ?_⟩⟩⟩
    · rw [if_pos (Or.inl q)] at k; exact k m h z (fun _ => rfl)
    · have q2 : ¬ 3 < x := fun q2 => by simp only [Int32.le_iff_toInt_le, Int32.lt_iff_toInt_lt] at *; omega
      rw [if_neg (by rintro (a | a); exact q a; exact q2 a)] at k
      obtain ⟨j, hj, rfl⟩ := ix_of (v := x) (hi := 3) (n := 3) rfl (fun z => q (by simp only [Int32.lt_iff_toInt_lt, Int32.toInt_zero, show (1 : Int32).toInt = 1 from rfl] at *; omega)) q2
      rw [nI_clamp (by omega)] at k
      unfold wp_Handle_layFilter wp_Handle_layFilter_0
      simp only [forall_eq, f1, f2, f3, f4, f5, true_and]
      rw [ltL_3 (by omega)]
      refine ⟨fun l => ?_, fun l => ?_⟩
      · rw [if_neg (by omega)] at k
        simp (disch := omega) only [forall_eq, c_inT, tg_wI, gI_wI, gI_sI, tg_sI, f1, f2, nI_clamp, nI_1, nI_add, true_and, and_self, if_true]
        exact k _ (h.fl i1 (by omega) l) (hZ.1 _ _ _ _ _ (Or.inr rfl) (hZ.2.2 _ _ _ _ _ (Or.inr rfl) z)) (fun y => rfl)
      · rw [if_pos (by omega)] at k; exact k m h z (fun _ => rfl)
    · rw [if_pos (Or.inr (le_no q1))] at k; exact k m h z (fun _ => rfl)
theorem ft_shut {m : Mm} {A : Nat → Nat} {σ : Sg} {w : Nat → Nat} {c : Nat → Prop} (h : RC m A σ w c) (hI : Inv σ) {v : Int32} {P : Int32 → Mm → Prop} (k0 : (spClose σ v).2 = σ → P (spClose σ v).1 m) (k1 : ∀ i : Nat, 2 ≤ i → i ≤ 7 → fN σ 16 i ≠ 0 → v = nI i → spClose σ v = (1, uN σ 16 i 0) → P 1 (dtM m (A (50 + i)))) : wp_FileTree_shut m (A 9) v P := by
  unfold wp_FileTree_shut wp_FileTree_shut_0
  refine ⟨h.1.T9, x_opn h hI (fun q => ?_) (fun i i1 i2 i3 i4 i5 => ?_)⟩
  · simp only [spClose, q] at k0; exact ⟨fun _ => k0 trivial, fun z => absurd rfl z⟩
  · subst i4
    simp only [spClose, i5] at k0 k1
    refine ⟨fun q => absurd q (h.z50 i1 i2), fun _ => ?_⟩
    rw [eL_1 (by omega)]
    refine ⟨fun q => ?_, fun q => ?_⟩
    · rw [if_pos q] at k0; exact k0 rfl
    · have T := (h.2.1.2.1 i i1 (by omega)).2.1
      exact ⟨T, x_detach T (k1 i (by omega) i2 i3 rfl (if_neg q))⟩
theorem cnH_0 {σ : Sg} {n md : Nat} : ∀ k, cnH σ n md k = true → (0 < md ∨ fN σ 11 n ≠ 0)
  | 0, h => by simpa [cnH] using h
  | k + 1, h => by
    simp only [cnH, Bool.and_eq_true] at h
    exact cnH_0 k h.1
theorem ft_held {m : Mm} {A : Nat → Nat} {σ : Sg} {w : Nat → Nat} {c : Nat → Prop} (h : RC m A σ w c) (hI : Inv σ) {n md : Nat} (hn : n ≤ 9) (hm : md ≤ 2) (hb : 0 < md ∨ fN σ 11 n ≠ 0) {P : Int32 → Mm → Prop} : ∀ k, k ≤ 6 → P (if cnH σ n md k = true then 0 else 1) m → ∃ f, wp_FileTree_isHeldAgainst_2 P f m (A 9) (A (30 + n)) (nI md) (nI (8 - k))
  | 0, _, p => ⟨1, by
    unfold wp_FileTree_isHeldAgainst_2
    refine ⟨fun _ => ?_, fun z => absurd (by decide) z⟩
    rw [if_pos (by simpa [cnH] using hb)] at p
    exact p⟩
  | k + 1, hk, p => by
    by_cases hh : hitH σ n md (7 - k) = true
    · refine ⟨1, ?_⟩
      rw [if_neg (by simp [cnH, hh])] at p
      simp only [hitH, decide_eq_true_eq] at hh
      obtain ⟨g1, g2, g3⟩ := hh
      unfold wp_FileTree_isHeldAgainst_2
      rw [gtL_7 (by omega)]
      refine ⟨fun z => absurd z (by omega), fun _ => ⟨h.1.T9, x_handle h.1 h.2.1 (fun q => ?_) (fun i i1 i2 i4 => ?_)⟩⟩
      · exfalso
        rw [ltL_1 (by omega), gtL_7 (by omega)] at q
        omega
      · have ei : i = 7 - k := by rw [c_eq (by omega) (by omega)] at i4; omega
        subst ei
        have i3 := g1
        have T := (h.2.1.2.1 _ i1 (by omega)).2.1
        obtain ⟨-, c2, -⟩ := h.hc i1 i2
        obtain ⟨s1, s2, s3, s4⟩ := c2 i3
        have mo := hI.mode (7 - k)
        have hs : hsA A σ (7 - k) = A (30 + n) := by unfold hsA; rw [if_neg (by omega), g2]
        refine ⟨fun q => absurd q (h.z50 i1 i2), fun _ => ⟨T, ?_⟩⟩
        simp only [forall_eq, s1, hs, s4, T, true_and, imp_self, not_true, false_implies, and_true, forall_const]
        rw [eL_0 (by omega), eL_0 (by omega)]
        exact ⟨fun q => ⟨fun q1 => absurd q1 (by omega), fun _ => p⟩, fun _ => p⟩
    · have hh' : hitH σ n md (7 - k) = false := by simpa using hh
      rw [show cnH σ n md (k + 1) = cnH σ n md k by simp [cnH, hh']] at p
      obtain ⟨f, hf⟩ := ft_held h hI hn hm hb k (by omega) p
      refine ⟨f + 1, ?_⟩
      have kk : wp_FileTree_isHeldAgainst_43 (wp_FileTree_isHeldAgainst_2 P f) P m (A 9) (A (30 + n)) (nI md) (nI (8 - (k + 1))) := by
        unfold wp_FileTree_isHeldAgainst_43
        intro x ex
        rw [ex, nI_1, show 8 - (k + 1) + 1 = 8 - k by omega]
        exact hf
      unfold wp_FileTree_isHeldAgainst_2
      rw [gtL_7 (by omega)]
      refine ⟨fun z => absurd z (by omega), fun _ => ⟨h.1.T9, x_handle h.1 h.2.1 (fun q => ⟨fun _ => kk, fun z => absurd rfl z⟩) (fun i i1 i2 i4 => ?_)⟩⟩
      have ei : i = 7 - k := by rw [c_eq (by omega) (by omega)] at i4; omega
      subst ei
      have T := (h.2.1.2.1 _ i1 (by omega)).2.1
      obtain ⟨c1, c2, -⟩ := h.hc i1 i2
      refine ⟨fun q => absurd q (h.z50 i1 i2), fun _ => ⟨T, ?_⟩⟩
      by_cases i3 : fN σ 16 (7 - k) = 0
      · intro u eu
        rw [c1 i3] at eu
        subst eu
        exact ⟨fun q => absurd q.symm (h.z30 hn), fun _ => kk⟩
      obtain ⟨s1, s2, s3, s4⟩ := c2 i3
      have mo := hI.mode (7 - k)
      have nm := hI.name (7 - k)
      have hs : hsA A σ (7 - k) = A (30 + fN σ 17 (7 - k)) := by unfold hsA; rw [if_neg (by omega)]
      simp only [forall_eq, s1, hs, s4, T, true_and]
      rw [eL_0 (by omega), eL_0 (by omega), h.2.1.e30 (by omega) (by omega)]
      simp only [hitH, decide_eq_false_iff_not] at hh'
      exact ⟨fun q => ⟨fun q1 => ⟨fun _ => kk, fun q2 => absurd ⟨i3, q, Or.inr (by omega)⟩ hh'⟩, fun q1 => absurd ⟨i3, q, Or.inl (by omega)⟩ hh'⟩, fun _ => kk⟩
theorem ft_free {m : Mm} {A : Nat → Nat} {σ : Sg} {w : Nat → Nat} {c : Nat → Prop} (h : RC m A σ w c) (hI : Inv σ) {P : Int32 → Mm → Prop} : ∀ k, k ≤ 6 → P (oI (frH σ k)) m → ∃ f, wp_FileTree_freeHandle_2 P f m (A 9) (nI (8 - k))
  | 0, _, p => ⟨1, by
    unfold wp_FileTree_freeHandle_2
    exact ⟨fun _ => p, fun z => absurd (by decide) z⟩⟩
  | k + 1, hk, p => by
    by_cases hh : fN σ 16 (7 - k) = 0
    · refine ⟨1, ?_⟩
      rw [show frH σ (k + 1) = 7 - k by simp [frH, hh]] at p
      unfold wp_FileTree_freeHandle_2
      rw [gtL_7 (by omega)]
      refine ⟨fun z => absurd z (by omega), fun _ => ⟨h.1.T9, x_handle h.1 h.2.1 (fun q => ?_) (fun i i1 i2 i4 => ?_)⟩⟩
      · exfalso
        rw [ltL_1 (by omega), gtL_7 (by omega)] at q
        omega
      · have ei : i = 7 - k := by rw [c_eq (by omega) (by omega)] at i4; omega
        subst ei
        refine ⟨fun q => absurd q (h.z50 i1 i2), fun _ => ⟨(h.2.1.2.1 _ i1 (by omega)).2.1, fun u eu => ?_⟩⟩
        rw [(h.hc i1 i2).1 hh] at eu
        subst eu
        refine ⟨fun _ => ?_, fun z => absurd rfl z⟩
        unfold oI at p
        rw [if_neg (by omega)] at p
        rw [show 8 - (k + 1) = 7 - k by omega]
        exact p
    · rw [show frH σ (k + 1) = frH σ k by simp [frH, hh]] at p
      obtain ⟨f, hf⟩ := ft_free h hI k (by omega) p
      refine ⟨f + 1, ?_⟩
      unfold wp_FileTree_freeHandle_2
      rw [gtL_7 (by omega)]
      refine ⟨fun z => absurd z (by omega), fun _ => ⟨h.1.T9, x_handle h.1 h.2.1 (fun q => ?_) (fun i i1 i2 i4 => ?_)⟩⟩
      · exfalso
        rw [ltL_1 (by omega), gtL_7 (by omega)] at q
        omega
      · have ei : i = 7 - k := by rw [c_eq (by omega) (by omega)] at i4; omega
        subst ei
        refine ⟨fun q => absurd q (h.z50 i1 i2), fun _ => ⟨(h.2.1.2.1 _ i1 (by omega)).2.1, fun u eu => ?_⟩⟩
        rw [((h.hc i1 i2).2.1 hh).1] at eu
        subst eu
        refine ⟨fun z => absurd z (h.zh hI _), fun _ => ?_⟩
        unfold wp_FileTree_freeHandle_27
        intro x ex
        rw [ex, nI_1, show 8 - (k + 1) + 1 = 8 - k by omega]
        exact hf
