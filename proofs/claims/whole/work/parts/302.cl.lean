/-! THE CLASS: addresses, handles, stores -/
theorem ShV.e50 {m : Mm} {A : Nat → Nat} {n : Nat} (h : ShV m A n) {i j : Nat} (h1 : 1 ≤ i) (h2 : i < 8) (g1 : 1 ≤ j) (g2 : j < 8) : (A (50 + i) = A (50 + j)) = (i = j) := propext ⟨fun e => by have := h.2.2.2.1 _ _ (by unfold dmA; omega) (by unfold dmA; omega) e; omega, fun e => by rw [e]⟩
theorem ShV.e60 {m : Mm} {A : Nat → Nat} {n : Nat} (h : ShV m A n) {i j : Nat} (h1 : 1 ≤ i) (h2 : i < 8) (g1 : 1 ≤ j) (g2 : j < 8) : (A (60 + i) = A (60 + j)) = (i = j) := propext ⟨fun e => by have := h.2.2.2.1 _ _ (by unfold dmA; omega) (by unfold dmA; omega) e; omega, fun e => by rw [e]⟩
theorem ShV.e30 {m : Mm} {A : Nat → Nat} {n : Nat} (h : ShV m A n) {i j : Nat} (h2 : i < 10) (g2 : j < 10) : (A (30 + i) = A (30 + j)) = (i = j) := propext ⟨fun e => by have := h.2.2.2.1 _ _ (by unfold dmA; omega) (by unfold dmA; omega) e; omega, fun e => by rw [e]⟩
theorem ShV.e40 {m : Mm} {A : Nat → Nat} {n : Nat} (h : ShV m A n) {i j : Nat} (h2 : i < 10) (g2 : j < 10) : (A (40 + i) = A (40 + j)) = (i = j) := propext ⟨fun e => by have := h.2.2.2.1 _ _ (by unfold dmA; omega) (by unfold dmA; omega) e; omega, fun e => by rw [e]⟩
theorem ShV.e100 {m : Mm} {A : Nat → Nat} {n : Nat} (h : ShV m A n) {i j : Nat} (h2 : i < n) (g2 : j < n) : (A (100 + i) = A (100 + j)) = (i = j) := propext ⟨fun e => by have := h.2.2.2.1 _ _ (by unfold dmA; omega) (by unfold dmA; omega) e; omega, fun e => by rw [e]⟩
theorem ShV.e130 {m : Mm} {A : Nat → Nat} {n : Nat} (h : ShV m A n) {i j : Nat} (h2 : i < n) (g2 : j < n) : (A (130 + i) = A (130 + j)) = (i = j) := propext ⟨fun e => by have := h.2.2.2.1 _ _ (by unfold dmA; omega) (by unfold dmA; omega) e; omega, fun e => by rw [e]⟩
theorem ShV.e160 {m : Mm} {A : Nat → Nat} {n : Nat} (h : ShV m A n) {i j : Nat} (h2 : i < n) (g2 : j < n) : (A (160 + i) = A (160 + j)) = (i = j) := propext ⟨fun e => by have := h.2.2.2.1 _ _ (by unfold dmA; omega) (by unfold dmA; omega) e; omega, fun e => by rw [e]⟩
theorem ShV.n11 {m : Mm} {A : Nat → Nat} {n : Nat} (h : ShV m A n) {i : Nat} (h2 : i < 10) : (A (30 + i) = A 11) = False := eq_false (fun e => by have := h.2.2.2.1 _ _ (by unfold dmA; omega) (by unfold dmA; omega) e; omega)
theorem ShV.n11' {m : Mm} {A : Nat → Nat} {n : Nat} (h : ShV m A n) {i : Nat} (h2 : i < 10) : (A 11 = A (30 + i)) = False := eq_false (fun e => by have := h.2.2.2.1 _ _ (by unfold dmA; omega) (by unfold dmA; omega) e; omega)
theorem ShV.n20 {m : Mm} {A : Nat → Nat} {n : Nat} (h : ShV m A n) {i : Nat} (h2 : i < 10) : (A (40 + i) = A 20) = False := eq_false (fun e => by have := h.2.2.2.1 _ _ (by unfold dmA; omega) (by unfold dmA; omega) e; omega)
theorem ShV.n20' {m : Mm} {A : Nat → Nat} {n : Nat} (h : ShV m A n) {i : Nat} (h2 : i < 10) : (A 20 = A (40 + i)) = False := eq_false (fun e => by have := h.2.2.2.1 _ _ (by unfold dmA; omega) (by unfold dmA; omega) e; omega)
theorem RC.z50 {m : Mm} {A : Nat → Nat} {σ : Sg} {w : Nat → Nat} {c : Nat → Prop} (h : RC m A σ w c) {i : Nat} (i1 : 1 ≤ i) (i2 : i ≤ 7) : A (50 + i) ≠ 0 := h.2.1.2.2.2.2 _ (by unfold dmA; omega)
theorem RC.z30 {m : Mm} {A : Nat → Nat} {σ : Sg} {w : Nat → Nat} {c : Nat → Prop} (h : RC m A σ w c) {i : Nat} (i2 : i ≤ 9) : A (30 + i) ≠ 0 := h.2.1.2.2.2.2 _ (by unfold dmA; omega)
theorem RC.zh {m : Mm} {A : Nat → Nat} {σ : Sg} {w : Nat → Nat} {c : Nat → Prop} (h : RC m A σ w c) (hI : Inv σ) (i : Nat) : hsA A σ i ≠ 0 := by
  have := hI.name i
  unfold hsA
  split <;> exact h.2.1.2.2.2.2 _ (by unfold dmA; omega)
theorem RC.hc {m : Mm} {A : Nat → Nat} {σ : Sg} {w : Nat → Nat} {c : Nat → Prop} (h : RC m A σ w c) {i : Nat} (i1 : 1 ≤ i) (i2 : i ≤ 7) : HC m A σ i := h.2.2.2.2.2.2.1 i i1 (by omega)
theorem RC.cs {m : Mm} {A : Nat → Nat} {σ : Sg} {w : Nat → Nat} {c : Nat → Prop} (h : RC m A σ w c) : CS m A σ := h.2.2.2.2.2.1
theorem x_handle {m : Mm} {A : Nat → Nat} (hS : ShF m A) {n : Nat} (hV : ShV m A n) {v : Int32} {P : Nat → Mm → Prop} (hn : (v < 1 ∨ 7 < v) → P 0 m) (hy : ∀ i : Nat, 1 ≤ i → i ≤ 7 → v = nI i → P (A (50 + i)) m) : wp_FileTree_handleOrNull m (A 9) v P := by
  unfold wp_FileTree_handleOrNull wp_FileTree_handleOrNull_0 wp_FileTree_handleOrNull_11
  have T9 := hS.T9
  have T12 := hS.T12
  have L12 := hS.L12
  have R := hS.R5_2
  refine ⟨fun z => hn (Or.inl z), fun z => ⟨fun z1 => ?_, fun z1 => hn (Or.inr (le_no z1))⟩⟩
  obtain ⟨i, hi, rfl⟩ := ix_of (v := v) (n := 7) (hi := 7) rfl (fun q => z (by simp only [Int32.lt_iff_toInt_lt, Int32.toInt_zero, show (1 : Int32).toInt = 1 from rfl] at *; omega)) (fun q => by simp only [Int32.le_iff_toInt_le, Int32.lt_iff_toInt_lt] at *; omega)
  have hi1 : 1 ≤ i := by rw [ltL_1 (by omega)] at z; omega
  have e := (hV.2.1 i hi1 (by omega)).1
  simp (disch := omega) only [forall_eq, T9, T12, L12, R, true_and, c_inT, nI_clamp, e]
  exact hy i hi1 hi rfl
theorem x_opn {m : Mm} {A : Nat → Nat} {σ : Sg} {w : Nat → Nat} {c : Nat → Prop} (h : RC m A σ w c) (hI : Inv σ) {v : Int32} {P : Nat → Mm → Prop} (hn : hx σ v = none → P 0 m) (hy : ∀ i : Nat, 1 ≤ i → i ≤ 7 → fN σ 16 i ≠ 0 → v = nI i → hx σ v = some i → P (A (50 + i)) m) : wp_FileTree_openOrNull m (A 9) v P := by
  unfold wp_FileTree_openOrNull wp_FileTree_openOrNull_0 wp_FileTree_openOrNull_17
  refine ⟨h.1.T9, x_handle h.1 h.2.1 (fun q => ?_) (fun i i1 i2 e => ?_)⟩
  · exact ⟨fun _ => hn (by unfold hx; rw [if_pos q]), fun z => absurd rfl z⟩
  · subst e
    refine ⟨fun z => absurd z (h.z50 i1 i2), fun _ => ⟨(h.2.1.2.1 i i1 (by omega)).2.1, ?_⟩⟩
    obtain ⟨c1, c2, -⟩ := h.hc i1 i2
    simp only [forall_eq]
    by_cases q : fN σ 16 i = 0
    · rw [c1 q]
      refine ⟨fun _ => hn ?_, fun z => absurd rfl z⟩
      unfold hx
      rw [if_neg (by rw [ltL_1 (by omega), gtL_7 (by omega)]; omega), nI_clamp (by omega), if_pos q]
    · rw [(c2 q).1]
      exact ⟨fun z => absurd z (h.zh hI i), fun _ => hy i i1 i2 q rfl (hx_some i1 i2 q)⟩
theorem x_store {m : Mm} {A : Nat → Nat} (hS : ShF m A) {n : Nat} (hV : ShV m A n) {v : Int32} {P : Nat → Mm → Prop} (hn : (v < 0 ∨ 9 < v) → P 0 m) (hy : ∀ i : Nat, i ≤ 9 → v = nI i → P (A (30 + i)) m) : wp_FileTree_storeOrNull m (A 9) v P := by
  unfold wp_FileTree_storeOrNull wp_FileTree_storeOrNull_0 wp_FileTree_storeOrNull_10
  have T9 := hS.T9
  have T10 := hS.T10
  have L10 := hS.L10
  have R := hS.R5_0
  have e9 : (9 : Int32).toInt = 9 := rfl
  have e10 : (10 : Int32).toInt = 10 := rfl
  refine ⟨fun z => hn (Or.inl z), fun z => ⟨fun z1 => ?_, fun z1 => hn (Or.inr ?_)⟩⟩
  · obtain ⟨i, hi, rfl⟩ := ix_of (n := 9) (hi := 9) rfl z (fun q => by simp only [Int32.le_iff_toInt_le, Int32.lt_iff_toInt_lt] at *; omega)
    have e := (hV.1 i (by omega)).1
    simp (disch := omega) only [forall_eq, T9, T10, L10, R, true_and, c_inT, nI_clamp, e]
    exact hy i hi rfl
  · simp only [Int32.le_iff_toInt_le, Int32.lt_iff_toInt_lt] at *; omega
/-- a store at s with bytes at b -/
def StA (m : Mm) (s b n L : Nat) : Prop := tg m s = 9 ∧ gI m 9 1 s = nI n ∧ gR m 9 0 s = b ∧ tg m b = 26 ∧ ln m b = L ∧ n ≤ L ∧ L < 2 ^ 31
theorem x_byteAt {m : Mm} {s b n L : Nat} (h : StA m s b n L) {v : Int32} {P : Int32 → Mm → Prop} (hn : (v < 0 ∨ nI n ≤ v) → P (-1) m) (hy : ∀ i : Nat, i < n → v = nI i → P (nI (by8 (aI m 26 b i))) m) : wp_Store_byteAt m s v P := by
  unfold wp_Store_byteAt wp_Store_byteAt_0 wp_Store_byteAt_12
  obtain ⟨h1, h2, h3, h4, h5, h6, h7⟩ := h
  refine ⟨fun z => hn (Or.inl z), fun z => ⟨h1, ?_⟩⟩
  simp only [forall_eq, h1, h2, h3, h4, h5, true_and]
  refine ⟨fun z1 => ?_, fun z1 => hn (Or.inr (lt_no z1))⟩
  rcases pk_ix v (n := n) (by omega) with q | q | ⟨i, e1, e2⟩
  · exact absurd q z
  · exact absurd q (by simp only [Int32.le_iff_toInt_le, Int32.lt_iff_toInt_lt] at *; omega)
  · subst e2
    rw [nI_clamp (by omega), by8_eq]
    exact ⟨c_in (by omega) (by omega), hy i e1 rfl⟩
theorem x_isFull {m : Mm} {s b n L : Nat} (h : StA m s b n L) {P : Int32 → Mm → Prop} (k0 : n < L → P 0 m) (k1 : ¬ n < L → P 1 m) : wp_Store_isFull m s P := by
  unfold wp_Store_isFull wp_Store_isFull_0
  obtain ⟨h1, h2, h3, h4, h5, h6, h7⟩ := h
  simp only [forall_eq, h1, h2, h3, h4, h5, true_and]
  rw [c_lt (by omega) h7]
  exact ⟨k0, k1⟩
theorem x_append {m : Mm} {s b n L : Nat} (h : StA m s b n L) (hl : n < L) {v : Int32} {P : Mm → Prop} (k : P (sI (wI m 26 b n v.toInt8.toInt32.toInt8.toInt32) 9 1 s (nI (n + 1)))) : wp_Store_append m s v P := by
  unfold wp_Store_append wp_Store_append_0
  refine ⟨h.1, x_isFull h (fun _ => ?_) (fun q => absurd hl q)⟩
  obtain ⟨h1, h2, h3, h4, h5, h6, h7⟩ := h
  refine ⟨fun _ => ?_, fun z => absurd rfl z⟩
  simp (disch := omega) only [forall_eq, h1, h2, h3, h4, h5, true_and, tg_wI, gI_wI, c_inT, nI_clamp, nI_add, nI_1]
  exact k
theorem f_half : ∀ n, n < 256 → ((nI n >>> ((4 : Int32) &&& 31)) ||| ((nI n &&& 15) <<< ((4 : Int32) &&& 31))) = nI (n % 16 * 16 + n / 16) := by decide +kernel
theorem f_one : ∀ n, n < 256 → (nI n + 1) &&& 255 = nI ((n + 1) % 256) := by decide +kernel
theorem f_less : ∀ n, n < 256 → (nI n + (-1)) &&& 255 = nI ((n + 255) % 256) := by decide +kernel
theorem x_fw {m : Mm} {k n : Nat} (k1 : 1 ≤ k) (k3 : k ≤ 3) (hn : n < 256) {P : Int32 → Mm → Prop} (h : P (nI (fwN k n)) m) : wp_Handle_throughFilter m (nI k) (nI n) 1 P := by
  unfold wp_Handle_throughFilter wp_Handle_throughFilter_0
  simp only [forall_eq]
  rw [eL_1 (by omega), eL_2 (by omega), eL_3 (by omega), e_turn n hn, f_half n hn, f_one n hn]
  unfold fwN at h
  refine ⟨fun z => by rw [if_pos z] at h; exact h, fun z => ⟨fun z1 => by rw [if_neg z, if_pos z1] at h; exact h, fun z1 => ⟨fun z2 => by rw [if_neg z, if_neg z1] at h; exact h, fun z2 => absurd (by omega) z2⟩⟩⟩
theorem x_fr {m : Mm} {k n : Nat} (k1 : 1 ≤ k) (k3 : k ≤ 3) (hn : n < 256) {P : Int32 → Mm → Prop} (h : P (nI (frN k n)) m) : wp_Handle_throughFilter m (nI k) (nI n) (-1) P := by
  unfold wp_Handle_throughFilter wp_Handle_throughFilter_0
  simp only [forall_eq]
  rw [eL_1 (by omega), eL_2 (by omega), eL_3 (by omega), e_turn n hn, f_half n hn, f_less n hn]
  unfold frN at h
  refine ⟨fun z => by rw [if_pos z] at h; exact h, fun z => ⟨fun z1 => by rw [if_neg z, if_pos z1] at h; exact h, fun z1 => ⟨fun z2 => by rw [if_neg z, if_neg z1] at h; exact h, fun z2 => absurd (by omega) z2⟩⟩⟩
/-- a handle's filters -/
def FlA (m : Mm) (x y : Nat) (σ : Sg) (i : Nat) : Prop := tg m x = 10 ∧ gI m 10 1 x = nI (fN σ 20 i) ∧ gR m 10 0 x = y ∧ tg m y = 27 ∧ ln m y = 3 ∧ ∀ j, j < 3 → aI m 27 y j = nI (fN σ 21 (3 * i + j))
theorem x_wr_loop {m : Mm} {x y i : Nat} {σ : Sg} (hF : FlA m x y σ i) (hI : Inv σ) {P : Int32 → Mm → Prop} : ∀ (c v : Nat), c ≤ fN σ 20 i → v < 256 → P (nI (wfl σ i c v)) m → ∃ n, wp_Handle_asWritten_13 P n m x (nI v) (nI c - 1)
  | 0, v, _, _, k => ⟨1, by
    unfold wp_Handle_asWritten_13
    exact ⟨fun _ => k, fun z => absurd (by decide) z⟩⟩
  | c + 1, v, hc, hv, k => by
    have hf := hI.flt i
    have k1 := hI.knd1 i c (by omega)
    have k3 := hI.knd (3 * i + c)
    obtain ⟨n, hn⟩ := x_wr_loop hF hI c (fwN (fN σ 21 (3 * i + c)) v) (by omega) (fwN_lt hv) k
    refine ⟨n + 1, ?_⟩
    obtain ⟨h1, h2, h3, h4, h5, h6⟩ := hF
    unfold wp_Handle_asWritten_13
    have e : nI (c + 1) - 1 = nI c := by rw [c_sub1 (by omega)]; rfl
    rw [e, ltL_0 (by omega)]
    refine ⟨fun z => absurd z (by omega), fun _ => ?_⟩
    simp (disch := omega) only [forall_eq, h1, h3, h4, h5, true_and, c_inT, nI_clamp, h6]
    refine x_fw k1 k3 hv ?_
    rw [show nI c + (-1) = nI c - 1 from (Int32.sub_eq_add_neg _ _).symm]
    exact hn
theorem x_asWritten {m : Mm} {x y i : Nat} {σ : Sg} (hF : FlA m x y σ i) (hI : Inv σ) {v : Int32} {P : Int32 → Mm → Prop} (k : P (nI (wfl σ i (fN σ 20 i) (by8 v))) m) : wp_Handle_asWritten m x v P := by
  unfold wp_Handle_asWritten wp_Handle_asWritten_0
  intro u eu
  subst eu
  rw [by8_eq]
  simp only [forall_eq, hF.1, hF.2.1, true_and]
  exact x_wr_loop hF hI _ _ (Nat.le_refl _) (by8_lt v) k
theorem x_rd_loop {m : Mm} {x y i : Nat} {σ : Sg} (hF : FlA m x y σ i) (hI : Inv σ) {P : Int32 → Mm → Prop} : ∀ (c s v : Nat), c + s = fN σ 20 i → v < 256 → P (nI (tfl σ i c s v)) m → ∃ n, wp_Handle_nextByte_30 P n m x (nI v) (nI s)
  | 0, s, v, hc, _, k => ⟨1, by
    have hf := hI.flt i
    unfold wp_Handle_nextByte_30
    obtain ⟨h1, h2, h3, h4, h5, h6⟩ := hF
    simp only [forall_eq, h1, h2, true_and]
    rw [c_le (by omega) (by omega)]
    exact ⟨fun _ => k, fun z => absurd (by omega) z⟩⟩
  | c + 1, s, v, hc, hv, k => by
    have hf := hI.flt i
    have k1 := hI.knd1 i s (by omega)
    have k3 := hI.knd (3 * i + s)
    obtain ⟨n, hn⟩ := x_rd_loop hF hI c (s + 1) (frN (fN σ 21 (3 * i + s)) v) (by omega) (frN_lt hv) k
    refine ⟨n + 1, ?_⟩
    obtain ⟨h1, h2, h3, h4, h5, h6⟩ := hF
    unfold wp_Handle_nextByte_30
    simp (disch := omega) only [forall_eq, h1, h2, h3, h4, h5, true_and, c_inT, nI_clamp, h6]
    rw [c_le (by omega) (by omega)]
    refine ⟨fun z => absurd z (by omega), fun _ => ?_⟩
    refine x_fr k1 k3 hv ?_
    simp only [nI_1, nI_add]
    exact hn
def dtM (m : Mm) (x : Nat) : Mm := sI (sI (sI (sI (sI (sR m 10 4 x 0) 10 5 x 0) 10 6 x 0) 10 3 x 0) 10 1 x 0) 10 2 x 0
def atM (m : Mm) (x s : Nat) (md o : Int32) : Mm := sI (sI (sR (dtM m x) 10 4 x s) 10 5 x md) 10 6 x o
theorem x_detach {m : Mm} {x : Nat} (h : tg m x = 10) {P : Mm → Prop} (k : P (dtM m x)) : wp_Handle_detach m x P := by
  unfold wp_Handle_detach wp_Handle_detach_0
  simp only [forall_eq, tg_sI, tg_sR, h, true_and]
  exact k
theorem x_attach {m : Mm} {x s : Nat} {md o : Int32} (h : tg m x = 10) (ho : o = 0 ∨ o = 1) {P : Mm → Prop} (k : P (atM m x s md o)) : wp_Handle_attach m x s md o P := by
  unfold wp_Handle_attach wp_Handle_attach_0
  refine ⟨h, x_detach h ?_⟩
  have h' : tg (dtM m x) x = 10 := h
  simp only [forall_eq, tg_sI, tg_sR, h', ho, true_and]
  exact k
theorem RC.flA {m : Mm} {A : Nat → Nat} {σ : Sg} {w : Nat → Nat} {c : Nat → Prop} (h : RC m A σ w c) {i : Nat} (i1 : 1 ≤ i) (i2 : i ≤ 7) (io : fN σ 16 i ≠ 0) : FlA m (A (50 + i)) (A (60 + i)) σ i := by
  obtain ⟨-, a2, a3, a4, a5⟩ := h.2.1.2.1 i i1 (by omega)
  obtain ⟨-, c2, c3⟩ := h.hc i1 i2
  exact ⟨a2, (c2 io).2.1, a3, a4, a5, c3⟩
theorem RC.stO {m : Mm} {A : Nat → Nat} {σ : Sg} {w : Nat → Nat} {c : Nat → Prop} (h : RC m A σ w c) (hI : Inv σ) : StA m (A 11) (A 20) (fF σ 15) 400 := ⟨h.1.T11, h.cs.2.1, h.1.R9_0, h.1.T20, h.1.L20, hI.out, by decide⟩
theorem RC.stN {m : Mm} {A : Nat → Nat} {σ : Sg} {w : Nat → Nat} {c : Nat → Prop} (h : RC m A σ w c) (hI : Inv σ) {n : Nat} (hn : n ≤ 9) : StA m (A (30 + n)) (A (40 + n)) (fN σ 12 n) 100 := by
  obtain ⟨-, a2, a3, a4, a5⟩ := h.2.1.1 n (by omega)
  exact ⟨a2, (h.cs.1 n (by omega)).1, a3, a4, a5, hI.len n, by decide⟩
