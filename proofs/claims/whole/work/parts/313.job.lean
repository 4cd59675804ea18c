/-! NEW CELLS: what was there stays as it was -/
def Ex (m m' : Mm) : Prop := ∀ y, tg m y ≠ 0 → tg m' y = tg m y ∧ ln m' y = ln m y ∧ (∀ k f, gI m' k f y = gI m k f y) ∧ (∀ k f, gR m' k f y = gR m k f y) ∧ (∀ k i, aI m' k y i = aI m k y i) ∧ (∀ k i, aR m' k y i = aR m k y i)
theorem Ex.rf (m : Mm) : Ex m m := fun _ _ => ⟨rfl, rfl, fun _ _ => rfl, fun _ _ => rfl, fun _ _ => rfl, fun _ _ => rfl⟩
theorem Ex.tr {m m' m'' : Mm} (h : Ex m m') (g : Ex m' m'') : Ex m m'' := fun y hy => by
  obtain ⟨a1, a2, a3, a4, a5, a6⟩ := h y hy
  obtain ⟨b1, b2, b3, b4, b5, b6⟩ := g y (by rw [a1]; exact hy)
  exact ⟨b1.trans a1, b2.trans a2, fun k f => (b3 k f).trans (a3 k f), fun k f => (b4 k f).trans (a4 k f), fun k f => (b5 k f).trans (a5 k f), fun k f => (b6 k f).trans (a6 k f)⟩
theorem Ex.ne {m m' : Mm} (h : Ex m m') {q y : Nat} (hq : tg m' q = 0) (hy : tg m y ≠ 0) : ¬ y = q := fun e => by
  have := (h y hy).1
  rw [e, hq] at this
  exact hy (by rw [e]; exact this.symm)
theorem Ex.z {m m' : Mm} (h : Ex m m') {q : Nat} (hq : tg m' q = 0) : tg m q = 0 := by
  by_cases e : tg m q = 0
  · exact e
  · exact absurd rfl (h.ne hq e)
theorem Ex.nO {m m' : Mm} (h : Ex m m') {q : Nat} (hq : tg m' q = 0) (k : Nat) : Ex m (nO m' k q) := fun y hy => by
  have e := h.ne hq hy
  obtain ⟨a1, a2, a3, a4, a5, a6⟩ := h y hy
  refine ⟨?_, a2, fun k f => ?_, fun k f => ?_, a5, a6⟩
  · rw [tg_nO, if_neg e]; exact a1
  · rw [gI_nO, if_neg e]; exact a3 k f
  · rw [gR_nO, if_neg e]; exact a4 k f
theorem Ex.nA {m m' : Mm} (h : Ex m m') {q : Nat} (hq : tg m' q = 0) (k n : Nat) : Ex m (nA m' k q n) := fun y hy => by
  have e := h.ne hq hy
  obtain ⟨a1, a2, a3, a4, a5, a6⟩ := h y hy
  refine ⟨?_, ?_, a3, a4, fun k f => ?_, fun k f => ?_⟩
  · rw [tg_nA, if_neg e]; exact a1
  · rw [ln_nA, if_neg e]; exact a2
  · rw [aI_nA, if_neg e]; exact a5 k f
  · rw [aR_nA, if_neg e]; exact a6 k f
theorem Ex.sI {m m' : Mm} (h : Ex m m') {x : Nat} (hx : tg m x = 0) (k i : Nat) (v : Int32) : Ex m (sI m' k i x v) := fun y hy => by
  have e : ¬ y = x := fun e => hy (by rw [e]; exact hx)
  obtain ⟨a1, a2, a3, a4, a5, a6⟩ := h y hy
  refine ⟨a1, a2, fun k f => ?_, a4, a5, a6⟩
  rw [gI_sI, if_neg (fun q => e q.2.2)]; exact a3 k f
theorem Ex.sR {m m' : Mm} (h : Ex m m') {x : Nat} (hx : tg m x = 0) (k i v : Nat) : Ex m (sR m' k i x v) := fun y hy => by
  have e : ¬ y = x := fun e => hy (by rw [e]; exact hx)
  obtain ⟨a1, a2, a3, a4, a5, a6⟩ := h y hy
  refine ⟨a1, a2, a3, fun k f => ?_, a5, a6⟩
  rw [gR_sR, if_neg (fun q => e q.2.2)]; exact a4 k f
theorem Ex.wI {m m' : Mm} (h : Ex m m') {x : Nat} (hx : tg m x = 0) (k i : Nat) (v : Int32) : Ex m (wI m' k x i v) := fun y hy => by
  have e : ¬ y = x := fun e => hy (by rw [e]; exact hx)
  obtain ⟨a1, a2, a3, a4, a5, a6⟩ := h y hy
  refine ⟨a1, a2, a3, a4, fun k f => ?_, a6⟩
  rw [aI_wI, if_neg (fun q => e q.2.1)]; exact a5 k f
theorem Ex.wR {m m' : Mm} (h : Ex m m') {x : Nat} (hx : tg m x = 0) (k i v : Nat) : Ex m (wR m' k x i v) := fun y hy => by
  have e : ¬ y = x := fun e => hy (by rw [e]; exact hx)
  obtain ⟨a1, a2, a3, a4, a5, a6⟩ := h y hy
  refine ⟨a1, a2, a3, a4, a5, fun k f => ?_⟩
  rw [aR_wR, if_neg (fun q => e q.2.1)]; exact a6 k f
theorem RM.ex {m m' : Mm} {a : Nat} {B : Nat → Nat} {σ : Sg} (h : RM m a B σ) (e : Ex m m') : RM m' a B σ := by
  obtain ⟨h1, h2, h3, h4, h5, h6⟩ := h
  obtain ⟨a1, a2, a3, a4, a5, a6⟩ := e a (by rw [h1]; decide)
  have eB : ∀ f, f ∈ aN ++ aD → tg m (B f) ≠ 0 := fun f hf => by rw [(h2 f hf).2.1]; have := kd_ge f hf; omega
  refine ⟨a1.trans h1, fun f hf => ⟨(a4 _ _).trans (h2 f hf).1, (e _ (eB f hf)).1.trans (h2 f hf).2.1, (e _ (eB f hf)).2.1.trans (h2 f hf).2.2⟩, fun f hf => (a3 _ _).trans (h3 f hf), (a3 _ _).trans h4, fun f hf j hj => ((e _ (eB f (List.mem_append_left _ hf))).2.2.2.2.1 _ _).trans (h5 f hf j hj), fun f hf j hj => ((e _ (eB f (List.mem_append_right _ hf))).2.2.2.2.1 _ _).trans (h6 f hf j hj)⟩
theorem RC.tgn {m : Mm} {A : Nat → Nat} {σ : Sg} {w : Nat → Nat} {c : Nat → Prop} (h : RC m A σ w c) {x : Nat} (hx : dmA (fF σ 2) x) : tg m (A x) ≠ 0 := by
  rcases hx with q | q | q | q | q | q | q
  · rcases (show x = 0 ∨ x = 1 ∨ x = 2 ∨ x = 3 ∨ x = 4 ∨ x = 5 ∨ x = 6 ∨ x = 7 ∨ x = 8 ∨ x = 9 ∨ x = 10 ∨ x = 11 ∨ x = 12 ∨ x = 13 ∨ x = 14 ∨ x = 15 ∨ x = 16 ∨ x = 17 ∨ x = 18 ∨ x = 19 ∨ x = 20 by omega) with rfl | rfl | rfl | rfl | rfl | rfl | rfl | rfl | rfl | rfl | rfl | rfl | rfl | rfl | rfl | rfl | rfl | rfl | rfl | rfl | rfl
    · rw [h.1.T0]; decide
    · rw [h.1.T1]; decide
    · rw [h.1.T2]; decide
    · rw [h.1.T3]; decide
    · rw [h.1.T4]; decide
    · rw [h.1.T5]; decide
    · rw [h.1.T6]; decide
    · rw [h.1.T7]; decide
    · rw [h.1.T8]; decide
    · rw [h.1.T9]; decide
    · rw [h.1.T10]; decide
    · rw [h.1.T11]; decide
    · rw [h.1.T12]; decide
    · rw [h.1.T13]; decide
    · rw [h.1.T14]; decide
    · rw [h.1.T15]; decide
    · rw [h.1.T16]; decide
    · rw [h.1.T17]; decide
    · rw [h.1.T18]; decide
    · rw [h.1.T19]; decide
    · rw [h.1.T20]; decide
  · by_cases e : x < 40
    · obtain ⟨i, rfl⟩ : ∃ i, x = 30 + i := ⟨x - 30, by omega⟩
      rw [(h.2.1.1 i (by omega)).2.1]; decide
    · obtain ⟨i, rfl⟩ : ∃ i, x = 40 + i := ⟨x - 40, by omega⟩
      rw [(h.2.1.1 i (by omega)).2.2.2.1]; decide
  · obtain ⟨i, rfl⟩ : ∃ i, x = 50 + i := ⟨x - 50, by omega⟩
    rw [(h.2.1.2.1 i (by omega) (by omega)).2.1]; decide
  · obtain ⟨i, rfl⟩ : ∃ i, x = 60 + i := ⟨x - 60, by omega⟩
    rw [(h.2.1.2.1 i (by omega) (by omega)).2.2.2.1]; decide
  · obtain ⟨i, rfl⟩ : ∃ i, x = 100 + i := ⟨x - 100, by omega⟩
    rw [(h.2.1.2.2.1 i (by omega)).2.1]; decide
  · obtain ⟨i, rfl⟩ : ∃ i, x = 130 + i := ⟨x - 130, by omega⟩
    rw [(h.2.1.2.2.1 i (by omega)).2.2.2.2.1]; decide
  · obtain ⟨i, rfl⟩ : ∃ i, x = 160 + i := ⟨x - 160, by omega⟩
    rw [(h.2.1.2.2.1 i (by omega)).2.2.2.2.2.2.1]; decide
theorem RC.mv {m m' : Mm} {A A' : Nat → Nat} {σ : Sg} {w : Nat → Nat} {c : Nat → Prop} (h : RC m A σ w c) (hI : Inv σ) (ex : Ex m m') (eA : ∀ x, dmA (fF σ 2) x → A' x = A x) : RC m' A' σ w c := by
  have g : ∀ x, dmA (fF σ 2) x → _ := fun x hx => ex (A x) (h.tgn hx)
  obtain ⟨h1, h2, h3, h4, h5, h6, h7, h8, h9, h10⟩ := h
  refine ⟨⟨by rw [eA 0 (by unfold dmA; omega), (g 0 (by unfold dmA; omega)).1]; exact h1.T0, by rw [eA 1 (by unfold dmA; omega), (g 1 (by unfold dmA; omega)).1]; exact h1.T1, by rw [eA 2 (by unfold dmA; omega), (g 2 (by unfold dmA; omega)).1]; exact h1.T2, by rw [eA 3 (by unfold dmA; omega), (g 3 (by unfold dmA; omega)).1]; exact h1.T3, by rw [eA 4 (by unfold dmA; omega), (g 4 (by unfold dmA; omega)).1]; exact h1.T4, by rw [eA 5 (by unfold dmA; omega), (g 5 (by unfold dmA; omega)).1]; exact h1.T5, by rw [eA 6 (by unfold dmA; omega), (g 6 (by unfold dmA; omega)).1]; exact h1.T6, by rw [eA 7 (by unfold dmA; omega), (g 7 (by unfold dmA; omega)).1]; exact h1.T7, by rw [eA 8 (by unfold dmA; omega), (g 8 (by unfold dmA; omega)).1]; exact h1.T8, by rw [eA 9 (by unfold dmA; omega), (g 9 (by unfold dmA; omega)).1]; exact h1.T9, by rw [eA 10 (by unfold dmA; omega), (g 10 (by unfold dmA; omega)).1]; exact h1.T10, by rw [eA 11 (by unfold dmA; omega), (g 11 (by unfold dmA; omega)).1]; exact h1.T11, by rw [eA 12 (by unfold dmA; omega), (g 12 (by unfold dmA; omega)).1]; exact h1.T12, by rw [eA 13 (by unfold dmA; omega), (g 13 (by unfold dmA; omega)).1]; exact h1.T13, by rw [eA 14 (by unfold dmA; omega), (g 14 (by unfold dmA; omega)).1]; exact h1.T14, by rw [eA 15 (by unfold dmA; omega), (g 15 (by unfold dmA; omega)).1]; exact h1.T15, by rw [eA 16 (by unfold dmA; omega), (g 16 (by unfold dmA; omega)).1]; exact h1.T16, by rw [eA 17 (by unfold dmA; omega), (g 17 (by unfold dmA; omega)).1]; exact h1.T17, by rw [eA 18 (by unfold dmA; omega), (g 18 (by unfold dmA; omega)).1]; exact h1.T18, by rw [eA 19 (by unfold dmA; omega), (g 19 (by unfold dmA; omega)).1]; exact h1.T19, by rw [eA 20 (by unfold dmA; omega), (g 20 (by unfold dmA; omega)).1]; exact h1.T20, by rw [eA 1 (by unfold dmA; omega), (g 1 (by unfold dmA; omega)).2.1]; exact h1.L1, by rw [eA 4 (by unfold dmA; omega), (g 4 (by unfold dmA; omega)).2.1]; exact h1.L4, by rw [eA 5 (by unfold dmA; omega), (g 5 (by unfold dmA; omega)).2.1]; exact h1.L5, by rw [eA 7 (by unfold dmA; omega), (g 7 (by unfold dmA; omega)).2.1]; exact h1.L7, by rw [eA 8 (by unfold dmA; omega), (g 8 (by unfold dmA; omega)).2.1]; exact h1.L8, by rw [eA 10 (by unfold dmA; omega), (g 10 (by unfold dmA; omega)).2.1]; exact h1.L10, by rw [eA 12 (by unfold dmA; omega), (g 12 (by unfold dmA; omega)).2.1]; exact h1.L12, by rw [eA 14 (by unfold dmA; omega), (g 14 (by unfold dmA; omega)).2.1]; exact h1.L14, by rw [eA 16 (by unfold dmA; omega), (g 16 (by unfold dmA; omega)).2.1]; exact h1.L16, by rw [eA 17 (by unfold dmA; omega), (g 17 (by unfold dmA; omega)).2.1]; exact h1.L17, by rw [eA 18 (by unfold dmA; omega), (g 18 (by unfold dmA; omega)).2.1]; exact h1.L18, by rw [eA 19 (by unfold dmA; omega), (g 19 (by unfold dmA; omega)).2.1]; exact h1.L19, by rw [eA 20 (by unfold dmA; omega), (g 20 (by unfold dmA; omega)).2.1]; exact h1.L20, by rw [eA 0 (by unfold dmA; omega), eA 1 (by unfold dmA; omega), (g 0 (by unfold dmA; omega)).2.2.2.1]; exact h1.R1_0, by rw [eA 0 (by unfold dmA; omega), eA 2 (by unfold dmA; omega), (g 0 (by unfold dmA; omega)).2.2.2.1]; exact h1.R1_1, by rw [eA 2 (by unfold dmA; omega), eA 3 (by unfold dmA; omega), (g 2 (by unfold dmA; omega)).2.2.2.1]; exact h1.R2_0, by rw [eA 2 (by unfold dmA; omega), eA 6 (by unfold dmA; omega), (g 2 (by unfold dmA; omega)).2.2.2.1]; exact h1.R2_1, by rw [eA 2 (by unfold dmA; omega), eA 9 (by unfold dmA; omega), (g 2 (by unfold dmA; omega)).2.2.2.1]; exact h1.R2_2, by rw [eA 2 (by unfold dmA; omega), eA 13 (by unfold dmA; omega), (g 2 (by unfold dmA; omega)).2.2.2.1]; exact h1.R2_4, by rw [eA 2 (by unfold dmA; omega), eA 15 (by unfold dmA; omega), (g 2 (by unfold dmA; omega)).2.2.2.1]; exact h1.R2_5, by rw [eA 2 (by unfold dmA; omega), eA 19 (by unfold dmA; omega), (g 2 (by unfold dmA; omega)).2.2.2.1]; exact h1.R2_6, by rw [eA 3 (by unfold dmA; omega), eA 4 (by unfold dmA; omega), (g 3 (by unfold dmA; omega)).2.2.2.1]; exact h1.R3_0, by rw [eA 3 (by unfold dmA; omega), eA 5 (by unfold dmA; omega), (g 3 (by unfold dmA; omega)).2.2.2.1]; exact h1.R3_1, by rw [eA 6 (by unfold dmA; omega), eA 7 (by unfold dmA; omega), (g 6 (by unfold dmA; omega)).2.2.2.1]; exact h1.R4_0, by rw [eA 6 (by unfold dmA; omega), eA 8 (by unfold dmA; omega), (g 6 (by unfold dmA; omega)).2.2.2.1]; exact h1.R4_1, by rw [eA 9 (by unfold dmA; omega), eA 10 (by unfold dmA; omega), (g 9 (by unfold dmA; omega)).2.2.2.1]; exact h1.R5_0, by rw [eA 9 (by unfold dmA; omega), eA 11 (by unfold dmA; omega), (g 9 (by unfold dmA; omega)).2.2.2.1]; exact h1.R5_1, by rw [eA 9 (by unfold dmA; omega), eA 12 (by unfold dmA; omega), (g 9 (by unfold dmA; omega)).2.2.2.1]; exact h1.R5_2, by rw [eA 13 (by unfold dmA; omega), eA 14 (by unfold dmA; omega), (g 13 (by unfold dmA; omega)).2.2.2.1]; exact h1.R6_0, by rw [eA 15 (by unfold dmA; omega), eA 16 (by unfold dmA; omega), (g 15 (by unfold dmA; omega)).2.2.2.1]; exact h1.R7_0, by rw [eA 15 (by unfold dmA; omega), eA 17 (by unfold dmA; omega), (g 15 (by unfold dmA; omega)).2.2.2.1]; exact h1.R7_1, by rw [eA 15 (by unfold dmA; omega), eA 18 (by unfold dmA; omega), (g 15 (by unfold dmA; omega)).2.2.2.1]; exact h1.R7_2, by rw [eA 11 (by unfold dmA; omega), eA 20 (by unfold dmA; omega), (g 11 (by unfold dmA; omega)).2.2.2.1]; exact h1.R9_0⟩, ⟨fun i hi => ?_, fun i hi hi2 => ?_, fun i hi => ?_, fun x y hx hy e => ?_, fun x hx => ?_⟩, ⟨?_, ?_, ?_⟩, fun i hi => ?_, fun i hi => ?_, ⟨fun i hi => ⟨?_, ?_, fun t ht => ?_⟩, ?_, fun i hi => ?_⟩, fun i hi hi2 => ?_, fun i hi hi2 => ?_, fun i hi => ⟨?_, fun t ht => ?_⟩, fun i hi hc => ?_⟩
  · rw [eA (10) (by unfold dmA; omega), eA (30 + i) (by unfold dmA; omega), eA (40 + i) (by unfold dmA; omega), (g (10) (by unfold dmA; omega)).2.2.2.2.2, (g (30 + i) (by unfold dmA; omega)).1, (g (30 + i) (by unfold dmA; omega)).2.2.2.1, (g (40 + i) (by unfold dmA; omega)).1, (g (40 + i) (by unfold dmA; omega)).2.1]; exact h2.1 i hi
  · rw [eA (12) (by unfold dmA; omega), eA (50 + i) (by unfold dmA; omega), eA (60 + i) (by unfold dmA; omega), (g (12) (by unfold dmA; omega)).2.2.2.2.2, (g (50 + i) (by unfold dmA; omega)).1, (g (50 + i) (by unfold dmA; omega)).2.2.2.1, (g (60 + i) (by unfold dmA; omega)).1, (g (60 + i) (by unfold dmA; omega)).2.1]; exact h2.2.1 i hi hi2
  · rw [eA (1) (by unfold dmA; omega), eA (100 + i) (by unfold dmA; omega), eA (130 + i) (by unfold dmA; omega), eA (160 + i) (by unfold dmA; omega), (g (1) (by unfold dmA; omega)).2.2.2.2.2, (g (100 + i) (by unfold dmA; omega)).1, (g (100 + i) (by unfold dmA; omega)).2.2.2.1, (g (100 + i) (by unfold dmA; omega)).2.2.2.1, (g (130 + i) (by unfold dmA; omega)).1, (g (130 + i) (by unfold dmA; omega)).2.1, (g (160 + i) (by unfold dmA; omega)).1, (g (160 + i) (by unfold dmA; omega)).2.1]; exact h2.2.2.1 i hi
  · rw [eA x hx, eA y hy] at e; exact h2.2.2.2.1 x y hx hy e
  · rw [eA x hx]; exact h2.2.2.2.2 x hx
  · rw [eA (0) (by unfold dmA; omega), (g (0) (by unfold dmA; omega)).2.2.1]; exact h3.1
  · rw [eA (0) (by unfold dmA; omega), (g (0) (by unfold dmA; omega)).2.2.1]; exact h3.2.1
  · rw [eA (2) (by unfold dmA; omega), (g (2) (by unfold dmA; omega)).2.2.1]; exact h3.2.2
  · rw [eA (4) (by unfold dmA; omega), (g (4) (by unfold dmA; omega)).2.2.2.2.1]; exact h4 i hi
  · rw [eA (7) (by unfold dmA; omega), (g (7) (by unfold dmA; omega)).2.2.2.2.1]; exact h5 i hi
  · rw [eA (30 + i) (by unfold dmA; omega), (g (30 + i) (by unfold dmA; omega)).2.2.1]; exact (h6.1 i hi).1
  · rw [eA (30 + i) (by unfold dmA; omega), (g (30 + i) (by unfold dmA; omega)).2.2.1]; exact (h6.1 i hi).2.1
  · rw [eA (40 + i) (by unfold dmA; omega), (g (40 + i) (by unfold dmA; omega)).2.2.2.2.1]; exact (h6.1 i hi).2.2 t ht
  · rw [eA (11) (by unfold dmA; omega), (g (11) (by unfold dmA; omega)).2.2.1]; exact h6.2.1
  · rw [eA (20) (by unfold dmA; omega), (g (20) (by unfold dmA; omega)).2.2.2.2.1]; exact h6.2.2 i hi
  · have q := h7 i hi hi2
    have hn := hI.name i
    unfold HC hsA at *
    rw [eA (50 + i) (by unfold dmA; omega), eA (60 + i) (by unfold dmA; omega), eA (11) (by unfold dmA; omega), eA (30 + fN σ 17 i) (by unfold dmA; omega), (g (50 + i) (by unfold dmA; omega)).2.2.2.1, (g (50 + i) (by unfold dmA; omega)).2.2.1, (g (50 + i) (by unfold dmA; omega)).2.2.1, (g (50 + i) (by unfold dmA; omega)).2.2.1]
    refine ⟨q.1, q.2.1, fun t ht => ?_⟩
    rw [(g (60 + i) (by unfold dmA; omega)).2.2.2.2.1]; exact q.2.2 t ht
  · rw [eA (50 + i) (by unfold dmA; omega), (g (50 + i) (by unfold dmA; omega)).2.2.1]; exact h8 i hi hi2
  · rw [eA (100 + i) (by unfold dmA; omega), (g (100 + i) (by unfold dmA; omega)).2.2.1]; exact (h9 i hi).1
  · rw [eA (130 + i) (by unfold dmA; omega), (g (130 + i) (by unfold dmA; omega)).2.2.2.2.1]; exact (h9 i hi).2 t ht
  · have q := h10 i hi hc
    unfold JT at *
    rw [eA (100 + i) (by unfold dmA; omega), eA (160 + i) (by unfold dmA; omega), (g (100 + i) (by unfold dmA; omega)).2.2.1, (g (100 + i) (by unfold dmA; omega)).2.2.1, (g (100 + i) (by unfold dmA; omega)).2.2.1, (g (100 + i) (by unfold dmA; omega)).2.2.1, (g (100 + i) (by unfold dmA; omega)).2.2.1, (g (100 + i) (by unfold dmA; omega)).2.2.1]
    refine ⟨q.1, q.2.1, q.2.2.1, q.2.2.2.1, q.2.2.2.2.1, q.2.2.2.2.2.1, fun t ht => ?_⟩
    rw [(g (160 + i) (by unfold dmA; omega)).2.2.2.2.1]; exact q.2.2.2.2.2.2 t ht

/-- a new job, made of three new cells -/
theorem x_job {m : Mm} {A : Nat → Nat} {σ τ : Sg} {a : Nat} {B : Nat → Nat} (h : RC0 m A σ) (hI : Inv σ) (hF : FJ σ) (hu : UT σ) (hm : RM m a B τ) {P : Int32 → Mm → Prop} (k : ∀ m' A', A' 0 = A 0 → RC0 m' A' (spJob σ).2 → RM m' a B τ → P (spJob σ).1 m') : wp_ML_job m (A 0) P := by
  unfold wp_ML_job wp_ML_job_0
  have hj := hI.jobs
  have T0 := h.1.T0
  have T1 := h.1.T1
  have L1 := h.1.L1
  have R10 := h.1.R1_0
  have c1 := h.2.2.1.1
  refine ⟨T0, fun u eu => ?_⟩
  rw [c1] at eu
  subst eu
  rw [ltL_20 (by omega)]
  unfold spJob at k
  refine ⟨fun q => ⟨T0, fun u eu => ?_⟩, fun q => ?_⟩
  · rw [R10] at eu
    subst eu
    rw [if_neg (by omega)] at k
    refine ⟨T0, fun u eu => ?_⟩
    rw [c1] at eu
    subst eu
    intro q8 hq8 hz8 m1 e1
    subst e1
    unfold wp_Job_init wp_Job_init_0
    refine ⟨hz8, fun q2 hq2 hz2 m2 e2 => ?_⟩
    have n28 : ¬ q2 = q8 := fun e => by rw [e, tg_nO, if_pos rfl] at hq2; cases hq2
    have n82 : ¬ q8 = q2 := fun e => n28 e.symm
    rw [tg_nO, if_neg n28] at hq2
    subst e2
    have tq8 : tg (nA (nO m 8 q8) 24 q2 200) q8 = 8 := by simp (disch := omega) only [forall_eq, tg_sI, gI_sI, gR_sI, aI_sI, aR_sI, ln_sI, tg_sR, gI_sR, gR_sR, aI_sR, aR_sR, ln_sR, tg_wI, gI_wI, gR_wI, aI_wI, aR_wI, ln_wI, tg_wR, gI_wR, gR_wR, aI_wR, aR_wR, ln_wR, tg_wC, gI_wC, gR_wC, aI_wC, aR_wC, ln_wC, tg_nO, gI_nO, gR_nO, aI_nO, aR_nO, ln_nO, tg_nA, gI_nA, gR_nA, aI_nA, aR_nA, ln_nA, Nat.reduceEqDiff, reduceCtorEq, false_and, true_and, and_true, and_false, and_self, if_true, if_false, ↓reduceIte, forall_const, true_implies, imp_self, not_true, not_false_eq_true, implies_true, not_false, eq_self, Nat.reduceLT, Nat.reduceLeDiff, fF_uF, fN_uF, fD_uF, fM_uF, fF_uN, fN_uN, fD_uN, fM_uN, fF_uD, fN_uD, fD_uD, fM_uD, fF_uM, fN_uM, fD_uM, fM_uM, n82]
    refine ⟨tq8, fun m3 e3 => ?_⟩
    subst e3
    intro q10 hq10 hz10 m4 e4
    have hq10' : tg (nA (nO m 8 q8) 24 q2 200) q10 = 0 := hq10
    have n108 : ¬ q10 = q8 := fun e => by rw [e, tq8] at hq10'; cases hq10'
    have n810 : ¬ q8 = q10 := fun e => n108 e.symm
    have n102 : ¬ q10 = q2 := fun e => by rw [e, tg_nA, if_pos rfl] at hq10'; cases hq10'
    have n210 : ¬ q2 = q10 := fun e => n102 e.symm
    rw [tg_nA, if_neg n102, tg_nO, if_neg n108] at hq10'
    subst e4
    have exA : Ex m (nA (sR (nA (nO m 8 q8) 24 q2 200) 8 0 q8 q2) 25 q10 40) := by
      refine Ex.nA (Ex.sR (Ex.nA (Ex.nO (Ex.rf m) hq8 8) ?_ 24 200) hq8 8 0 q2) ?_ 25 40
      · rw [tg_nO, if_neg n28]; exact hq2
      · exact hq10
    have tq : tg (nA (sR (nA (nO m 8 q8) 24 q2 200) 8 0 q8 q2) 25 q10 40) q8 = 8 := by simp (disch := omega) only [forall_eq, tg_sI, gI_sI, gR_sI, aI_sI, aR_sI, ln_sI, tg_sR, gI_sR, gR_sR, aI_sR, aR_sR, ln_sR, tg_wI, gI_wI, gR_wI, aI_wI, aR_wI, ln_wI, tg_wR, gI_wR, gR_wR, aI_wR, aR_wR, ln_wR, tg_wC, gI_wC, gR_wC, aI_wC, aR_wC, ln_wC, tg_nO, gI_nO, gR_nO, aI_nO, aR_nO, ln_nO, tg_nA, gI_nA, gR_nA, aI_nA, aR_nA, ln_nA, Nat.reduceEqDiff, reduceCtorEq, false_and, true_and, and_true, and_false, and_self, if_true, if_false, ↓reduceIte, forall_const, true_implies, imp_self, not_true, not_false_eq_true, implies_true, not_false, eq_self, Nat.reduceLT, Nat.reduceLeDiff, fF_uF, fN_uF, fD_uF, fM_uF, fF_uN, fN_uN, fD_uN, fM_uN, fF_uD, fN_uD, fD_uD, fM_uD, fF_uM, fN_uM, fD_uM, fM_uM, n82, n810]
    simp only [forall_eq, tg_sR, tg_sI, tq, true_and]
    generalize hM : sI (sI (sI (sI (sI (sI (sI (sR (nA (sR (nA (nO m 8 q8) 24 q2 200) 8 0 q8 q2) 25 q10 40) 8 1 q8 q10) 8 2 q8 0) 8 3 q8 0) 8 4 q8 0) 8 5 q8 0) 8 6 q8 0) 8 7 q8 0) 8 8 q8 0 = M
    have ex : Ex m M := by
      rw [← hM]
      exact (((((((exA.sR hq8 _ _ _).sI hq8 _ _ _).sI hq8 _ _ _).sI hq8 _ _ _).sI hq8 _ _ _).sI hq8 _ _ _).sI hq8 _ _ _).sI hq8 _ _ _
    have M8 : tg M q8 = 8 ∧ gR M 8 0 q8 = q2 ∧ gR M 8 1 q8 = q10 ∧ tg M q2 = 24 ∧ ln M q2 = 200 ∧ tg M q10 = 25 ∧ ln M q10 = 40 := by
      rw [← hM]
      refine ⟨?_, ?_, ?_, ?_, ?_, ?_, ?_⟩ <;> simp (disch := omega) only [forall_eq, tg_sI, gI_sI, gR_sI, aI_sI, aR_sI, ln_sI, tg_sR, gI_sR, gR_sR, aI_sR, aR_sR, ln_sR, tg_wI, gI_wI, gR_wI, aI_wI, aR_wI, ln_wI, tg_wR, gI_wR, gR_wR, aI_wR, aR_wR, ln_wR, tg_wC, gI_wC, gR_wC, aI_wC, aR_wC, ln_wC, tg_nO, gI_nO, gR_nO, aI_nO, aR_nO, ln_nO, tg_nA, gI_nA, gR_nA, aI_nA, aR_nA, ln_nA, Nat.reduceEqDiff, reduceCtorEq, false_and, true_and, and_true, and_false, and_self, if_true, if_false, ↓reduceIte, forall_const, true_implies, imp_self, not_true, not_false_eq_true, implies_true, not_false, eq_self, Nat.reduceLT, Nat.reduceLeDiff, fF_uF, fN_uF, fD_uF, fM_uF, fF_uN, fN_uN, fD_uN, fM_uN, fF_uD, fN_uD, fD_uD, fM_uD, fF_uM, fN_uM, fD_uM, fM_uM, n82, n810, n28, n210, n102, n108]
    have Mf : gI M 8 2 q8 = 0 ∧ gI M 8 3 q8 = 0 ∧ gI M 8 4 q8 = 0 ∧ gI M 8 5 q8 = 0 ∧ gI M 8 6 q8 = 0 ∧ gI M 8 7 q8 = 0 ∧ gI M 8 8 q8 = 0 := by
      rw [← hM]
      refine ⟨?_, ?_, ?_, ?_, ?_, ?_, ?_⟩ <;> simp (disch := omega) only [forall_eq, tg_sI, gI_sI, gR_sI, aI_sI, aR_sI, ln_sI, tg_sR, gI_sR, gR_sR, aI_sR, aR_sR, ln_sR, tg_wI, gI_wI, gR_wI, aI_wI, aR_wI, ln_wI, tg_wR, gI_wR, gR_wR, aI_wR, aR_wR, ln_wR, tg_wC, gI_wC, gR_wC, aI_wC, aR_wC, ln_wC, tg_nO, gI_nO, gR_nO, aI_nO, aR_nO, ln_nO, tg_nA, gI_nA, gR_nA, aI_nA, aR_nA, ln_nA, Nat.reduceEqDiff, reduceCtorEq, false_and, true_and, and_true, and_false, and_self, if_true, if_false, ↓reduceIte, forall_const, true_implies, imp_self, not_true, not_false_eq_true, implies_true, not_false, eq_self, Nat.reduceLT, Nat.reduceLeDiff, fF_uF, fN_uF, fD_uF, fM_uF, fF_uN, fN_uN, fD_uN, fM_uN, fF_uD, fN_uD, fD_uD, fM_uD, fF_uM, fN_uM, fD_uM, fM_uM]
    clear hM
    have old : ∀ x, dmA (fF σ 2) x → ¬ A x = q8 ∧ ¬ A x = q2 ∧ ¬ A x = q10 := fun x hx => by
      have := h.tgn hx
      refine ⟨fun e => this (by rw [e]; exact hq8), fun e => this (by rw [e]; exact hq2), fun e => this (by rw [e]; exact hq10')⟩
    generalize hA' : (fun x => if x = 100 + fF σ 2 then q8 else if x = 130 + fF σ 2 then q2 else if x = 160 + fF σ 2 then q10 else A x) = A'
    have eA : ∀ x, dmA (fF σ 2) x → A' x = A x := fun x hx => by
      have : x ≠ 100 + fF σ 2 ∧ x ≠ 130 + fF σ 2 ∧ x ≠ 160 + fF σ 2 := by unfold dmA at hx; omega
      rw [← hA']
      show (if x = 100 + fF σ 2 then q8 else if x = 130 + fF σ 2 then q2 else if x = 160 + fF σ 2 then q10 else A x) = A x
      rw [if_neg this.1, if_neg this.2.1, if_neg this.2.2]
    have a8 : A' (100 + fF σ 2) = q8 := by rw [← hA']; exact if_pos rfl
    have a2 : A' (130 + fF σ 2) = q2 := by rw [← hA']; show (if _ then _ else _) = _; rw [if_neg (by omega), if_pos rfl]
    have a10 : A' (160 + fF σ 2) = q10 := by rw [← hA']; show (if _ then _ else _) = _; rw [if_neg (by omega), if_neg (by omega), if_pos rfl]
    clear hA'
    have r1 : RC0 M A' σ := h.mv hI ex eA
    have e0 : A' 0 = A 0 := eA 0 (by unfold dmA; omega)
    have e1 : A' 1 = A 1 := eA 1 (by unfold dmA; omega)
    have T0M : tg M (A 0) = 1 := by rw [← e0]; exact r1.1.T0
    have T1M : tg M (A 1) = 12 := by rw [← e1]; exact r1.1.T1
    have L1M : ln M (A 1) = 20 := by rw [← e1]; exact r1.1.L1
    have c1M : gI M 1 2 (A 0) = nI (fF σ 2) := by rw [← e0]; exact r1.2.2.1.1
    have mM : RM M a B τ := hm.ex ex
    simp (disch := omega) only [forall_eq, T0M, T1M, L1M, M8.1, c1M, c_inT, nI_clamp, tg_wR, gI_wR, gI_sI, tg_sI, nI_1, true_and, and_self, if_true]
    have e9 : nI (fF σ 2 + 1) - 1 = nI (fF σ 2) := by rw [c_sub1 (by omega)]; rfl
    rw [e9]
    refine ⟨(exA (A 1) (by rw [T1]; decide)).1.trans T1, ?_⟩
    refine k _ A' e0 ?_ ((RM.oWR mM 12 (A 1) (fF σ 2) q8).oI (k := 1) (by decide) _ _ _)
    rw [← e0, ← e1]
    obtain ⟨h1, h2, h3, h4, h5, h6, h7, h8, h9, h10⟩ := r1
    have old' : ∀ x, dmA (fF σ 2) x → ¬ A' x = q8 ∧ ¬ A' x = q2 ∧ ¬ A' x = q10 := fun x hx => by rw [eA x hx]; exact old x hx
    refine ⟨h1, ⟨h2.1, h2.2.1, fun i hi => ?_, fun x y hx hy e => ?_, fun x hx => ?_⟩, ⟨?_, ?_, h3.2.2⟩, h4, h5, h6, h7, h8, fun i hi => ?_, fun i hi _ => ?_⟩
    · have hi' : i < fF σ 2 + 1 := hi
      by_cases e : i = fF σ 2
      · subst e
        rw [a8, a2, a10]
        refine ⟨?_, M8.1, M8.2.1, M8.2.2.1, M8.2.2.2.1, M8.2.2.2.2.1, M8.2.2.2.2.2.1, M8.2.2.2.2.2.2⟩
        simp (disch := omega) only [forall_eq, tg_sI, gI_sI, gR_sI, aI_sI, aR_sI, ln_sI, tg_sR, gI_sR, gR_sR, aI_sR, aR_sR, ln_sR, tg_wI, gI_wI, gR_wI, aI_wI, aR_wI, ln_wI, tg_wR, gI_wR, gR_wR, aI_wR, aR_wR, ln_wR, tg_wC, gI_wC, gR_wC, aI_wC, aR_wC, ln_wC, tg_nO, gI_nO, gR_nO, aI_nO, aR_nO, ln_nO, tg_nA, gI_nA, gR_nA, aI_nA, aR_nA, ln_nA, Nat.reduceEqDiff, reduceCtorEq, false_and, true_and, and_true, and_false, and_self, if_true, if_false, ↓reduceIte, forall_const, true_implies, imp_self, not_true, not_false_eq_true, implies_true, not_false, eq_self, Nat.reduceLT, Nat.reduceLeDiff, fF_uF, fN_uF, fD_uF, fM_uF, fF_uN, fN_uN, fD_uN, fM_uN, fF_uD, fN_uD, fD_uD, fM_uD, fF_uM, fN_uM, fD_uM, fM_uM]
      · have := h2.2.2.1 i (by omega)
        refine ⟨?_, this.2⟩
        have := this.1
        simp (disch := omega) only [forall_eq, tg_sI, gI_sI, gR_sI, aI_sI, aR_sI, ln_sI, tg_sR, gI_sR, gR_sR, aI_sR, aR_sR, ln_sR, tg_wI, gI_wI, gR_wI, aI_wI, aR_wI, ln_wI, tg_wR, gI_wR, gR_wR, aI_wR, aR_wR, ln_wR, tg_wC, gI_wC, gR_wC, aI_wC, aR_wC, ln_wC, tg_nO, gI_nO, gR_nO, aI_nO, aR_nO, ln_nO, tg_nA, gI_nA, gR_nA, aI_nA, aR_nA, ln_nA, Nat.reduceEqDiff, reduceCtorEq, false_and, true_and, and_true, and_false, and_self, if_true, if_false, ↓reduceIte, forall_const, true_implies, imp_self, not_true, not_false_eq_true, implies_true, not_false, eq_self, Nat.reduceLT, Nat.reduceLeDiff, fF_uF, fN_uF, fD_uF, fM_uF, fF_uN, fN_uN, fD_uN, fM_uN, fF_uD, fN_uD, fD_uD, fM_uD, fF_uM, fN_uM, fD_uM, fM_uM, e]
        exact this
    · have hx' : dmA (fF σ 2 + 1) x := hx
      have hy' : dmA (fF σ 2 + 1) y := hy
      have cs : ∀ x, dmA (fF σ 2 + 1) x → dmA (fF σ 2) x ∨ x = 100 + fF σ 2 ∨ x = 130 + fF σ 2 ∨ x = 160 + fF σ 2 := fun x hx => by unfold dmA at *; omega
      rcases cs x hx' with q1 | rfl | rfl | rfl <;> rcases cs y hy' with q2 | rfl | rfl | rfl
      all_goals first | rfl | skip
      · exact h2.2.2.2.1 x y q1 q2 e
      · rw [a8] at e; exact absurd e (old' x q1).1
      · rw [a2] at e; exact absurd e (old' x q1).2.1
      · rw [a10] at e; exact absurd e (old' x q1).2.2
      · rw [a8] at e; exact absurd e.symm (old' y q2).1
      · rw [a8, a2] at e; exact absurd e n82
      · rw [a8, a10] at e; exact absurd e n810
      · rw [a2] at e; exact absurd e.symm (old' y q2).2.1
      · rw [a8, a2] at e; exact absurd e n28
      · rw [a2, a10] at e; exact absurd e n210
      · rw [a10] at e; exact absurd e.symm (old' y q2).2.2
      · rw [a8, a10] at e; exact absurd e n108
      · rw [a2, a10] at e; exact absurd e n102
    · have hx' : dmA (fF σ 2 + 1) x := hx
      rcases (show dmA (fF σ 2) x ∨ x = 100 + fF σ 2 ∨ x = 130 + fF σ 2 ∨ x = 160 + fF σ 2 by unfold dmA at *; omega) with q1 | rfl | rfl | rfl
      · exact h2.2.2.2.2 x q1
      · rw [a8]; exact hz8
      · rw [a2]; exact hz2
      · rw [a10]; exact hz10
    · simp (disch := omega) only [forall_eq, tg_sI, gI_sI, gR_sI, aI_sI, aR_sI, ln_sI, tg_sR, gI_sR, gR_sR, aI_sR, aR_sR, ln_sR, tg_wI, gI_wI, gR_wI, aI_wI, aR_wI, ln_wI, tg_wR, gI_wR, gR_wR, aI_wR, aR_wR, ln_wR, tg_wC, gI_wC, gR_wC, aI_wC, aR_wC, ln_wC, tg_nO, gI_nO, gR_nO, aI_nO, aR_nO, ln_nO, tg_nA, gI_nA, gR_nA, aI_nA, aR_nA, ln_nA, Nat.reduceEqDiff, reduceCtorEq, false_and, true_and, and_true, and_false, and_self, if_true, if_false, ↓reduceIte, forall_const, true_implies, imp_self, not_true, not_false_eq_true, implies_true, not_false, eq_self, Nat.reduceLT, Nat.reduceLeDiff, fF_uF, fN_uF, fD_uF, fM_uF, fF_uN, fN_uN, fD_uN, fM_uN, fF_uD, fN_uD, fD_uD, fM_uD, fF_uM, fN_uM, fD_uM, fM_uM]
    · exact h3.2.1
    · have hi' : i < fF σ 2 + 1 := hi
      by_cases e : i = fF σ 2
      · subst e
        have hf := (hF (fF σ 2) (Nat.le_refl _)).1
        refine ⟨?_, fun t ht => ?_⟩
        · rw [a8]
          show gI M 8 2 q8 = nI (fN σ 4 (fF σ 2))
          rw [hf]; exact Mf.1
        · have ht' : t < fN σ 4 (fF σ 2) := ht
          omega
      · exact h9 i (by omega)
    · have hi' : i < fF σ 2 + 1 := hi
      by_cases e : i = fF σ 2
      · subst e
        have hf := hu _ (hF (fF σ 2) (Nat.le_refl _)).2
        have f0 := hf 0 (by decide)
        rw [Nat.add_zero] at f0
        have f3 := hf 3 (by decide)
        unfold JT
        rw [a8]
        refine ⟨?_, ?_, ?_, ?_, ?_, ?_, fun t ht => ?_⟩
        · show gI M 8 4 q8 = nI (fN σ 5 (6 * fF σ 2)); rw [f0]; exact Mf.2.2.1
        · show gI M 8 5 q8 = nI (fN σ 5 (6 * fF σ 2 + 1)); rw [hf 1 (by decide)]; exact Mf.2.2.2.1
        · show gI M 8 6 q8 = nI (fN σ 5 (6 * fF σ 2 + 2)); rw [hf 2 (by decide)]; exact Mf.2.2.2.2.1
        · show gI M 8 3 q8 = nI (fN σ 5 (6 * fF σ 2 + 3)); rw [f3]; exact Mf.2.1
        · show gI M 8 7 q8 = nI (fN σ 5 (6 * fF σ 2 + 4)); rw [hf 4 (by decide)]; exact Mf.2.2.2.2.2.1
        · show gI M 8 8 q8 = nI (fN σ 5 (6 * fF σ 2 + 5)); rw [hf 5 (by decide)]; exact Mf.2.2.2.2.2.2
        · have ht' : t < fN σ 5 (6 * fF σ 2 + 3) := ht
          omega
      · exact h10 i (by omega) trivial
  · rw [if_pos (by omega)] at k
    exact k m A rfl h hm
