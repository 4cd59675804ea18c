theorem act_err_at {σ : Sg} {s : Int32} (h0 : fF σ 35 = 0) (he : fF (actS σ s) 35 ≠ 0) : fF (actS σ s) 26 = fF σ 26 := by
  revert he
  unfold actS
  split
  · intro _; rfl
  generalize (if 0 < wn s then fD σ 29 (fF σ 28 - wn s) else 0) = x
  generalize (if 1 < wn s then fD σ 29 (fF σ 28 - wn s + 1) else 0) = y
  generalize (if 2 < wn s then fD σ 29 (fF σ 28 - wn s + 2) else 0) = z
  generalize (fF σ 28 - wn s) = hh
  by_cases e123 : s = 123
  · subst e123
    rw [doS_123]
    unfold beginS
    split
    · intro _; rfl
    · split
      · intro _; rfl
      · split
        · intro he; exact absurd h0 he
        · intro he; exact absurd h0 he
  · by_cases e125 : s = 125
    · subst e125
      rw [doS_125]
      unfold endS
      split
      · intro _; rfl
      · split
        · intro he; exact absurd h0 he
        · intro he; exact absurd h0 he
    · intro _
      exact (kb_do (uF σ 28 hh) s x y z e123 e125).1
theorem runS_eq (k : Nat) (σ : Sg) : runS (k + 1) σ = (if siz σ ≤ nd (sgn σ) (siz σ) (fF σ 26) then (1, σ) else if fF σ 27 = fF σ 1 then (3, σ)
      else if fF (actS (uF (uF σ 26 (nd (sgn σ) (siz σ) (fF σ 26))) 27 (fF σ 27 + 1)) (sgn σ (nd (sgn σ) (siz σ) (fF σ 26)))) 35 ≠ 0 then (2, actS (uF (uF σ 26 (nd (sgn σ) (siz σ) (fF σ 26))) 27 (fF σ 27 + 1)) (sgn σ (nd (sgn σ) (siz σ) (fF σ 26))))
      else if fF (actS (uF (uF σ 26 (nd (sgn σ) (siz σ) (fF σ 26))) 27 (fF σ 27 + 1)) (sgn σ (nd (sgn σ) (siz σ) (fF σ 26)))) 36 ≠ 0 then (1, actS (uF (uF σ 26 (nd (sgn σ) (siz σ) (fF σ 26))) 27 (fF σ 27 + 1)) (sgn σ (nd (sgn σ) (siz σ) (fF σ 26))))
      else runS k (uF (actS (uF (uF σ 26 (nd (sgn σ) (siz σ) (fF σ 26))) 27 (fF σ 27 + 1)) (sgn σ (nd (sgn σ) (siz σ) (fF σ 26)))) 26 (fF (actS (uF (uF σ 26 (nd (sgn σ) (siz σ) (fF σ 26))) 27 (fF σ 27 + 1)) (sgn σ (nd (sgn σ) (siz σ) (fF σ 26)))) 26 + 1))) := rfl
/-- a state between two signs -/
def LpS (σ : Sg) : Prop := GI σ ∧ CI σ ∧ fF σ 35 = 0 ∧ fF σ 36 = 0
/-- one sign more: where it stands, and the state behind it -/
def nxS (σ : Sg) : Sg := actS (uF (uF σ 26 (nd (sgn σ) (siz σ) (fF σ 26))) 27 (fF σ 27 + 1)) (sgn σ (nd (sgn σ) (siz σ) (fF σ 26)))
theorem runS_nx (k : Nat) (σ : Sg) : runS (k + 1) σ = (if siz σ ≤ nd (sgn σ) (siz σ) (fF σ 26) then (1, σ) else if fF σ 27 = fF σ 1 then (3, σ) else if fF (nxS σ) 35 ≠ 0 then (2, nxS σ) else if fF (nxS σ) 36 ≠ 0 then (1, nxS σ) else runS k (uF (nxS σ) 26 (fF (nxS σ) 26 + 1))) := rfl
theorem bl_uF (σ : Sg) (f v n : Nat) : bl (uF σ f v) n = bl σ n := bl_congr n (fun _ _ => rfl)
theorem nx_ok {σ : Sg} (h : LpS σ) (h1 : nd (sgn σ) (siz σ) (fF σ 26) < siz σ) (h2 : fF σ 27 ≠ fF σ 1) : GI (uF (uF σ 26 (nd (sgn σ) (siz σ) (fF σ 26))) 27 (fF σ 27 + 1)) ∧ dn (sgn σ) (nd (sgn σ) (siz σ) (fF σ 26)) = true ∧ GI (nxS σ) ∧ Kp (uF (uF σ 26 (nd (sgn σ) (siz σ) (fF σ 26))) 27 (fF σ 27 + 1)) (nxS σ) ∧ (fF (nxS σ) 35 ≠ 0 → fF (nxS σ) 26 = nd (sgn σ) (siz σ) (fF σ 26)) ∧ (fF (nxS σ) 35 = 0 → fF (nxS σ) 26 + 1 ≤ siz σ ∧ (fF (nxS σ) 36 = 0 → LpS (uF (nxS σ) 26 (fF (nxS σ) 26 + 1)))) := by
  obtain ⟨⟨g1, g2, j1, j2, j3, j4, j5, j6, j7, j8, j9⟩, ⟨c1, c2, c3⟩, h0, hq⟩ := h
  have hs : siz σ ≤ 200 := g1.size _
  obtain ⟨n1, n2, n3, n4⟩ := nd_ok (g := sgn σ) (n := siz σ) _ (fF σ 26) rfl c3
  have hd := n4 h1
  have hG : GI (uF (uF σ 26 (nd (sgn σ) (siz σ) (fF σ 26))) 27 (fF σ 27 + 1)) := ⟨g1, g2, j1, by show nd (sgn σ) (siz σ) (fF σ 26) ≤ 201; omega, by show fF σ 27 + 1 ≤ fF σ 1; omega, j4, j5, j6, j7, j8, j9⟩
  obtain ⟨a1, a2⟩ := gi_act (σ := uF (uF σ 26 (nd (sgn σ) (siz σ) (fF σ 26))) 27 (fF σ 27 + 1)) (sgn σ (nd (sgn σ) (siz σ) (fF σ 26))) h1 hG
  refine ⟨hG, hd, a1, a2, fun he => act_err_at (σ := uF (uF σ 26 (nd (sgn σ) (siz σ) (fF σ 26))) 27 (fF σ 27 + 1)) h0 he, fun he => ?_⟩
  have hci := ci_act (σ := uF (uF σ 26 (nd (sgn σ) (siz σ) (fF σ 26))) 27 (fF σ 27 + 1)) hd h1 (by rw [bl_uF, bl_uF]; show bl σ (fF σ 32) = opn (sgn σ) (nd (sgn σ) (siz σ) (fF σ 26)); rw [n3]; exact c2) he
  obtain ⟨k1, k2, k3⟩ := hci
  have es : sgn (nxS σ) = sgn σ := by have e := kp_sgn a2; exact e
  have ez : siz (nxS σ) = siz σ := by have e := kp_siz a2; exact e
  obtain ⟨b1, b2, b3⟩ := a1
  refine ⟨k3, fun hf => ⟨⟨b1, b2, b3.1, ?_, b3.2.2⟩, ⟨?_, ?_, ?_⟩, he, hf⟩⟩
  · show fF (nxS σ) 26 + 1 ≤ 201
    have : fF (nxS σ) 26 + 1 ≤ siz σ := k3
    omega
  · show rmk (sgn (nxS σ)) (fF (nxS σ) 26 + 1) = false
    rw [es]; exact k1
  · rw [bl_uF]
    show bl (nxS σ) (fF (nxS σ) 32) = opn (sgn (nxS σ)) (fF (nxS σ) 26 + 1)
    rw [es]; exact k2
  · show fF (nxS σ) 26 + 1 ≤ siz (nxS σ)
    rw [ez]; exact k3
theorem w_run_loop {a : Nat} {B : Nat → Nat} {Z : Mm → Prop} {P : Mm → Prop} : ∀ (k : Nat) (σ : Sg), k = fF σ 1 + 1 - fF σ 27 → LpS σ → (∀ m' x, RZ Z m' a B (uF (tell (runS k σ).1 (runS k σ).2) 26 x) → P m') → ∃ f, ∀ m, RZ Z m a B σ → wp_Mo_runJob_42 P f m a 0 := by
  intro k
  induction k with
  | zero =>
    intro σ hk hL K
    have := hL.1.2.2.2.2.1
    omega
  | succ k ih =>
    intro σ hk hL K
    have hL' := hL
    obtain ⟨⟨g1, g2, hJ⟩, ⟨c1, c2, c3⟩, h0, hq⟩ := hL
    have hs : siz σ ≤ 200 := g1.size _
    have hm := g1.most
    have hst := hJ.2.2.1
    have main := w_skip (a := a) (B := B) (Z := Z) (P := P) g1 hJ h0 hq (fun q m' x hx h' => ?_) (fun q => ?_) (siz σ + 1 - fF σ 26) (fF σ 26) (Nat.le_refl _) (by omega) (fun _ => c1) rfl
    · obtain ⟨f, hf⟩ := main
      exact ⟨f, fun m h => hf m (by rw [uF_self]; exact h)⟩
    · rw [runS_nx, if_pos q] at K
      refine w_tellx h' g1 hJ hx h0 (v := 0) (fun m'' h'' => K m'' x ?_)
      rw [if_pos rfl] at h''
      exact h''
    · have hd : dn (sgn σ) (nd (sgn σ) (siz σ) (fF σ 26)) = true := (nd_ok (g := sgn σ) (n := siz σ) _ (fF σ 26) rfl c3).2.2.2 q
      by_cases hmo : fF σ 27 = fF σ 1
      · rw [runS_nx, if_neg (by omega), if_pos hmo] at K
        have hJp : JI (uF σ 26 (nd (sgn σ) (siz σ) (fF σ 26))) := ⟨hJ.1, by show nd (sgn σ) (siz σ) (fF σ 26) ≤ 201; omega, hJ.2.2⟩
        refine ⟨1 + 1, fun m' h' => w_head h' g1 hJ h0 hq q hd ?_ ?_⟩
        · intro _
          refine w_exit h' g1 hJp (Or.inr (Or.inr (Or.inr (by decide)))) ?_
          refine w_tellx h' g1 hJ (by omega) h0 (v := 1) (fun m'' h'' => K m'' (nd (sgn σ) (siz σ) (fF σ 26)) ?_)
          rw [if_neg (by decide)] at h''
          exact h''
        · intro z; exact absurd hmo z
      · obtain ⟨n1, n2, n3, n4, n5, n6⟩ := nx_ok hL' q hmo
        rw [runS_nx, if_neg (by omega), if_neg hmo] at K
        have hlast : ∃ f, (fF (nxS σ) 35 = 0 → ∀ m1, RZ Z m1 a B (uF (nxS σ) 26 (fF (nxS σ) 26 + 1)) → wp_Mo_runJob_42 P f m1 a 0) ∧ (fF (nxS σ) 35 ≠ 0 → ∀ m1, RZ Z m1 a B (nxS σ) → wp_Mo_runJob_42 P f m1 a 0) := by
          by_cases he : fF (nxS σ) 35 = 0
          · by_cases hf : fF (nxS σ) 36 = 0
            · rw [if_neg (fun w => w he), if_neg (fun w => w hf)] at K
              have hk' : k = fF (uF (nxS σ) 26 (fF (nxS σ) 26 + 1)) 1 + 1 - fF (uF (nxS σ) 26 (fF (nxS σ) 26 + 1)) 27 := by
                show k = fF (nxS σ) 1 + 1 - fF (nxS σ) 27
                rw [n4.2.1, n4.2.2.2.2.1]
                show k = fF σ 1 + 1 - (fF σ 27 + 1)
                omega
              obtain ⟨f, hff⟩ := ih _ hk' ((n6 he).2 hf) K
              exact ⟨f, fun _ => hff, fun w => absurd he w⟩
            · rw [if_neg (fun w => w he), if_pos hf] at K
              refine ⟨1, fun _ m1 h1 => ?_, fun w => absurd he w⟩
              have hat' : fF (nxS σ) 26 + 1 ≤ siz σ := (n6 he).1
              have hJ3 : JI (uF (nxS σ) 26 (fF (nxS σ) 26 + 1)) := ⟨n3.2.2.1, by show fF (nxS σ) 26 + 1 ≤ 201; omega, n3.2.2.2.2⟩
              refine w_exit h1 n3.1 hJ3 (Or.inr (Or.inr (Or.inl hf))) ?_
              refine w_tellx h1 n3.1 n3.2.2 (by omega) he (v := 0) (fun m'' h'' => K m'' (fF (nxS σ) 26 + 1) ?_)
              rw [if_pos rfl] at h''
              exact h''
          · rw [if_pos he] at K
            refine ⟨1, fun w => absurd w he, fun _ m1 h2 => ?_⟩
            refine w_exit h2 n3.1 n3.2.2 (Or.inr (Or.inl he)) ?_
            refine w_tell h2 n3.1 n3.2.2 (fun _ => by rw [n5 he, kp_siz n4]; exact q) (fun m'' h'' => K m'' (fF (nxS σ) 26) ?_)
            rw [if_pos he] at h''
            rw [uF_same (show fF (tell 2 (nxS σ)) 26 = fF (nxS σ) 26 from rfl)]
            exact h''
        obtain ⟨f, hf1, hf2⟩ := hlast
        refine ⟨f + 1, fun m' h' => w_head h' g1 hJ h0 hq q hd (fun z => absurd z hmo) (fun _ => ?_)⟩
        refine w_act (σ := uF (uF σ 26 (nd (sgn σ) (siz σ) (fF σ 26))) 27 (fF σ 27 + 1)) (h'.sF 27 _ (by decide)) n1.1 n1.2.2 h0 q (fun e => e) (fun m1 h1 => ?_)
        have h1' : RZ Z m1 a B (nxS σ) := h1
        have f35 : gI m1 11 35 a = nI (fF (nxS σ) 35) := h1'.2.2.1 35 (by decide)
        have f26 : gI m1 11 26 a = nI (fF (nxS σ) 26) := h1'.2.2.1 26 (by decide)
        have b35 : fF (nxS σ) 35 ≤ 7 := n3.2.2.2.2.2.2.2.2.2.1
        rw [f35, f26, eL_0 (by omega), nI_1]
        refine ⟨h1'.1, fun z => ⟨h1'.1, h1'.1, hf1 z _ (h1'.sF 26 _ (by decide))⟩, fun z => ⟨h1'.1, h1'.1, hf2 z _ ?_⟩⟩
        have := h1'.sF 26 (fF (nxS σ) 26) (by decide)
        rw [uF_self] at this
        exact this

