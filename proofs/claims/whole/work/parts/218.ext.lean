theorem cp1_ext : ∀ (c i : Nat) (σ : Sg), (∀ f, fF (cp1 c i σ) f = fF σ f) ∧ fM (cp1 c i σ) = fM σ ∧ (∀ f j, fD (cp1 c i σ) f j = fD σ f j) ∧ (∀ f j, f ≠ 9 → fN (cp1 c i σ) f j = fN σ f j) ∧ (∀ j, i ≤ j → j < i + c → fN (cp1 c i σ) 9 j = fN σ 7 j) ∧ (∀ j, j < i → fN (cp1 c i σ) 9 j = fN σ 9 j)
  | 0, i, σ => ⟨fun _ => rfl, rfl, fun _ _ => rfl, fun _ _ _ => rfl, fun j h1 h2 => by omega, fun _ _ => rfl⟩
  | c + 1, i, σ => by
    obtain ⟨a1, a2, a3, a4, a5, a6⟩ := cp1_ext c (i + 1) (uN σ 9 i (fN σ 7 i))
    refine ⟨a1, a2, a3, fun f j hf => ?_, fun j h1 h2 => ?_, fun j h => ?_⟩
    · show fN (cp1 c (i + 1) _) f j = _
      rw [a4 f j hf, fN_uN, if_neg (fun e => hf e.1)]
    · show fN (cp1 c (i + 1) _) 9 j = _
      by_cases e : j = i
      · rw [a6 j (by omega), fN_uN, if_pos ⟨rfl, e⟩, e]
      · rw [a5 j (by omega) (by omega)]; rfl
    · show fN (cp1 c (i + 1) _) 9 j = _
      rw [a6 j (by omega), fN_uN, if_neg (by omega)]
theorem cp4_ext : ∀ (c i : Nat) (σ : Sg), (∀ f, fF (cp4 c i σ) f = fF σ f) ∧ fM (cp4 c i σ) = fM σ ∧ (∀ f j, fD (cp4 c i σ) f j = fD σ f j) ∧ (∀ f j, f ≠ 7 → fN (cp4 c i σ) f j = fN σ f j) ∧ (∀ j, i ≤ j → j < i + c → fN (cp4 c i σ) 7 j = fN σ 9 j) ∧ (∀ j, j < i → fN (cp4 c i σ) 7 j = fN σ 7 j)
  | 0, i, σ => ⟨fun _ => rfl, rfl, fun _ _ => rfl, fun _ _ _ => rfl, fun j h1 h2 => by omega, fun _ _ => rfl⟩
  | c + 1, i, σ => by
    obtain ⟨a1, a2, a3, a4, a5, a6⟩ := cp4_ext c (i + 1) (uN σ 7 i (fN σ 9 i))
    refine ⟨a1, a2, a3, fun f j hf => ?_, fun j h1 h2 => ?_, fun j h => ?_⟩
    · show fN (cp4 c (i + 1) _) f j = _
      rw [a4 f j hf, fN_uN, if_neg (fun e => hf e.1)]
    · show fN (cp4 c (i + 1) _) 7 j = _
      by_cases e : j = i
      · rw [a6 j (by omega), fN_uN, if_pos ⟨rfl, e⟩, e]
      · rw [a5 j (by omega) (by omega)]; rfl
    · show fN (cp4 c (i + 1) _) 7 j = _
      rw [a6 j (by omega), fN_uN, if_neg (by omega)]
theorem cp2_ext : ∀ (c i : Nat) (σ : Sg), (∀ f, fF (cp2 c i σ) f = fF σ f) ∧ fM (cp2 c i σ) = fM σ ∧ (∀ f j, fN (cp2 c i σ) f j = fN σ f j) ∧ (∀ f j, f ≠ 10 → fD (cp2 c i σ) f j = fD σ f j) ∧ (∀ j, i ≤ j → j < i + c → fD (cp2 c i σ) 10 j = fD σ 8 j) ∧ (∀ j, j < i → fD (cp2 c i σ) 10 j = fD σ 10 j)
  | 0, i, σ => ⟨fun _ => rfl, rfl, fun _ _ => rfl, fun _ _ _ => rfl, fun j h1 h2 => by omega, fun _ _ => rfl⟩
  | c + 1, i, σ => by
    obtain ⟨a1, a2, a3, a4, a5, a6⟩ := cp2_ext c (i + 1) (uD σ 10 i (fD σ 8 i))
    refine ⟨a1, a2, a3, fun f j hf => ?_, fun j h1 h2 => ?_, fun j h => ?_⟩
    · show fD (cp2 c (i + 1) _) f j = _
      rw [a4 f j hf, fD_uD, if_neg (fun e => hf e.1)]
    · show fD (cp2 c (i + 1) _) 10 j = _
      by_cases e : j = i
      · rw [a6 j (by omega), fD_uD, if_pos ⟨rfl, e⟩, e]
      · rw [a5 j (by omega) (by omega)]; rfl
    · show fD (cp2 c (i + 1) _) 10 j = _
      rw [a6 j (by omega), fD_uD, if_neg (by omega)]
theorem cp5_ext : ∀ (c i : Nat) (σ : Sg), (∀ f, fF (cp5 c i σ) f = fF σ f) ∧ fM (cp5 c i σ) = fM σ ∧ (∀ f j, fN (cp5 c i σ) f j = fN σ f j) ∧ (∀ f j, f ≠ 8 → fD (cp5 c i σ) f j = fD σ f j) ∧ (∀ j, i ≤ j → j < i + c → fD (cp5 c i σ) 8 j = fD σ 10 j) ∧ (∀ j, (j < i ∨ i + c ≤ j) → fD (cp5 c i σ) 8 j = fD σ 8 j)
  | 0, i, σ => ⟨fun _ => rfl, rfl, fun _ _ => rfl, fun _ _ _ => rfl, fun j h1 h2 => by omega, fun _ _ => rfl⟩
  | c + 1, i, σ => by
    obtain ⟨a1, a2, a3, a4, a5, a6⟩ := cp5_ext c (i + 1) (uD σ 8 i (fD σ 10 i))
    refine ⟨a1, a2, a3, fun f j hf => ?_, fun j h1 h2 => ?_, fun j h => ?_⟩
    · show fD (cp5 c (i + 1) _) f j = _
      rw [a4 f j hf, fD_uD, if_neg (fun e => hf e.1)]
    · show fD (cp5 c (i + 1) _) 8 j = _
      by_cases e : j = i
      · rw [a6 j (by omega), fD_uD, if_pos ⟨rfl, e⟩, e]
      · rw [a5 j (by omega) (by omega)]; rfl
    · show fD (cp5 c (i + 1) _) 8 j = _
      rw [a6 j (by omega), fD_uD, if_neg (by omega)]
theorem cp3_ext : ∀ (c i : Nat) (σ : Sg), (∀ f, fF (cp3 c i σ) f = fF σ f) ∧ fM (cp3 c i σ) = fM σ ∧ (∀ f j, fD (cp3 c i σ) f j = fD σ f j) ∧ (∀ f j, f ≠ 23 → f ≠ 22 → fN (cp3 c i σ) f j = fN σ f j) ∧ (∀ j, i ≤ j → j < i + c → fN (cp3 c i σ) 23 j = 0 ∧ fN (cp3 c i σ) 22 j = fN σ 20 j) ∧ (∀ j, (j < i ∨ i + c ≤ j) → fN (cp3 c i σ) 23 j = fN σ 23 j ∧ fN (cp3 c i σ) 22 j = fN σ 22 j)
  | 0, i, σ => ⟨fun _ => rfl, rfl, fun _ _ => rfl, fun _ _ _ _ => rfl, fun j h1 h2 => by omega, fun _ _ => ⟨rfl, rfl⟩⟩
  | c + 1, i, σ => by
    obtain ⟨a1, a2, a3, a4, a5, a6⟩ := cp3_ext c (i + 1) (uN (uN σ 23 i 0) 22 i (fN σ 20 i))
    refine ⟨a1, a2, a3, fun f j hf hg => ?_, fun j h1 h2 => ?_, fun j h => ?_⟩
    · show fN (cp3 c (i + 1) _) f j = _
      rw [a4 f j hf hg, fN_uN, if_neg (fun e => hg e.1), fN_uN, if_neg (fun e => hf e.1)]
    · show fN (cp3 c (i + 1) _) 23 j = _ ∧ fN (cp3 c (i + 1) _) 22 j = _
      by_cases e : j = i
      · obtain ⟨b1, b2⟩ := a6 j (by omega)
        rw [b1, b2, e]
        refine ⟨?_, ?_⟩
        · rw [fN_uN, if_neg (by omega), fN_uN, if_pos ⟨rfl, rfl⟩]
        · rw [fN_uN, if_pos ⟨rfl, rfl⟩]
      · obtain ⟨b1, b2⟩ := a5 j (by omega) (by omega)
        rw [b1, b2]; exact ⟨rfl, rfl⟩
    · show fN (cp3 c (i + 1) _) 23 j = _ ∧ fN (cp3 c (i + 1) _) 22 j = _
      obtain ⟨b1, b2⟩ := a6 j (by omega)
      rw [b1, b2]
      refine ⟨?_, ?_⟩
      · rw [fN_uN, if_neg (by omega), fN_uN, if_neg (by omega)]
      · rw [fN_uN, if_neg (by omega), fN_uN, if_neg (by omega)]
theorem cp6_ext : ∀ (c i : Nat) (σ : Sg), (∀ f, fF (cp6 c i σ) f = fF σ f) ∧ fM (cp6 c i σ) = fM σ ∧ (∀ f j, fD (cp6 c i σ) f j = fD σ f j) ∧ (∀ f j, f ≠ 16 → f ≠ 20 → fN (cp6 c i σ) f j = fN σ f j) ∧ (∀ j, i ≤ j → j < i + c → fN (cp6 c i σ) 16 j = (if fN σ 16 j = 0 then 0 else if fN σ 23 j = 0 then 1 else 0) ∧ fN (cp6 c i σ) 20 j = (if fN σ 23 j = 0 then fN σ 22 j else 0)) ∧ (∀ j, (j < i ∨ i + c ≤ j) → fN (cp6 c i σ) 16 j = fN σ 16 j ∧ fN (cp6 c i σ) 20 j = fN σ 20 j)
  | 0, i, σ => ⟨fun _ => rfl, rfl, fun _ _ => rfl, fun _ _ _ _ => rfl, fun j h1 h2 => by omega, fun _ _ => ⟨rfl, rfl⟩⟩
  | c + 1, i, σ => by
    obtain ⟨a1, a2, a3, a4, a5, a6⟩ := cp6_ext c (i + 1) (uN (uN σ 16 i (if fN σ 16 i = 0 then 0 else if fN σ 23 i = 0 then 1 else 0)) 20 i (if fN σ 23 i = 0 then fN σ 22 i else 0))
    refine ⟨a1, a2, a3, fun f j hf hg => ?_, fun j h1 h2 => ?_, fun j h => ?_⟩
    · show fN (cp6 c (i + 1) _) f j = _
      rw [a4 f j hf hg, fN_uN, if_neg (fun e => hg e.1), fN_uN, if_neg (fun e => hf e.1)]
    · show fN (cp6 c (i + 1) _) 16 j = _ ∧ fN (cp6 c (i + 1) _) 20 j = _
      by_cases e : j = i
      · obtain ⟨b1, b2⟩ := a6 j (by omega)
        rw [b1, b2, e]
        refine ⟨?_, ?_⟩
        · rw [fN_uN, if_neg (by omega), fN_uN, if_pos ⟨rfl, rfl⟩]
        · rw [fN_uN, if_pos ⟨rfl, rfl⟩]
      · obtain ⟨b1, b2⟩ := a5 j (by omega) (by omega)
        rw [b1, b2]
        refine ⟨?_, rfl⟩
        rw [show fN (uN (uN σ 16 i (if fN σ 16 i = 0 then 0 else if fN σ 23 i = 0 then 1 else 0)) 20 i (if fN σ 23 i = 0 then fN σ 22 i else 0)) 16 j = fN σ 16 j by rw [fN_uN, if_neg (by omega), fN_uN, if_neg (by omega)]]
        rfl
    · show fN (cp6 c (i + 1) _) 16 j = _ ∧ fN (cp6 c (i + 1) _) 20 j = _
      obtain ⟨b1, b2⟩ := a6 j (by omega)
      rw [b1, b2]
      refine ⟨?_, ?_⟩
      · rw [fN_uN, if_neg (by omega), fN_uN, if_neg (by omega)]
      · rw [fN_uN, if_neg (by omega), fN_uN, if_neg (by omega)]
/-- what a run of signs keeps -/
def Kr (σ τ : Sg) : Prop := Kp (uF σ 27 0) (uF τ 27 0)
theorem Kr.of {σ τ : Sg} {p x : Nat} (h : Kp (uF (uF σ 26 p) 27 x) τ) : Kr σ τ := by
  obtain ⟨a1, a2, a3, a4, a5, a6, a7, a8, a9, a10, a11, a12⟩ := h
  exact ⟨a1, a2, a3, a4, rfl, a6, a7, a8, a9, a10, a11, a12⟩
theorem run_ok : ∀ (k : Nat) (σ : Sg), LpS σ → GI (runS k σ).2 ∧ Kr σ (runS k σ).2 ∧ (fF (runS k σ).2 35 ≠ 0 → fF (runS k σ).2 26 < siz σ) ∧ (runS k σ).1 ≤ 3 ∧ 1 ≤ (runS k σ).1 := by
  intro k
  induction k with
  | zero => intro σ h; exact ⟨h.1, Kp.rf _, fun q => absurd h.2.2.1 q, by show 3 ≤ 3; decide, by show 1 ≤ 3; decide⟩
  | succ k ih =>
    intro σ h
    rw [runS_nx]
    split
    · exact ⟨h.1, Kp.rf _, fun q => absurd h.2.2.1 q, by show 1 ≤ 3; decide, by show 1 ≤ 1; decide⟩
    · rename_i hq
      split
      · exact ⟨h.1, Kp.rf _, fun q => absurd h.2.2.1 q, by show 3 ≤ 3; decide, by show 1 ≤ 3; decide⟩
      · rename_i hmo
        obtain ⟨n1, n2, n3, n4, n5, n6⟩ := nx_ok h (by omega) hmo
        split
        · rename_i he
          exact ⟨n3, Kr.of n4, fun _ => by show fF (nxS σ) 26 < siz σ; rw [n5 he]; omega, by show 2 ≤ 3; decide, by show 1 ≤ 2; decide⟩
        · rename_i he
          have he' : fF (nxS σ) 35 = 0 := Decidable.byContradiction he
          split
          · exact ⟨n3, Kr.of n4, fun q => absurd he' q, by show 1 ≤ 3; decide, by show 1 ≤ 1; decide⟩
          · rename_i hf
            obtain ⟨b1, b2, b3, b4⟩ := ih _ ((n6 he').2 (Decidable.byContradiction hf))
            have hk : Kr σ (uF (nxS σ) 26 (fF (nxS σ) 26 + 1)) := Kr.of (p := nd (sgn σ) (siz σ) (fF σ 26)) (x := fF σ 27 + 1) n4
            refine ⟨b1, Kp.tr hk b2, fun q => ?_, b4⟩
            have := b3 q
            have e : siz (uF (nxS σ) 26 (fF (nxS σ) 26 + 1)) = siz σ := by have e := kp_siz n4; exact e
            rw [e] at this; exact this

