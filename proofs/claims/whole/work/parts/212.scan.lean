/-! places: remarks, the next sign, open braces -/
def opn (g : Nat → Int32) : Nat → List Nat
  | 0 => []
  | p + 1 => if dn g p = true ∧ g p = 123 then p :: opn g p else if dn g p = true ∧ g p = 125 then (opn g p).tail else opn g p
theorem dn_iff {g : Nat → Int32} {p : Nat} : dn g p = true ↔ rmk g p = false ∧ g p ≠ 37 ∧ g p ≠ 32 ∧ g p ≠ 10 := by
  unfold dn
  simp [Bool.and_eq_true, bne_iff_ne, and_assoc]
theorem rmk_dn {g : Nat → Int32} {p : Nat} (h : dn g p = true) : rmk g (p + 1) = false := by
  obtain ⟨h1, h2, h3, h4⟩ := dn_iff.mp h
  simp [rmk, h1, h2]
theorem rmk_blank {g : Nat → Int32} {p : Nat} (h : rmk g p = false) (h2 : g p ≠ 37) : rmk g (p + 1) = false := by simp [rmk, h, h2]
theorem opn_no {g : Nat → Int32} {p : Nat} (h : ¬ dn g p = true) : opn g (p + 1) = opn g p := by
  conv => lhs; unfold opn
  rw [if_neg (fun q => h q.1), if_neg (fun q => h q.1)]
theorem opn_oth {g : Nat → Int32} {p : Nat} (h1 : g p ≠ 123) (h2 : g p ≠ 125) : opn g (p + 1) = opn g p := by
  conv => lhs; unfold opn
  rw [if_neg (fun q => h1 q.2), if_neg (fun q => h2 q.2)]
theorem opn_in {g : Nat → Int32} {p : Nat} (h : dn g p = true) (h1 : g p = 123) : opn g (p + 1) = p :: opn g p := by
  conv => lhs; unfold opn
  rw [if_pos ⟨h, h1⟩]
theorem opn_out {g : Nat → Int32} {p : Nat} (h : dn g p = true) (h1 : g p = 125) : opn g (p + 1) = (opn g p).tail := by
  conv => lhs; unfold opn
  rw [if_neg (fun q => by rw [h1] at q; exact absurd q.2 (by decide)), if_pos ⟨h, h1⟩]
theorem brkF_scan (g : Nat → Int32) (n : Nat) : ∀ f p, p ≤ n → f = n - p → (rmk g p = true ∨ g p = 37) → (∀ q, p ≤ q → q < brkF g n f p → q < n → ¬ dn g q = true) ∧ (brkF g n f p ≤ n → opn g (brkF g n f p) = opn g p ∧ rmk g (brkF g n f p) = false)
  | 0, p, hp, hf, hr => by
    have : p = n := by omega
    subst this
    unfold brkF
    exact ⟨fun q h1 h2 h3 => by omega, fun h => by omega⟩
  | f + 1, p, hp, hf, hr => by
    have hnd : ¬ dn g p = true := fun q => by
      obtain ⟨a, b, -, -⟩ := dn_iff.mp q
      rcases hr with c | c
      · rw [a] at c; cases c
      · exact b c
    unfold brkF
    rw [if_neg (by omega)]
    by_cases e : g p = 10
    · rw [if_pos e]
      refine ⟨fun q h1 h2 h3 => ?_, fun _ => ⟨opn_no hnd, ?_⟩⟩
      · have : q = p := by omega
        subst this; exact hnd
      · simp [rmk, e]
    · rw [if_neg e]
      have hr' : rmk g (p + 1) = true := by
        simp only [rmk, Bool.and_eq_true, Bool.or_eq_true, beq_iff_eq, bne_iff_ne]
        exact ⟨hr, e⟩
      obtain ⟨a, b⟩ := brkF_scan g n f (p + 1) (by omega) (by omega) (Or.inl hr')
      refine ⟨fun q h1 h2 h3 => ?_, fun h => ?_⟩
      · by_cases eq : q = p
        · subst eq; exact hnd
        · exact a q (by omega) h2 h3
      · obtain ⟨c, d⟩ := b h
        exact ⟨c.trans (opn_no hnd), d⟩
theorem ndF_spec (g : Nat → Int32) (n : Nat) : ∀ f p, f = n - p → ndF g n f p = if n ≤ p then n else if dn g p = true then p else ndF g n (n - (p + 1)) (p + 1)
  | 0, p, hf => by rw [if_pos (by omega)]; rfl
  | f + 1, p, hf => by
    conv => lhs; unfold ndF
    rw [show f = n - (p + 1) by omega]
theorem nd_eq (g : Nat → Int32) (n p : Nat) : nd g n p = if n ≤ p then n else if dn g p = true then p else nd g n (p + 1) := ndF_spec g n _ p rfl
theorem nd_ge {g : Nat → Int32} {n p : Nat} (h : n ≤ p) : nd g n p = n := by rw [nd_eq, if_pos h]
theorem nd_dn {g : Nat → Int32} {n p : Nat} (h : p < n) (hd : dn g p = true) : nd g n p = p := by rw [nd_eq, if_neg (by omega), if_pos hd]
theorem nd_no {g : Nat → Int32} {n p : Nat} (hd : ¬ dn g p = true) : nd g n p = nd g n (p + 1) := by
  by_cases h : n ≤ p
  · rw [nd_ge h, nd_ge (by omega)]
  · conv => lhs; rw [nd_eq, if_neg h, if_neg hd]
theorem nd_skip {g : Nat → Int32} {n : Nat} : ∀ (c p : Nat), (∀ q, p ≤ q → q < p + c → q < n → ¬ dn g q = true) → nd g n p = nd g n (p + c)
  | 0, p, _ => rfl
  | c + 1, p, h => by
    by_cases hp : n ≤ p
    · rw [nd_ge hp, nd_ge (by omega)]
    · rw [nd_no (h p (Nat.le_refl _) (by omega) (by omega)), nd_skip c (p + 1) (fun q h1 h2 h3 => h q (by omega) (by omega) h3)]
      congr 1; omega
theorem brk_nd {g : Nat → Int32} {n p : Nat} (hp : p < n) (h : g p = 37) : nd g n p = nd g n (brk g n p) := by
  have h1 := (brk_le g n p (by omega)).1
  have h2 := (brkF_scan g n _ p (by omega) rfl (Or.inr h)).1
  have := nd_skip (g := g) (n := n) (brk g n p - p) p (fun q a b c => h2 q a (by unfold brk at b h1; omega) c)
  rw [this]; congr 1; omega
theorem brk_cl {g : Nat → Int32} {n p : Nat} (hp : p < n) (h : g p = 37) (hb : brk g n p ≤ n) : opn g (brk g n p) = opn g p ∧ rmk g (brk g n p) = false := (brkF_scan g n _ p (by omega) rfl (Or.inr h)).2 hb
theorem nd_ok {g : Nat → Int32} {n : Nat} : ∀ (c p : Nat), c = n - p → p ≤ n → p ≤ nd g n p ∧ nd g n p ≤ n ∧ opn g (nd g n p) = opn g p ∧ (nd g n p < n → dn g (nd g n p) = true)
  | 0, p, hc, hp => by
    have : p = n := by omega
    subst this
    rw [nd_ge (Nat.le_refl _)]
    exact ⟨Nat.le_refl _, Nat.le_refl _, rfl, fun h => absurd h (Nat.lt_irrefl _)⟩
  | c + 1, p, hc, hp => by
    by_cases hd : dn g p = true
    · rw [nd_dn (by omega) hd]
      exact ⟨Nat.le_refl _, hp, rfl, fun _ => hd⟩
    · rw [nd_no hd]
      obtain ⟨a, b, e, d⟩ := nd_ok (g := g) (n := n) c (p + 1) (by omega) (by omega)
      exact ⟨by omega, b, e.trans (opn_no hd), d⟩
/-- the open braces: each is one, below the place, with those below it open at it -/
theorem opn_mem {g : Nat → Int32} : ∀ (p b : Nat) (r l : List Nat), opn g p = l ++ b :: r → b < p ∧ dn g b = true ∧ g b = 123 ∧ opn g b = r
  | 0, b, r, l, h => by cases l <;> simp [opn] at h
  | p + 1, b, r, l, h => by
    by_cases hd : dn g p = true
    · by_cases h1 : g p = 123
      · rw [opn_in hd h1] at h
        cases l with
        | nil => simp at h; obtain ⟨rfl, rfl⟩ := h; exact ⟨by omega, hd, h1, rfl⟩
        | cons x l => simp at h; obtain ⟨a, b, c⟩ := opn_mem p b r l h.2; exact ⟨by omega, b, c⟩
      · by_cases h2 : g p = 125
        · rw [opn_out hd h2] at h
          cases hq : opn g p with
          | nil => rw [hq] at h; cases l <;> simp at h
          | cons x t =>
            rw [hq] at h
            obtain ⟨a, b, c⟩ := opn_mem p b r (x :: l) (by rw [hq]; simp at h ⊢; exact h)
            exact ⟨by omega, b, c⟩
        · rw [opn_oth h1 h2] at h
          obtain ⟨a, b, c⟩ := opn_mem p b r l h; exact ⟨by omega, b, c⟩
    · rw [opn_no hd] at h
      obtain ⟨a, b, c⟩ := opn_mem p b r l h; exact ⟨by omega, b, c⟩
/-- the end that the count of braces finds is the brace that closes -/
theorem eoF_scan (g : Nat → Int32) (n b : Nat) : ∀ f d p L, n + 1 - p ≤ f → p ≤ n + 1 → (p ≤ n → rmk g p = false ∧ opn g p = L ++ b :: opn g b) → L.length + 1 = d → (∀ q, b < q → q < p → q < n → dn g q = true → g q = 125 → (opn g q).head? ≠ some b) →
    (∀ e, eoF g n f d p = some e → e < n ∧ dn g e = true ∧ g e = 125 ∧ opn g e = b :: opn g b ∧ p ≤ e) ∧ (eoF g n f d p = none → ∀ q, b < q → q < n → dn g q = true → g q = 125 → (opn g q).head? ≠ some b)
  | 0, d, p, L, hf, hp, ho, hL, hno => ⟨fun e h => (by cases h), fun _ q a b => hno q a (by omega) b⟩
  | f + 1, d, p, L, hf, hp, ho, hL, hno => by
    unfold eoF
    by_cases hn : n ≤ p
    · rw [if_pos hn]
      exact ⟨fun e h => (by cases h), fun _ q a b => hno q a (by omega) b⟩
    · rw [if_neg hn]
      obtain ⟨hr, ho'⟩ := ho (by omega)
      by_cases h123 : g p = 123
      · have hd : dn g p = true := dn_iff.mpr ⟨hr, by rw [h123]; decide, by rw [h123]; decide, by rw [h123]; decide⟩
        have e37 : ¬ g p = 37 := by rw [h123]; decide
        rw [if_pos h123, if_neg (by omega), if_neg e37]
        have := eoF_scan g n b f (d + 1) (p + 1) (p :: L) (by omega) (by omega) (fun _ => ⟨rmk_dn hd, by rw [opn_in hd h123, ho']; rfl⟩) (by simp; omega) (fun q a b' c d' e => by
          by_cases eq : q = p
          · subst eq; rw [h123] at e; exact absurd e (by decide)
          · exact hno q a (by omega) c d' e)
        exact ⟨fun e h => (by obtain ⟨a1, a2, a3, a4, a5⟩ := this.1 e h; exact ⟨a1, a2, a3, a4, by omega⟩), this.2⟩
      · by_cases h125 : g p = 125
        · have hd : dn g p = true := dn_iff.mpr ⟨hr, by rw [h125]; decide, by rw [h125]; decide, by rw [h125]; decide⟩
          have e37 : ¬ g p = 37 := by rw [h125]; decide
          rw [if_neg h123, if_pos h125, if_neg e37]
          cases L with
          | nil =>
            simp at hL
            subst hL
            rw [if_pos rfl]
            exact ⟨fun e h => (by cases h; exact ⟨by omega, hd, h125, by rw [ho']; rfl, Nat.le_refl _⟩), fun h => (by cases h)⟩
          | cons x t =>
            simp at hL
            rw [if_neg (by omega)]
            have hx : x ≠ b := fun z => by
              subst z
              have := (opn_mem p x (t ++ x :: opn g x) [] (by rw [ho']; rfl)).2.2.2
              have hl := congrArg List.length this
              simp at hl
              omega
            have := eoF_scan g n b f (d - 1) (p + 1) t (by omega) (by omega) (fun _ => ⟨rmk_dn hd, by rw [opn_out hd h125, ho']; rfl⟩) (by omega) (fun q a b' c d' e => by
              by_cases eq : q = p
              · subst eq; rw [ho']; simp; exact hx
              · exact hno q a (by omega) c d' e)
            exact ⟨fun e h => (by obtain ⟨a1, a2, a3, a4, a5⟩ := this.1 e h; exact ⟨a1, a2, a3, a4, by omega⟩), this.2⟩
        · rw [if_neg h123, if_neg h125, if_neg (by omega)]
          by_cases e37 : g p = 37
          · rw [if_pos e37]
            have hb := brk_le g n p (by omega)
            have hb2 := (brkF_scan g n _ p (by omega) rfl (Or.inr e37)).1
            have := eoF_scan g n b f d (brk g n p) L (by omega) (by omega) (fun hle => ⟨(brk_cl (by omega) e37 hle).2, by rw [(brk_cl (by omega) e37 hle).1]; exact ho'⟩) hL (fun q a b' c d' e => by
              by_cases eq : q < p
              · exact hno q a eq c d' e
              · exact absurd d' (hb2 q (by omega) b' c))
            exact ⟨fun e h => (by obtain ⟨a1, a2, a3, a4, a5⟩ := this.1 e h; exact ⟨a1, a2, a3, a4, by omega⟩), this.2⟩
          · rw [if_neg e37]
            have := eoF_scan g n b f d (p + 1) L (by omega) (by omega) (fun _ => ⟨rmk_blank hr e37, by rw [opn_oth h123 h125]; exact ho'⟩) hL (fun q a b' c d' e => by
              by_cases eq : q = p
              · subst eq; exact absurd e h125
              · exact hno q a (by omega) c d' e)
            exact ⟨fun e h => (by obtain ⟨a1, a2, a3, a4, a5⟩ := this.1 e h; exact ⟨a1, a2, a3, a4, by omega⟩), this.2⟩
theorem eo_scan {g : Nat → Int32} {n b : Nat} (hb : b < n) (hd : dn g b = true) (h123 : g b = 123) : (∀ e, eo g n b = some e → e < n ∧ dn g e = true ∧ g e = 125 ∧ opn g e = b :: opn g b ∧ b < e) ∧ (eo g n b = none → ∀ q, b < q → q < n → dn g q = true → g q = 125 → (opn g q).head? ≠ some b) := by
  unfold eo
  rw [show n + 1 - b = (n - b) + 1 by omega]
  unfold eoF
  have e37 : ¬ g b = 37 := by rw [h123]; decide
  rw [if_neg (by omega), if_pos h123, if_neg (by omega), if_neg e37]
  have := eoF_scan g n b (n - b) (0 + 1) (b + 1) [] (by omega) (by omega) (fun _ => ⟨rmk_dn hd, by rw [opn_in hd h123]; rfl⟩) rfl (fun q a b' => by omega)
  exact ⟨fun e h => (by obtain ⟨a1, a2, a3, a4, a5⟩ := this.1 e h; exact ⟨a1, a2, a3, a4, by omega⟩), this.2⟩

