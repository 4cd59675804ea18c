def bl (σ : Sg) : Nat → List Nat
  | 0 => []
  | i + 1 => fN σ 33 i :: bl σ i
theorem bl_congr {σ τ : Sg} : ∀ n, (∀ i, i < n → fN τ 33 i = fN σ 33 i) → bl τ n = bl σ n
  | 0, _ => rfl
  | n + 1, h => by unfold bl; rw [h n (by omega), bl_congr n (fun i hi => h i (by omega))]
def Kb (σ τ : Sg) : Prop := fF τ 26 = fF σ 26 ∧ fF τ 32 = fF σ 32 ∧ ∀ i, fN τ 33 i = fN σ 33 i
theorem Kb.rf (σ : Sg) : Kb σ σ := ⟨rfl, rfl, fun _ => rfl⟩
theorem Kb.tr {σ τ υ : Sg} (h : Kb σ τ) (g : Kb τ υ) : Kb σ υ := ⟨g.1.trans h.1, g.2.1.trans h.2.1, fun i => (g.2.2 i).trans (h.2.2 i)⟩
theorem kb_lay (σ : Sg) (v : Int32) : Kb σ (layS σ v) := by unfold layS; split <;> exact Kb.rf σ
theorem kb_lay2 (σ : Sg) (v w : Int32) : Kb σ (lay2 σ v w) := (kb_lay σ v).tr (kb_lay _ w)
theorem kb_pg : ∀ (c : Nat) (σ : Sg), Kb σ (pgS c σ)
  | 0, σ => Kb.rf σ
  | c + 1, σ => by unfold pgS; exact (kb_pg c (uF (uD σ 6 (40 * fF σ 25 + fF σ 31) (fM σ)) 31 (fF σ 31 + 1)))
theorem kb_show (σ : Sg) : Kb σ (showS σ) := by unfold showS; split; exact Kb.rf σ; exact kb_pg _ σ
theorem kb_set (σ : Sg) (q v : Int32) : Kb σ (setS σ q v) := by unfold setS; split; exact Kb.rf σ; unfold spDevice; split <;> exact Kb.rf σ
theorem kb_res (σ : Sg) (q v : Int32) : Kb σ (resS σ q v) := by unfold resS; split; exact Kb.rf σ; exact kb_lay _ _
theorem kb_def (σ : Sg) (c n v : Int32) : Kb σ (defS σ c n v) := by
  have h : Kb σ (spDefine σ c n v).2 := by unfold spDefine; split; exact Kb.rf σ; split <;> exact Kb.rf σ
  unfold defS; split; exact h; exact h
theorem kb_wr (σ : Sg) (c n : Int32) : Kb σ (wrS σ c n) := by
  have h : Kb σ (spWritten σ c n).2 := by unfold spWritten; split; exact Kb.rf σ; split; exact Kb.rf σ; split; split <;> exact Kb.rf σ; split <;> exact Kb.rf σ
  unfold wrS; split; exact h; exact h
theorem kb_fl (σ : Sg) (c n : Int32) : Kb σ (flS σ c n) := by
  have h : Kb σ (spFiltered σ c n).2 := by unfold spFiltered; split; exact Kb.rf σ; split; exact Kb.rf σ; split <;> exact Kb.rf σ
  unfold flS; split; exact h; exact h
theorem kb_rd (σ : Sg) (c : Int32) : Kb σ (rdS σ c) := by
  have h : Kb σ (spTaken σ c).2 := by unfold spTaken; split; exact Kb.rf σ; split; split <;> exact Kb.rf σ; exact Kb.rf σ
  unfold rdS; split; exact h; exact h.tr (kb_lay _ _)
theorem kb_opn (σ : Sg) (c n : Int32) : Kb σ (opnS σ c n) := by
  have h : Kb σ (spOpened σ c n).2 := by unfold spOpened; split; exact Kb.rf σ; split; exact Kb.rf σ; split; exact Kb.rf σ; split <;> exact Kb.rf σ
  unfold opnS; split; exact Kb.rf σ; exact (show Kb σ (uN (spOpened σ c n).2 23 (spOpened σ c n).1.toNatClampNeg 1) from h).tr (kb_lay _ _)
theorem kb_clo (σ : Sg) (c : Int32) : Kb σ (cloS σ c) := by unfold cloS; split; exact Kb.rf σ; split <;> exact Kb.rf σ

theorem kb_do (σ : Sg) (s a b c : Int32) (n1 : s ≠ 123) (n2 : s ≠ 125) : Kb σ (doS σ s a b c) := by
  by_cases hd : 48 ≤ s ∧ s ≤ 57
  · rw [doS_dig hd]; exact kb_lay _ _
  by_cases e116 : s = 116
  · subst e116; rw [doS_116]; exact kb_lay _ _
  by_cases e43 : s = 43
  · subst e43; rw [doS_43]; exact kb_lay _ _
  by_cases e45 : s = 45
  · subst e45; rw [doS_45]; exact kb_lay _ _
  by_cases e42 : s = 42
  · subst e42; rw [doS_42]; exact kb_lay _ _
  by_cases e100 : s = 100
  · subst e100; rw [doS_100]; exact kb_lay2 _ _ _
  by_cases e120 : s = 120
  · subst e120; rw [doS_120]; exact kb_lay2 _ _ _
  by_cases e112 : s = 112
  · subst e112; rw [doS_112]; exact Kb.rf σ
  by_cases e109 : s = 109
  · subst e109; rw [doS_109]; exact Kb.rf σ
  by_cases e115 : s = 115
  · subst e115; rw [doS_115]; exact kb_show σ
  by_cases e103 : s = 103
  · subst e103; rw [doS_103]; exact kb_set _ _ _
  by_cases e82 : s = 82
  · subst e82; rw [doS_82]; exact kb_res _ _ _
  by_cases e68 : s = 68
  · subst e68; rw [doS_68]; exact kb_def _ _ _ _
  by_cases e111 : s = 111
  · subst e111; rw [doS_111]; exact kb_opn _ _ _
  by_cases e99 : s = 99
  · subst e99; rw [doS_99]; exact kb_clo _ _
  by_cases e119 : s = 119
  · subst e119; rw [doS_119]; exact kb_wr _ _ _
  by_cases e114 : s = 114
  · subst e114; rw [doS_114]; exact kb_rd _ _
  by_cases e102 : s = 102
  · subst e102; rw [doS_102]; exact kb_fl _ _ _
  by_cases e113 : s = 113
  · subst e113; rw [doS_113]; exact Kb.rf σ
  rw [doS_no hd e116 e43 e45 e42 e100 e120 e112 e109 e115 e103 e82 e68 e111 e99 e119 e114 e102 n1 n2 e113]; exact Kb.rf σ
/-- places of a run: outside of remarks, the loops are the open braces -/
def CI (σ : Sg) : Prop := rmk (sgn σ) (fF σ 26) = false ∧ bl σ (fF σ 32) = opn (sgn σ) (fF σ 26) ∧ fF σ 26 ≤ siz σ
theorem ci_act {σ : Sg} (hd : dn (sgn σ) (fF σ 26) = true) (hlt : fF σ 26 < siz σ) (hb : bl σ (fF σ 32) = opn (sgn σ) (fF σ 26)) (he : fF (actS σ (sgn σ (fF σ 26))) 35 = 0) :
    rmk (sgn σ) (fF (actS σ (sgn σ (fF σ 26))) 26 + 1) = false ∧ bl (actS σ (sgn σ (fF σ 26))) (fF (actS σ (sgn σ (fF σ 26))) 32) = opn (sgn σ) (fF (actS σ (sgn σ (fF σ 26))) 26 + 1) ∧ fF (actS σ (sgn σ (fF σ 26))) 26 + 1 ≤ siz σ := by
  revert he
  unfold actS
  split
  · intro he; exact absurd he (by show ¬ (5 : Nat) = 0; decide)
  generalize (if 0 < wn (sgn σ (fF σ 26)) then fD σ 29 (fF σ 28 - wn (sgn σ (fF σ 26))) else 0) = x
  generalize (if 1 < wn (sgn σ (fF σ 26)) then fD σ 29 (fF σ 28 - wn (sgn σ (fF σ 26)) + 1) else 0) = y
  generalize (if 2 < wn (sgn σ (fF σ 26)) then fD σ 29 (fF σ 28 - wn (sgn σ (fF σ 26)) + 2) else 0) = z
  generalize (fF σ 28 - wn (sgn σ (fF σ 26))) = hh
  by_cases e123 : sgn σ (fF σ 26) = 123
  · rw [e123, doS_123]
    unfold beginS
    split
    · intro he; exact absurd he (by show ¬ (6 : Nat) = 0; decide)
    · split
      · intro he; exact absurd he (by show ¬ (7 : Nat) = 0; decide)
      · rename_i e heo
        have heo' : eo (sgn σ) (siz σ) (fF σ 26) = some e := heo
        obtain ⟨a1, a2, a3, a4, a5⟩ := (eo_scan hlt hd e123).1 e heo'
        split
        · intro _
          refine ⟨rmk_dn (g := sgn σ) (p := e) a2, ?_, by show e + 1 ≤ siz σ; omega⟩
          refine Eq.trans (bl_congr (σ := σ) _ ?_) ?_
          · exact fun _ _ => rfl
          show bl σ (fF σ 32) = opn (sgn σ) (e + 1)
          rw [opn_out a2 a3, a4, hb]; rfl
        · intro _
          refine ⟨rmk_dn (g := sgn σ) (p := fF σ 26) hd, ?_, by show fF σ 26 + 1 ≤ siz σ; omega⟩
          refine Eq.trans (bl_congr (σ := uN σ 33 (fF σ 32) (fF σ 26)) _ ?_) ?_
          · exact fun _ _ => rfl
          show bl (uN σ 33 (fF σ 32) (fF σ 26)) (fF σ 32 + 1) = opn (sgn σ) (fF σ 26 + 1)
          rw [opn_in hd e123, ← hb]
          unfold bl
          rw [fN_uN, if_pos ⟨rfl, rfl⟩, bl_congr (σ := σ) (fF σ 32) (fun i hi => by rw [fN_uN, if_neg (by omega)])]
          cases fF σ 32 <;> rfl
  · by_cases e125 : sgn σ (fF σ 26) = 125
    · rw [e125, doS_125]
      unfold endS
      split
      · intro he; exact absurd he (by show ¬ (1 : Nat) = 0; decide)
      · rename_i hl0
        have hl1 : fF σ 32 = (fF σ 32 - 1) + 1 := by
          have : ¬ fF σ 32 = 0 := hl0
          omega
        have hb' : fN σ 33 (fF σ 32 - 1) :: bl σ (fF σ 32 - 1) = opn (sgn σ) (fF σ 26) := by
          rw [← hb]
          conv => rhs; rw [hl1]
          rfl
        obtain ⟨b1, b2, b3, b4⟩ := opn_mem (fF σ 26) (fN σ 33 (fF σ 32 - 1)) (bl σ (fF σ 32 - 1)) [] hb'.symm
        split
        · intro _
          refine ⟨rmk_dn (g := sgn σ) (p := fN σ 33 (fF σ 32 - 1)) b2, ?_, by show fN σ 33 (fF σ 32 - 1) + 1 ≤ siz σ; omega⟩
          refine Eq.trans (bl_congr (σ := σ) _ ?_) ?_
          · exact fun _ _ => rfl
          show bl σ (fF σ 32) = opn (sgn σ) (fN σ 33 (fF σ 32 - 1) + 1)
          rw [opn_in b2 b3, b4, hb, hb']
        · intro _
          refine ⟨rmk_dn (g := sgn σ) (p := fF σ 26) hd, ?_, by show fF σ 26 + 1 ≤ siz σ; omega⟩
          refine Eq.trans (bl_congr (σ := σ) _ ?_) ?_
          · exact fun _ _ => rfl
          show bl σ (fF σ 32 - 1) = opn (sgn σ) (fF σ 26 + 1)
          rw [opn_out hd e125, ← hb']; rfl
    · intro _
      obtain ⟨k1, k2, k3⟩ := kb_do (uF σ 28 hh) (sgn σ (fF σ 26)) x y z e123 e125
      rw [k1, k2, bl_congr (σ := σ) _ (fun i _ => k3 i)]
      refine ⟨rmk_dn (g := sgn σ) (p := fF σ 26) hd, ?_, by show fF σ 26 + 1 ≤ siz σ; omega⟩
      show bl σ (fF σ 32) = opn (sgn σ) (fF σ 26 + 1)
      rw [opn_oth e123 e125, hb]

