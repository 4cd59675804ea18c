def m0 : Mm := ((fun _ => 0), (fun _ _ _ => 0), (fun _ _ _ => 0), (fun _ _ _ => 0), (fun _ _ _ => 0), (fun _ => 0))
set_option maxHeartbeats 4000000 in
set_option maxRecDepth 100000 in
theorem whole_from {p : Program} {e : Env} {s : State} {m : MethodId} {below : List Frame} {meth : Method} {c : Code} (l : Launch) {b L : Nat} {xs : Nat → Int32} (C0 : lw_At p s m meth c b L xs) (hwp : wp_Law_law L xs m0 (fun r _ => r = 1)) : W p l e room_1 s m #[Value.ref b] below meth c s.heap [] 0 0 (lw_Z below #[Value.ref b] s) (entryFrame m ([Value.ref b] : List Value).toArray 4) := by
  obtain ⟨hx, hb, hr, hml, hown, hts0, hX, hbl, hlocks, hgv⟩ := id C0
  have hts : ∀ w ∈ lw_good, w.before #[Value.ref b] s = true := fun w hw => hts0 w (List.mem_filter.mp hw).1
  obtain ⟨c0, iS0, hKn0⟩ := u_known (C := R_ML) (T := F_ML) (N := 4) (n := 4) hts i_ML (hts _ lk_774)
  obtain ⟨c1, iS1, hKn1⟩ := u_known (C := R_Machine) (T := F_Machine) (N := 10) (n := 10) hts i_Machine (hts _ lk_775)
  obtain ⟨c2, iS2, hKn2⟩ := u_known (C := R_Device) (T := F_Device) (N := 2) (n := 2) hts i_Device (hts _ lk_776)
  obtain ⟨c3, iS3, hKn3⟩ := u_known (C := R_Resources) (T := F_Resources) (N := 2) (n := 2) hts i_Resources (hts _ lk_777)
  obtain ⟨c4, iS4, hKn4⟩ := u_known (C := R_FileTree) (T := F_FileTree) (N := 3) (n := 3) hts i_FileTree (hts _ lk_778)
  obtain ⟨c5, iS5, hKn5⟩ := u_known (C := R_Numbers) (T := F_Numbers) (N := 2) (n := 2) hts i_Numbers (hts _ lk_779)
  obtain ⟨c6, iS6, hKn6⟩ := u_known (C := R_Plan) (T := F_Plan) (N := 4) (n := 4) hts i_Plan (hts _ lk_780)
  obtain ⟨c7, iS7, hKn7⟩ := u_known (C := R_Job) (T := F_Job) (N := 9) (n := 9) hts i_Job (hts _ lk_781)
  obtain ⟨c8, iS8, hKn8⟩ := u_known (C := R_Store) (T := F_Store) (N := 3) (n := 3) hts i_Store (hts _ lk_782)
  obtain ⟨c9, iS9, hKn9⟩ := u_known (C := R_Handle) (T := F_Handle) (N := 7) (n := 7) hts i_Handle (hts _ lk_783)
  obtain ⟨c10, iS10, hKn10⟩ := u_known (C := R_Mo) (T := F_Mo) (N := 37) (n := 37) hts i_Mo (hts _ lk_784)
  have hao0 : (Cond.arrayOver (.object "MachineLoop$Job")).before #[Value.ref b] s = true := hts0 _ (List.mem_of_getElem? (i := 62) (by decide +kernel))
  obtain ⟨comp0, cA0, kA0, f1_0, f2_0, f3_0, f4_0, f5_0⟩ := Cond.arrayOver_spec hao0
  obtain ⟨cA1, kA1, comp1, f1_1, f2_1, f3_1⟩ := Cond.arrayClass_spec (hts _ lk_785)
  have hao2 : (Cond.arrayOver (.object "MachineLoop$Store")).before #[Value.ref b] s = true := hts0 _ (List.mem_of_getElem? (i := 105) (by decide +kernel))
  obtain ⟨comp2, cA2, kA2, f1_2, f2_2, f3_2, f4_2, f5_2⟩ := Cond.arrayOver_spec hao2
  have hao3 : (Cond.arrayOver (.object "MachineLoop$Handle")).before #[Value.ref b] s = true := hts0 _ (List.mem_of_getElem? (i := 165) (by decide +kernel))
  obtain ⟨comp3, cA3, kA3, f1_3, f2_3, f3_3, f4_3, f5_3⟩ := Cond.arrayOver_spec hao3
  obtain ⟨cA4, kA4, comp4, f1_4, f2_4, f3_4⟩ := Cond.arrayClass_spec (hts _ lk_786)
  obtain ⟨cA5, kA5, comp5, f1_5, f2_5, f3_5⟩ := Cond.arrayClass_spec (hts _ lk_787)
  have hA : ∀ a : Nat, a < s.heap.size → ¬ (fun q : Nat => s.heap.size ≤ q) a := fun a h => Nat.not_le.mpr h
  have hfl := flat_of_before _ hgv
  obtain ⟨t0, hv0, hT0⟩ := va_Tof (args := #[Value.ref b]) (s := s) (tm := (Term.static "MachineLoop" "SETTING_AT_FIRST" "[I")) (ty := .int) (N := 4) (f := fun j => .int (tab_0 j)) (A := fun q : Nat => s.heap.size ≤ q) (by decide) (hfl (Cond.arrayOf (Term.static "MachineLoop" "SETTING_AT_FIRST" "[I") .int) (by decide +kernel)) (va_eqt (hfl (Cond.eq (.length (Term.static "MachineLoop" "SETTING_AT_FIRST" "[I")) (.int 4)) (by decide +kernel))) (fun j hj => by
    rcases (show j = 0 ∨ j = 1 ∨ j = 2 ∨ j = 3 by omega) with rfl | rfl | rfl | rfl
    · exact va_eqt (hfl (Cond.eq (.elem (Term.static "MachineLoop" "SETTING_AT_FIRST" "[I") (.int 0)) (.int 0)) (by decide +kernel))
    · exact va_eqt (hfl (Cond.eq (.elem (Term.static "MachineLoop" "SETTING_AT_FIRST" "[I") (.int 1)) (.int 1)) (by decide +kernel))
    · exact va_eqt (hfl (Cond.eq (.elem (Term.static "MachineLoop" "SETTING_AT_FIRST" "[I") (.int 2)) (.int 0)) (by decide +kernel))
    · exact va_eqt (hfl (Cond.eq (.elem (Term.static "MachineLoop" "SETTING_AT_FIRST" "[I") (.int 3)) (.int 0)) (by decide +kernel))) hA
  have hZ0 := va_Zof (A := fun q : Nat => s.heap.size ≤ q) (hts0 (.laysStatic "MachineLoop" "SETTING_AT_FIRST" "[I") (List.mem_of_getElem? (i := 76) (by decide +kernel))) (hts _ lk_646) hv0 hA
  obtain ⟨t1, hv1, hT1⟩ := va_Tof (args := #[Value.ref b]) (s := s) (tm := (Term.static "MachineLoop" "SETTING_LEAST" "[I")) (ty := .int) (N := 4) (f := fun j => .int (tab_1 j)) (A := fun q : Nat => s.heap.size ≤ q) (by decide) (hfl (Cond.arrayOf (Term.static "MachineLoop" "SETTING_LEAST" "[I") .int) (by decide +kernel)) (va_eqt (hfl (Cond.eq (.length (Term.static "MachineLoop" "SETTING_LEAST" "[I")) (.int 4)) (by decide +kernel))) (fun j hj => by
    rcases (show j = 0 ∨ j = 1 ∨ j = 2 ∨ j = 3 by omega) with rfl | rfl | rfl | rfl
    · exact va_eqt (hfl (Cond.eq (.elem (Term.static "MachineLoop" "SETTING_LEAST" "[I") (.int 0)) (.int 0)) (by decide +kernel))
    · exact va_eqt (hfl (Cond.eq (.elem (Term.static "MachineLoop" "SETTING_LEAST" "[I") (.int 1)) (.int 1)) (by decide +kernel))
    · exact va_eqt (hfl (Cond.eq (.elem (Term.static "MachineLoop" "SETTING_LEAST" "[I") (.int 2)) (.int 0)) (by decide +kernel))
    · exact va_eqt (hfl (Cond.eq (.elem (Term.static "MachineLoop" "SETTING_LEAST" "[I") (.int 3)) (.int 0)) (by decide +kernel))) hA
  have hZ1 := va_Zof (A := fun q : Nat => s.heap.size ≤ q) (hts0 (.laysStatic "MachineLoop" "SETTING_LEAST" "[I") (List.mem_of_getElem? (i := 437) (by decide +kernel))) (hts _ lk_646) hv1 hA
  obtain ⟨t2, hv2, hT2⟩ := va_Tof (args := #[Value.ref b]) (s := s) (tm := (Term.static "MachineLoop" "SETTING_MOST" "[I")) (ty := .int) (N := 4) (f := fun j => .int (tab_2 j)) (A := fun q : Nat => s.heap.size ≤ q) (by decide) (hfl (Cond.arrayOf (Term.static "MachineLoop" "SETTING_MOST" "[I") .int) (by decide +kernel)) (va_eqt (hfl (Cond.eq (.length (Term.static "MachineLoop" "SETTING_MOST" "[I")) (.int 4)) (by decide +kernel))) (fun j hj => by
    rcases (show j = 0 ∨ j = 1 ∨ j = 2 ∨ j = 3 by omega) with rfl | rfl | rfl | rfl
    · exact va_eqt (hfl (Cond.eq (.elem (Term.static "MachineLoop" "SETTING_MOST" "[I") (.int 0)) (.int 3)) (by decide +kernel))
    · exact va_eqt (hfl (Cond.eq (.elem (Term.static "MachineLoop" "SETTING_MOST" "[I") (.int 1)) (.int 9)) (by decide +kernel))
    · exact va_eqt (hfl (Cond.eq (.elem (Term.static "MachineLoop" "SETTING_MOST" "[I") (.int 2)) (.int 1)) (by decide +kernel))
    · exact va_eqt (hfl (Cond.eq (.elem (Term.static "MachineLoop" "SETTING_MOST" "[I") (.int 3)) (.int 1)) (by decide +kernel))) hA
  have hZ2 := va_Zof (A := fun q : Nat => s.heap.size ≤ q) (hts0 (.laysStatic "MachineLoop" "SETTING_MOST" "[I") (List.mem_of_getElem? (i := 439) (by decide +kernel))) (hts _ lk_646) hv2 hA
  obtain ⟨dC, dI, hKc⟩ : ∃ (dC : Nat → ClassId) (dI : Nat → Nat → Nat), ∀ (k : Nat) (q : vw_C), classes[k]? = some q → u_Kn s q.1 q.2.1 q.2.2 (dC k) (dI k) := by
    refine ⟨fun k => if k = 0 then c0 else if k = 1 then c1 else if k = 2 then c2 else if k = 3 then c3 else if k = 4 then c4 else if k = 5 then c5 else if k = 6 then c6 else if k = 7 then c7 else if k = 8 then c8 else if k = 9 then c9 else c10, fun k => if k = 0 then iS0 else if k = 1 then iS1 else if k = 2 then iS2 else if k = 3 then iS3 else if k = 4 then iS4 else if k = 5 then iS5 else if k = 6 then iS6 else if k = 7 then iS7 else if k = 8 then iS8 else if k = 9 then iS9 else iS10, ?_⟩
    intro k q hq
    match k, hq with
    | 0, hq => cases hq; exact hKn0
    | 1, hq => cases hq; exact hKn1
    | 2, hq => cases hq; exact hKn2
    | 3, hq => cases hq; exact hKn3
    | 4, hq => cases hq; exact hKn4
    | 5, hq => cases hq; exact hKn5
    | 6, hq => cases hq; exact hKn6
    | 7, hq => cases hq; exact hKn7
    | 8, hq => cases hq; exact hKn8
    | 9, hq => cases hq; exact hKn9
    | 10, hq => cases hq; exact hKn10
    | k + 11, hq => simp [classes] at hq
  obtain ⟨dA, hd0, hd1, hd2, hd3, hd4, hd5⟩ : ∃ dA : Nat → ClassId, dA 0 = cA0 ∧ dA 1 = cA1 ∧ dA 2 = cA2 ∧ dA 3 = cA3 ∧ dA 4 = cA4 ∧ dA 5 = cA5 := ⟨fun k => if k = 0 then cA0 else if k = 1 then cA1 else if k = 2 then cA2 else if k = 3 then cA3 else if k = 4 then cA4 else cA5, rfl, rfl, rfl, rfl, rfl, rfl⟩
  have hK : va_K (dC, dI) classes (tys dA) s := by
    refine ⟨hKc, fun k q hq => ?_⟩
    match k, hq with
    | 0, hq => cases hq; show ArrOfT s (dA 0) _ ∧ va_RA s (dA 0) _; rw [hd0]; exact ⟨fun n z => ⟨(fun k h => by cases h), kA0, f3_0, comp0, f4_0⟩, kA0, comp0, f3_0, f4_0, f1_0, f5_0⟩
    | 1, hq => cases hq; show ArrOfT s (dA 1) _ ∧ va_RA s (dA 1) _; rw [hd1]; exact ⟨fun n z => ⟨(fun k h => by cases h), kA1, f2_1, comp1, f3_1⟩, f1_1⟩
    | 2, hq => cases hq; show ArrOfT s (dA 2) _ ∧ va_RA s (dA 2) _; rw [hd2]; exact ⟨fun n z => ⟨(fun k h => by cases h), kA2, f3_2, comp2, f4_2⟩, kA2, comp2, f3_2, f4_2, f1_2, f5_2⟩
    | 3, hq => cases hq; show ArrOfT s (dA 3) _ ∧ va_RA s (dA 3) _; rw [hd3]; exact ⟨fun n z => ⟨(fun k h => by cases h), kA3, f3_3, comp3, f4_3⟩, kA3, comp3, f3_3, f4_3, f1_3, f5_3⟩
    | 4, hq => cases hq; show ArrOfT s (dA 4) _ ∧ va_RA s (dA 4) _; rw [hd4]; exact ⟨fun n z => ⟨(fun k h => by cases h), kA4, f2_4, comp4, f3_4⟩, f1_4⟩
    | 5, hq => cases hq; show ArrOfT s (dA 5) _ ∧ va_RA s (dA 5) _; rw [hd5]; exact ⟨fun n z => ⟨(fun k h => by cases h), kA5, f2_5, comp5, f3_5⟩, f1_5⟩
    | k + 6, hq => simp [tys] at hq
  obtain ⟨st, hs0, hs1, hs2, hs99⟩ : ∃ st : Nat → Nat, st 0 = t0 ∧ st 1 = t1 ∧ st 2 = t2 ∧ st 99 = b := ⟨fun k => if k = 0 then t0 else if k = 1 then t1 else if k = 2 then t2 else b, rfl, rfl, rfl, rfl⟩
  subst hs0; subst hs1; subst hs2; subst hs99
  have hC : Cx ((dC, dI), dA, st, s.heap.size, L, xs) s := ⟨Nat.lt_of_le_of_lt (Nat.zero_le _) hbl, hK, Nat.le_refl _, hX, hbl, va_AO.of hao0, va_AO.of hao2, va_AO.of hao3, hZ0, hT0, hZ1, hT1, hZ2, hT2, va_Nw.of rfl (hts0 (.fieldLinkNest R_Device 18 "MachineLoop" "SETTING_AT_FIRST" "[I" "MachineLoop") (List.mem_of_getElem? (i := 75) (by decide +kernel))), va_Nw.of rfl (hts0 (.fieldLinkNest R_Device 21 "MachineLoop" "SETTING_LEAST" "[I" "MachineLoop") (List.mem_of_getElem? (i := 436) (by decide +kernel))), va_Nw.of rfl (hts0 (.fieldLinkNest R_Device 24 "MachineLoop" "SETTING_MOST" "[I" "MachineLoop") (List.mem_of_getElem? (i := 438) (by decide +kernel))), trivial⟩
  have hp : pic ((dC, dI), dA, st, s.heap.size, L, xs) m0 s.heap := ⟨[], fun a => by simp [m0, tg], fun k q h => by simp [va_pl] at h, ⟨fun i j p q h => by simp [va_pl] at h, fun k q h => by simp [va_pl] at h⟩⟩
  have E : En ((dC, dI), dA, st, s.heap.size, L, xs) R_Law b_Law_law 4 p s m #[Value.ref (st 99)] meth c := ⟨hx, hb, hml, hown, hts, hC, hlocks⟩
  have hl := lv_entry [.ref (st 99)] (n := 4) (by simp [lg_sl, cat_ref])
  rw [lg_entry_eq]
  generalize (lg_sl [Value.ref (st 99)] ++ List.replicate (4 - (lg_sl [Value.ref (st 99)]).length) Slot.unset).toArray = ls at hl ⊢
  have hl : lv_has ls 4 [(0, .ref (st 99))] := by simpa [lv_args, cat_ref] using hl
  exact t_Law_law_0 (G := ((dC, dI), dA, st, s.heap.size, L, xs)) (P := fun r _ => r = 1) E hr rfl (fun r m h => h) m0 _ _ _ 0 0 (by omega) (by omega) hwp hp va_S.rf hl
