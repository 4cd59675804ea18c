/-! THE CLASS: a new machine, a new object -/
def KM (m : Mm) (x d3 s4 k5 r6 v7 k8 f9 qs qh n13 na p15 u v w t n : Nat) (S Y H G : Nat → Nat) : Prop := tg m x = 2 ∧ tg m t = 13 ∧ ln m t = 4 ∧ gR m 2 0 x = d3 ∧ gR m 2 1 x = r6 ∧ gR m 2 2 x = f9 ∧ gR m 2 4 x = n13 ∧ gR m 2 5 x = p15 ∧ gR m 2 6 x = t ∧ gI m 2 3 x = nI n ∧ KD m d3 s4 k5 ∧ KR m r6 v7 k8 ∧ KG m f9 qs qh 8 S Y H G ∧ KN m n13 na ∧ KP m p15 u v w ∧ x ≠ 0 ∧ t ≠ 0
theorem KM.fr {m m' : Mm} {L : List Nat} {x d3 s4 k5 r6 v7 k8 f9 qs qh n13 na p15 u v w t n : Nat} {S Y H G : Nat → Nat} (h : KM m x d3 s4 k5 r6 v7 k8 f9 qs qh n13 na p15 u v w t n S Y H G) (e : Fr L m m') (hL : ∀ k ∈ [2, 3, 4, 5, 6, 7, 9, 10, 13, 14, 15, 16, 17, 18, 19, 20, 21, 22, 23, 26, 27], k ∉ L) : KM m' x d3 s4 k5 r6 v7 k8 f9 qs qh n13 na p15 u v w t n S Y H G := by
  obtain ⟨h0, h1, h2, h3, h4, h5, h6, h7, h8, h9, h10, h11, h12, h13, h14, h15, h16⟩ := h
  have gx := e.g h0 (by decide) (hL 2 (by decide))
  have gt := e.g h1 (by decide) (hL 13 (by decide))
  exact ⟨gx.1, gt.1, gt.2.1.trans h2, (gx.2.2.2.1 _ _).trans h3, (gx.2.2.2.1 _ _).trans h4, (gx.2.2.2.1 _ _).trans h5, (gx.2.2.2.1 _ _).trans h6, (gx.2.2.2.1 _ _).trans h7, (gx.2.2.2.1 _ _).trans h8, (gx.2.2.1 _ _).trans h9, h10.fr e (fun k hk => hL k (by revert k; decide)), h11.fr e (fun k hk => hL k (by revert k; decide)), h12.fr e (fun k hk => hL k (by revert k; decide)), h13.fr e (fun k hk => hL k (by revert k; decide)), h14.fr e (fun k hk => hL k (by revert k; decide)), h15, h16⟩
theorem c_Machine {m : Mm} {x : Nat} {vv : Int64} (hx : tg m x = 0) (hz : x ≠ 0) {P : Mm → Prop} (k : ∀ m' d3 s4 k5 r6 v7 k8 f9 qs qh n13 na p15 u v w tl S Y H G, Ex m m' → KM m' x d3 s4 k5 r6 v7 k8 f9 qs qh n13 na p15 u v w tl (stp vv) S Y H G → P m') : wp_Machine_init (nO m 2 x) x vv P := by
  unfold wp_Machine_init wp_Machine_init_0
  have E0 : Ex m (nO m 2 x) := (Ex.rf m).nO hx 2
  have X0 : tg (nO m 2 x) x = 2 := by rw [tg_nO, if_pos rfl]
  generalize nO m 2 x = m0 at E0 X0
  refine ⟨hz, ?_⟩
  refine fun d3 hd3 zd3 n1 e1 => ?_
  subst e1
  refine c_Device hd3 zd3 (fun m1 s4 k5 S1 KD_n => ?_)
  have E1 : Ex m m1 := E0.tr S1
  have G1 := S1.g X0 (by decide)
  have X1 := G1.1
  refine ⟨X1, fun m2 e2 => ?_⟩
  have E2 : Ex m m2 := by rw [e2]; exact E1.sR hx _ _ _
  have X2 : tg m2 x = 2 := by rw [e2]; exact X1
  have xR0_2 : gR m2 2 0 x = d3 := by rw [e2, gR_sR, if_pos ⟨rfl, rfl, rfl⟩]
  have F2 : Fr [2] m1 m2 := by rw [e2]; exact Fr.sR X1 (by decide) _ _ _
  have KD_2 := KD_n.fr F2 (by decide)
  clear e2
  refine fun r6 hr6 zr6 n3 e3 => ?_
  subst e3
  refine c_Resources hr6 zr6 (fun m3 v7 k8 S3 KR_n => ?_)
  have E3 : Ex m m3 := E2.tr S3
  have G3 := S3.g X2 (by decide)
  have X3 := G3.1
  have xR0_3 : gR m3 2 0 x = d3 := (G3.2.2.2.1 _ _).trans xR0_2
  have KD_3 := KD_2.fr (S3.fr []) (by decide)
  refine ⟨X3, fun m4 e4 => ?_⟩
  have E4 : Ex m m4 := by rw [e4]; exact E3.sR hx _ _ _
  have X4 : tg m4 x = 2 := by rw [e4]; exact X3
  have xR0_4 : gR m4 2 0 x = d3 := by rw [e4, gR_sR, if_neg (fun z => absurd z.2.1 (by decide))]; exact xR0_3
  have xR1_4 : gR m4 2 1 x = r6 := by rw [e4, gR_sR, if_pos ⟨rfl, rfl, rfl⟩]
  have F4 : Fr [2] m3 m4 := by rw [e4]; exact Fr.sR X3 (by decide) _ _ _
  have KD_4 := KD_3.fr F4 (by decide)
  have KR_4 := KR_n.fr F4 (by decide)
  clear e4
  refine fun f9 hf9 zf9 n5 e5 => ?_
  subst e5
  refine c_FileTree hf9 zf9 (fun m5 qs qh S Y H G S5 KG_n => ?_)
  have E5 : Ex m m5 := E4.tr S5
  have G5 := S5.g X4 (by decide)
  have X5 := G5.1
  have xR0_5 : gR m5 2 0 x = d3 := (G5.2.2.2.1 _ _).trans xR0_4
  have xR1_5 : gR m5 2 1 x = r6 := (G5.2.2.2.1 _ _).trans xR1_4
  have KD_5 := KD_4.fr (S5.fr []) (by decide)
  have KR_5 := KR_4.fr (S5.fr []) (by decide)
  refine ⟨X5, fun m6 e6 => ?_⟩
  have E6 : Ex m m6 := by rw [e6]; exact E5.sR hx _ _ _
  have X6 : tg m6 x = 2 := by rw [e6]; exact X5
  have xR0_6 : gR m6 2 0 x = d3 := by rw [e6, gR_sR, if_neg (fun z => absurd z.2.1 (by decide))]; exact xR0_5
  have xR1_6 : gR m6 2 1 x = r6 := by rw [e6, gR_sR, if_neg (fun z => absurd z.2.1 (by decide))]; exact xR1_5
  have xR2_6 : gR m6 2 2 x = f9 := by rw [e6, gR_sR, if_pos ⟨rfl, rfl, rfl⟩]
  have F6 : Fr [2] m5 m6 := by rw [e6]; exact Fr.sR X5 (by decide) _ _ _
  have KD_6 := KD_5.fr F6 (by decide)
  have KR_6 := KR_5.fr F6 (by decide)
  have KG_6 := KG_n.fr F6 (by decide)
  clear e6
  refine fun x26 e26 x27 e27 x28 e28 => ?_
  have e29 : x28 = nI (stp vv) := by rw [e28, e27, e26]; exact stp_c
  clear e28 e27 e26
  subst e29
  refine ⟨X6, fun m7 e7 => ?_⟩
  have E7 : Ex m m7 := by rw [e7]; exact E6.sI hx _ _ _
  have X7 : tg m7 x = 2 := by rw [e7]; exact X6
  have xR0_7 : gR m7 2 0 x = d3 := by rw [e7]; exact xR0_6
  have xR1_7 : gR m7 2 1 x = r6 := by rw [e7]; exact xR1_6
  have xR2_7 : gR m7 2 2 x = f9 := by rw [e7]; exact xR2_6
  have xI3_7 : gI m7 2 3 x = (nI (stp vv)) := by rw [e7, gI_sI, if_pos ⟨rfl, rfl, rfl⟩]
  have F7 : Fr [2] m6 m7 := by rw [e7]; exact Fr.sI X6 (by decide) _ _ _
  have KD_7 := KD_6.fr F7 (by decide)
  have KR_7 := KR_6.fr F7 (by decide)
  have KG_7 := KG_6.fr F7 (by decide)
  clear e7
  refine fun n13 hn13 zn13 n8 e8 => ?_
  subst e8
  refine c_Numbers hn13 zn13 (fun m8 na S8 KN_n _ => ?_)
  have E8 : Ex m m8 := E7.tr S8
  have G8 := S8.g X7 (by decide)
  have X8 := G8.1
  have xR0_8 : gR m8 2 0 x = d3 := (G8.2.2.2.1 _ _).trans xR0_7
  have xR1_8 : gR m8 2 1 x = r6 := (G8.2.2.2.1 _ _).trans xR1_7
  have xR2_8 : gR m8 2 2 x = f9 := (G8.2.2.2.1 _ _).trans xR2_7
  have xI3_8 : gI m8 2 3 x = (nI (stp vv)) := (G8.2.2.1 _ _).trans xI3_7
  have KD_8 := KD_7.fr (S8.fr []) (by decide)
  have KR_8 := KR_7.fr (S8.fr []) (by decide)
  have KG_8 := KG_7.fr (S8.fr []) (by decide)
  refine ⟨X8, fun m9 e9 => ?_⟩
  have E9 : Ex m m9 := by rw [e9]; exact E8.sR hx _ _ _
  have X9 : tg m9 x = 2 := by rw [e9]; exact X8
  have xR0_9 : gR m9 2 0 x = d3 := by rw [e9, gR_sR, if_neg (fun z => absurd z.2.1 (by decide))]; exact xR0_8
  have xR1_9 : gR m9 2 1 x = r6 := by rw [e9, gR_sR, if_neg (fun z => absurd z.2.1 (by decide))]; exact xR1_8
  have xR2_9 : gR m9 2 2 x = f9 := by rw [e9, gR_sR, if_neg (fun z => absurd z.2.1 (by decide))]; exact xR2_8
  have xI3_9 : gI m9 2 3 x = (nI (stp vv)) := by rw [e9]; exact xI3_8
  have xR4_9 : gR m9 2 4 x = n13 := by rw [e9, gR_sR, if_pos ⟨rfl, rfl, rfl⟩]
  have F9 : Fr [2] m8 m9 := by rw [e9]; exact Fr.sR X8 (by decide) _ _ _
  have KD_9 := KD_8.fr F9 (by decide)
  have KR_9 := KR_8.fr F9 (by decide)
  have KG_9 := KG_8.fr F9 (by decide)
  have KN_9 := KN_n.fr F9 (by decide)
  clear e9
  refine fun p15 hp15 zp15 n10 e10 => ?_
  subst e10
  refine c_Plan hp15 zp15 (fun m10 u v w S10 KP_n => ?_)
  have E10 : Ex m m10 := E9.tr S10
  have G10 := S10.g X9 (by decide)
  have X10 := G10.1
  have xR0_10 : gR m10 2 0 x = d3 := (G10.2.2.2.1 _ _).trans xR0_9
  have xR1_10 : gR m10 2 1 x = r6 := (G10.2.2.2.1 _ _).trans xR1_9
  have xR2_10 : gR m10 2 2 x = f9 := (G10.2.2.2.1 _ _).trans xR2_9
  have xI3_10 : gI m10 2 3 x = (nI (stp vv)) := (G10.2.2.1 _ _).trans xI3_9
  have xR4_10 : gR m10 2 4 x = n13 := (G10.2.2.2.1 _ _).trans xR4_9
  have KD_10 := KD_9.fr (S10.fr []) (by decide)
  have KR_10 := KR_9.fr (S10.fr []) (by decide)
  have KG_10 := KG_9.fr (S10.fr []) (by decide)
  have KN_10 := KN_9.fr (S10.fr []) (by decide)
  refine ⟨X10, fun m11 e11 => ?_⟩
  have E11 : Ex m m11 := by rw [e11]; exact E10.sR hx _ _ _
  have X11 : tg m11 x = 2 := by rw [e11]; exact X10
  have xR0_11 : gR m11 2 0 x = d3 := by rw [e11, gR_sR, if_neg (fun z => absurd z.2.1 (by decide))]; exact xR0_10
  have xR1_11 : gR m11 2 1 x = r6 := by rw [e11, gR_sR, if_neg (fun z => absurd z.2.1 (by decide))]; exact xR1_10
  have xR2_11 : gR m11 2 2 x = f9 := by rw [e11, gR_sR, if_neg (fun z => absurd z.2.1 (by decide))]; exact xR2_10
  have xI3_11 : gI m11 2 3 x = (nI (stp vv)) := by rw [e11]; exact xI3_10
  have xR4_11 : gR m11 2 4 x = n13 := by rw [e11, gR_sR, if_neg (fun z => absurd z.2.1 (by decide))]; exact xR4_10
  have xR5_11 : gR m11 2 5 x = p15 := by rw [e11, gR_sR, if_pos ⟨rfl, rfl, rfl⟩]
  have F11 : Fr [2] m10 m11 := by rw [e11]; exact Fr.sR X10 (by decide) _ _ _
  have KD_11 := KD_10.fr F11 (by decide)
  have KR_11 := KR_10.fr F11 (by decide)
  have KG_11 := KG_10.fr F11 (by decide)
  have KN_11 := KN_10.fr F11 (by decide)
  have KP_11 := KP_n.fr F11 (by decide)
  clear e11
  refine fun tl htl ztl m12 e12 => ?_
  have S12 : Ex m11 m12 := by rw [e12]; exact (Ex.rf _).nA htl 13 4
  have btl : tg m tl = 0 := E11.z htl
  have E12 : Ex m m12 := E11.tr S12
  have G12 := S12.g X11 (by decide)
  have X12 := G12.1
  have xR0_12 : gR m12 2 0 x = d3 := (G12.2.2.2.1 _ _).trans xR0_11
  have xR1_12 : gR m12 2 1 x = r6 := (G12.2.2.2.1 _ _).trans xR1_11
  have xR2_12 : gR m12 2 2 x = f9 := (G12.2.2.2.1 _ _).trans xR2_11
  have xI3_12 : gI m12 2 3 x = (nI (stp vv)) := (G12.2.2.1 _ _).trans xI3_11
  have xR4_12 : gR m12 2 4 x = n13 := (G12.2.2.2.1 _ _).trans xR4_11
  have xR5_12 : gR m12 2 5 x = p15 := (G12.2.2.2.1 _ _).trans xR5_11
  have KD_12 := KD_11.fr (S12.fr []) (by decide)
  have KR_12 := KR_11.fr (S12.fr []) (by decide)
  have KG_12 := KG_11.fr (S12.fr []) (by decide)
  have KN_12 := KN_11.fr (S12.fr []) (by decide)
  have KP_12 := KP_11.fr (S12.fr []) (by decide)
  have ttl12 : tg m12 tl = 13 := by rw [e12, tg_nA, if_pos rfl]
  have ltl12 : ln m12 tl = 4 := by rw [e12, ln_nA, if_pos rfl]
  clear e12
  refine ⟨X12, fun m13 e13 => ?_⟩
  have E13 : Ex m m13 := by rw [e13]; exact E12.sR hx _ _ _
  have X13 : tg m13 x = 2 := by rw [e13]; exact X12
  have xR0_13 : gR m13 2 0 x = d3 := by rw [e13, gR_sR, if_neg (fun z => absurd z.2.1 (by decide))]; exact xR0_12
  have xR1_13 : gR m13 2 1 x = r6 := by rw [e13, gR_sR, if_neg (fun z => absurd z.2.1 (by decide))]; exact xR1_12
  have xR2_13 : gR m13 2 2 x = f9 := by rw [e13, gR_sR, if_neg (fun z => absurd z.2.1 (by decide))]; exact xR2_12
  have xI3_13 : gI m13 2 3 x = (nI (stp vv)) := by rw [e13]; exact xI3_12
  have xR4_13 : gR m13 2 4 x = n13 := by rw [e13, gR_sR, if_neg (fun z => absurd z.2.1 (by decide))]; exact xR4_12
  have xR5_13 : gR m13 2 5 x = p15 := by rw [e13, gR_sR, if_neg (fun z => absurd z.2.1 (by decide))]; exact xR5_12
  have xR6_13 : gR m13 2 6 x = tl := by rw [e13, gR_sR, if_pos ⟨rfl, rfl, rfl⟩]
  have ttl13 : tg m13 tl = 13 := by rw [e13]; exact ttl12
  have ltl13 : ln m13 tl = 4 := by rw [e13]; exact ltl12
  have F13 : Fr [2] m12 m13 := by rw [e13]; exact Fr.sR X12 (by decide) _ _ _
  have KD_13 := KD_12.fr F13 (by decide)
  have KR_13 := KR_12.fr F13 (by decide)
  have KG_13 := KG_12.fr F13 (by decide)
  have KN_13 := KN_12.fr F13 (by decide)
  have KP_13 := KP_12.fr F13 (by decide)
  clear e13
  refine ⟨X13, fun m14 e14 => ?_⟩
  have E14 : Ex m m14 := by rw [e14]; exact E13.sI hx _ _ _
  have X14 : tg m14 x = 2 := by rw [e14]; exact X13
  have xR0_14 : gR m14 2 0 x = d3 := by rw [e14]; exact xR0_13
  have xR1_14 : gR m14 2 1 x = r6 := by rw [e14]; exact xR1_13
  have xR2_14 : gR m14 2 2 x = f9 := by rw [e14]; exact xR2_13
  have xI3_14 : gI m14 2 3 x = (nI (stp vv)) := by rw [e14, gI_sI, if_neg (fun z => absurd z.2.1 (by decide))]; exact xI3_13
  have xR4_14 : gR m14 2 4 x = n13 := by rw [e14]; exact xR4_13
  have xR5_14 : gR m14 2 5 x = p15 := by rw [e14]; exact xR5_13
  have xR6_14 : gR m14 2 6 x = tl := by rw [e14]; exact xR6_13
  have xI7_14 : gI m14 2 7 x = 0 := by rw [e14, gI_sI, if_pos ⟨rfl, rfl, rfl⟩]
  have ttl14 : tg m14 tl = 13 := by rw [e14]; exact ttl13
  have ltl14 : ln m14 tl = 4 := by rw [e14]; exact ltl13
  have F14 : Fr [2] m13 m14 := by rw [e14]; exact Fr.sI X13 (by decide) _ _ _
  have KD_14 := KD_13.fr F14 (by decide)
  have KR_14 := KR_13.fr F14 (by decide)
  have KG_14 := KG_13.fr F14 (by decide)
  have KN_14 := KN_13.fr F14 (by decide)
  have KP_14 := KP_13.fr F14 (by decide)
  clear e14
  refine ⟨X14, fun m15 e15 => ?_⟩
  have E15 : Ex m m15 := by rw [e15]; exact E14.sI hx _ _ _
  have X15 : tg m15 x = 2 := by rw [e15]; exact X14
  have xR0_15 : gR m15 2 0 x = d3 := by rw [e15]; exact xR0_14
  have xR1_15 : gR m15 2 1 x = r6 := by rw [e15]; exact xR1_14
  have xR2_15 : gR m15 2 2 x = f9 := by rw [e15]; exact xR2_14
  have xI3_15 : gI m15 2 3 x = (nI (stp vv)) := by rw [e15, gI_sI, if_neg (fun z => absurd z.2.1 (by decide))]; exact xI3_14
  have xR4_15 : gR m15 2 4 x = n13 := by rw [e15]; exact xR4_14
  have xR5_15 : gR m15 2 5 x = p15 := by rw [e15]; exact xR5_14
  have xR6_15 : gR m15 2 6 x = tl := by rw [e15]; exact xR6_14
  have xI7_15 : gI m15 2 7 x = 0 := by rw [e15, gI_sI, if_neg (fun z => absurd z.2.1 (by decide))]; exact xI7_14
  have xI8_15 : gI m15 2 8 x = 0 := by rw [e15, gI_sI, if_pos ⟨rfl, rfl, rfl⟩]
  have ttl15 : tg m15 tl = 13 := by rw [e15]; exact ttl14
  have ltl15 : ln m15 tl = 4 := by rw [e15]; exact ltl14
  have F15 : Fr [2] m14 m15 := by rw [e15]; exact Fr.sI X14 (by decide) _ _ _
  have KD_15 := KD_14.fr F15 (by decide)
  have KR_15 := KR_14.fr F15 (by decide)
  have KG_15 := KG_14.fr F15 (by decide)
  have KN_15 := KN_14.fr F15 (by decide)
  have KP_15 := KP_14.fr F15 (by decide)
  clear e15
  refine ⟨X15, fun m16 e16 => ?_⟩
  have E16 : Ex m m16 := by rw [e16]; exact E15.sI hx _ _ _
  have X16 : tg m16 x = 2 := by rw [e16]; exact X15
  have xR0_16 : gR m16 2 0 x = d3 := by rw [e16]; exact xR0_15
  have xR1_16 : gR m16 2 1 x = r6 := by rw [e16]; exact xR1_15
  have xR2_16 : gR m16 2 2 x = f9 := by rw [e16]; exact xR2_15
  have xI3_16 : gI m16 2 3 x = (nI (stp vv)) := by rw [e16, gI_sI, if_neg (fun z => absurd z.2.1 (by decide))]; exact xI3_15
  have xR4_16 : gR m16 2 4 x = n13 := by rw [e16]; exact xR4_15
  have xR5_16 : gR m16 2 5 x = p15 := by rw [e16]; exact xR5_15
  have xR6_16 : gR m16 2 6 x = tl := by rw [e16]; exact xR6_15
  have xI7_16 : gI m16 2 7 x = 0 := by rw [e16, gI_sI, if_neg (fun z => absurd z.2.1 (by decide))]; exact xI7_15
  have xI8_16 : gI m16 2 8 x = 0 := by rw [e16, gI_sI, if_neg (fun z => absurd z.2.1 (by decide))]; exact xI8_15
  have xI9_16 : gI m16 2 9 x = 0 := by rw [e16, gI_sI, if_pos ⟨rfl, rfl, rfl⟩]
  have ttl16 : tg m16 tl = 13 := by rw [e16]; exact ttl15
  have ltl16 : ln m16 tl = 4 := by rw [e16]; exact ltl15
  have F16 : Fr [2] m15 m16 := by rw [e16]; exact Fr.sI X15 (by decide) _ _ _
  have KD_16 := KD_15.fr F16 (by decide)
  have KR_16 := KR_15.fr F16 (by decide)
  have KG_16 := KG_15.fr F16 (by decide)
  have KN_16 := KN_15.fr F16 (by decide)
  have KP_16 := KP_15.fr F16 (by decide)
  clear e16
  exact k m16 d3 s4 k5 r6 v7 k8 f9 qs qh n13 na p15 u v w tl S Y H G E16 ⟨X16, ttl16, ltl16, xR0_16, xR1_16, xR2_16, xR4_16, xR5_16, xR6_16, xI3_16, KD_16, KR_16, KG_16, KN_16, KP_16, hz, ztl⟩
/-- the addresses of a new object -/
def mkA (l : List Nat) (S Y H G : Nat → Nat) (x : Nat) : Nat := if x = 11 then S 10 else if x = 20 then Y 10 else if x < 30 then l.getD x 0 else if x < 40 then S (x - 30) else if x < 50 then Y (x - 40) else if x < 60 then H (x - 50) else G (x - 60)
theorem mkA_S {l : List Nat} {S Y H G : Nat → Nat} {i : Nat} (h : i < 10) : mkA l S Y H G (30 + i) = S i := by
  unfold mkA
  rw [if_neg (by omega), if_neg (by omega), if_neg (by omega), if_pos (by omega), Nat.add_sub_cancel_left]
theorem mkA_Y {l : List Nat} {S Y H G : Nat → Nat} {i : Nat} (h : i < 10) : mkA l S Y H G (40 + i) = Y i := by
  unfold mkA
  rw [if_neg (by omega), if_neg (by omega), if_neg (by omega), if_neg (by omega), if_pos (by omega), Nat.add_sub_cancel_left]
theorem mkA_H {l : List Nat} {S Y H G : Nat → Nat} {i : Nat} (h : i < 10) : mkA l S Y H G (50 + i) = H i := by
  unfold mkA
  rw [if_neg (by omega), if_neg (by omega), if_neg (by omega), if_neg (by omega), if_neg (by omega), if_pos (by omega), Nat.add_sub_cancel_left]
theorem mkA_G {l : List Nat} {S Y H G : Nat → Nat} {i : Nat} (h : i < 10) : mkA l S Y H G (60 + i) = G i := by
  unfold mkA
  rw [if_neg (by omega), if_neg (by omega), if_neg (by omega), if_neg (by omega), if_neg (by omega), if_neg (by omega), Nat.add_sub_cancel_left]
/-- the kinds of the addresses -/
def kA (x : Nat) : Nat := if x < 30 then [1, 12, 2, 3, 14, 15, 4, 16, 17, 5, 18, 9, 19, 6, 20, 7, 21, 22, 23, 13, 26].getD x 0 else if x < 40 then 9 else if x < 50 then 26 else if x < 60 then 10 else 27
def bA (x : Nat) : Bool := decide (x ≤ 20 ∨ (30 ≤ x ∧ x < 50) ∨ (51 ≤ x ∧ x < 58) ∨ (61 ≤ x ∧ x < 68))
def gr (x : Nat) : Nat := if x = 11 ∨ (30 ≤ x ∧ x < 40) then 1 else if x = 20 ∨ (40 ≤ x ∧ x < 50) then 2 else if 51 ≤ x ∧ x < 58 then 3 else if 61 ≤ x ∧ x < 68 then 4 else 0
theorem gr_s (x : Nat) : (gr x = 1 ∧ (x = 11 ∨ (30 ≤ x ∧ x < 40))) ∨ (gr x = 2 ∧ (x = 20 ∨ (40 ≤ x ∧ x < 50))) ∨ (gr x = 3 ∧ 51 ≤ x ∧ x < 58) ∨ (gr x = 4 ∧ 61 ≤ x ∧ x < 68) ∨ gr x = 0 := by
  unfold gr
  (repeat' split) <;> omega
def cA (x y : Nat) : Bool := if bA x then (if bA y then (if kA x = kA y then decide (x = y ∨ (gr x = gr y ∧ gr x ≠ 0)) else true) else true) else true
theorem kA_c : (List.range 68).all (fun x => (List.range 68).all (fun y => cA x y)) = true := by decide +kernel
theorem kA_b (x : Nat) (hx : x < 68) (y : Nat) (hy : y < 68) (bx : bA x = true) (b2 : bA y = true) (e : kA x = kA y) : x = y ∨ (gr x = gr y ∧ gr x ≠ 0) := by
  have h := List.all_eq_true.mp (List.all_eq_true.mp kA_c x (List.mem_range.mpr hx)) y (List.mem_range.mpr hy)
  unfold cA at h
  rw [if_pos bx, if_pos b2, if_pos e] at h
  exact of_decide_eq_true h
theorem kA_inj : ∀ x < 68, ∀ y < 68, dmA 0 x → dmA 0 y → kA x = kA y → x = y ∨ ((x = 11 ∨ 30 ≤ x ∧ x < 40) ∧ (y = 11 ∨ 30 ≤ y ∧ y < 40)) ∨ ((x = 20 ∨ 40 ≤ x ∧ x < 50) ∧ (y = 20 ∨ 40 ≤ y ∧ y < 50)) ∨ ((51 ≤ x ∧ x < 58) ∧ (51 ≤ y ∧ y < 58)) ∨ ((61 ≤ x ∧ x < 68) ∧ (61 ≤ y ∧ y < 68)) := by
  intro x hx y hy dx dy e
  have gx := gr_s x
  have gy := gr_s y
  rcases kA_b x hx y hy (decide_eq_true (by unfold dmA at dx; omega)) (decide_eq_true (by unfold dmA at dy; omega)) e with h | ⟨h1, h2⟩
  · exact Or.inl h
  · omega
theorem RC_new {m : Mm} {x q y d3 s4 k5 r6 v7 k8 f9 qs qh n13 na p15 u v w t n : Nat} {S Y H G : Nat → Nat} (hn : n ≤ 20000) (tx : tg m x = 1) (zx : x ≠ 0) (tq : tg m q = 12) (lq : ln m q = 20) (zq : q ≠ 0) (r0 : gR m 1 0 x = q) (r1 : gR m 1 1 x = y) (i2 : gI m 1 2 x = 0) (i3 : gI m 1 3 x = 0) (K : KM m y d3 s4 k5 r6 v7 k8 f9 qs qh n13 na p15 u v w t n S Y H G) : RC0 m (mkA [x, q, y, d3, s4, k5, r6, v7, k8, f9, qs, 0, qh, n13, na, p15, u, v, w, t] S Y H G) (s0 n) := by
  obtain ⟨K1, K2, K3, K4, K5, K6, K7, K8, K9, K10, KD', KR', KG', KN', KP', zy, zt⟩ := K
  obtain ⟨d1, d2, d3', d4, d5, d6, d7, d8, d9, d10, d11⟩ := KD'
  obtain ⟨e1, e2, e3, e4, e5, e6, e7, e8, e9, e10, e11⟩ := KR'
  obtain ⟨g1, g2, g3, g4, g5, g6, g7, g8, g9, g10, g11, g12, g13, g14, g15⟩ := KG'
  obtain ⟨a1, a2, a3, a4, a5, a6⟩ := KN'
  obtain ⟨p1, p2, p3, p4, p5, p6, p7, p8, p9, p10, p11, p12, p13, p14⟩ := KP'
  generalize hA : mkA [x, q, y, d3, s4, k5, r6, v7, k8, f9, qs, 0, qh, n13, na, p15, u, v, w, t] S Y H G = A
  have aS : ∀ i, i < 10 → A (30 + i) = S i := fun i hi => by rw [← hA]; exact mkA_S hi
  have aY : ∀ i, i < 10 → A (40 + i) = Y i := fun i hi => by rw [← hA]; exact mkA_Y hi
  have aH : ∀ i, i < 8 → A (50 + i) = H i := fun i hi => by rw [← hA]; exact mkA_H (by omega)
  have aG : ∀ i, i < 8 → A (60 + i) = G i := fun i hi => by rw [← hA]; exact mkA_G (by omega)
  have A0 : A 0 = x := by rw [← hA]; rfl
  have A1 : A 1 = q := by rw [← hA]; rfl
  have A2 : A 2 = y := by rw [← hA]; rfl
  have A3 : A 3 = d3 := by rw [← hA]; rfl
  have A4 : A 4 = s4 := by rw [← hA]; rfl
  have A5 : A 5 = k5 := by rw [← hA]; rfl
  have A6 : A 6 = r6 := by rw [← hA]; rfl
  have A7 : A 7 = v7 := by rw [← hA]; rfl
  have A8 : A 8 = k8 := by rw [← hA]; rfl
  have A9 : A 9 = f9 := by rw [← hA]; rfl
  have A10 : A 10 = qs := by rw [← hA]; rfl
  have A11 : A 11 = S 10 := by rw [← hA]; rfl
  have A12 : A 12 = qh := by rw [← hA]; rfl
  have A13 : A 13 = n13 := by rw [← hA]; rfl
  have A14 : A 14 = na := by rw [← hA]; rfl
  have A15 : A 15 = p15 := by rw [← hA]; rfl
  have A16 : A 16 = u := by rw [← hA]; rfl
  have A17 : A 17 = v := by rw [← hA]; rfl
  have A18 : A 18 = w := by rw [← hA]; rfl
  have A19 : A 19 = t := by rw [← hA]; rfl
  have A20 : A 20 = Y 10 := by rw [← hA]; rfl
  clear hA
  have o10 := g11.1 10 (by decide)
  have k10 : KS m (A 11) (A 20) 400 := by rw [A11, A20]; exact o10
  have kS : ∀ i, i < 10 → KS m (A (30 + i)) (A (40 + i)) 100 := fun i hi => by
    rw [aS i hi, aY i hi]
    have := g11.1 i (by omega)
    rw [show nB i = 100 from if_neg (by omega)] at this
    exact this
  have kH : ∀ i, 1 ≤ i → i < 8 → KH m (A (50 + i)) (A (60 + i)) (if i = 1 then S 10 else 0) (if i = 1 then 1 else 0) := fun i h1 hi => by
    rw [aH i hi, aG i hi]
    exact g12.1 i h1 hi
  have kin : ∀ z, dmA 0 z → tg m (A z) = kA z := fun z hz => by
    rcases hz with h | h | h | h | h | h | h
    · rcases (show z = 0 ∨ z = 1 ∨ z = 2 ∨ z = 3 ∨ z = 4 ∨ z = 5 ∨ z = 6 ∨ z = 7 ∨ z = 8 ∨ z = 9 ∨ z = 10 ∨ z = 11 ∨ z = 12 ∨ z = 13 ∨ z = 14 ∨ z = 15 ∨ z = 16 ∨ z = 17 ∨ z = 18 ∨ z = 19 ∨ z = 20 by omega) with rfl | rfl | rfl | rfl | rfl | rfl | rfl | rfl | rfl | rfl | rfl | rfl | rfl | rfl | rfl | rfl | rfl | rfl | rfl | rfl | rfl
      · rw [A0]; exact tx
      · rw [A1]; exact tq
      · rw [A2]; exact K1
      · rw [A3]; exact d1
      · rw [A4]; exact d2
      · rw [A5]; exact d3'
      · rw [A6]; exact e1
      · rw [A7]; exact e2
      · rw [A8]; exact e3
      · rw [A9]; exact g1
      · rw [A10]; exact g2
      · rw [A11]; exact o10.1
      · rw [A12]; exact g3
      · rw [A13]; exact a1
      · rw [A14]; exact a2
      · rw [A15]; exact p1
      · rw [A16]; exact p2
      · rw [A17]; exact p3
      · rw [A18]; exact p4
      · rw [A19]; exact K2
      · rw [A20]; exact o10.2.1
    · by_cases e : z < 40
      · obtain ⟨i, rfl⟩ : ∃ i, z = 30 + i := ⟨z - 30, by omega⟩
        rw [(kS i (by omega)).1]
        unfold kA
        rw [if_neg (by omega), if_pos e]
      · obtain ⟨i, rfl⟩ : ∃ i, z = 40 + i := ⟨z - 40, by omega⟩
        rw [(kS i (by omega)).2.1]
        unfold kA
        rw [if_neg (by omega), if_neg e, if_pos (by omega)]
    · obtain ⟨i, rfl⟩ : ∃ i, z = 50 + i := ⟨z - 50, by omega⟩
      rw [(kH i (by omega) (by omega)).1]
      unfold kA
      rw [if_neg (by omega), if_neg (by omega), if_neg (by omega), if_pos (by omega)]
    · obtain ⟨i, rfl⟩ : ∃ i, z = 60 + i := ⟨z - 60, by omega⟩
      rw [(kH i (by omega) (by omega)).2.1]
      unfold kA
      rw [if_neg (by omega), if_neg (by omega), if_neg (by omega), if_neg (by omega)]
    · omega
    · omega
    · omega
  have nz : ∀ z, dmA 0 z → A z ≠ 0 := fun z hz => by
    rcases hz with h | h | h | h | h | h | h
    · rcases (show z = 0 ∨ z = 1 ∨ z = 2 ∨ z = 3 ∨ z = 4 ∨ z = 5 ∨ z = 6 ∨ z = 7 ∨ z = 8 ∨ z = 9 ∨ z = 10 ∨ z = 11 ∨ z = 12 ∨ z = 13 ∨ z = 14 ∨ z = 15 ∨ z = 16 ∨ z = 17 ∨ z = 18 ∨ z = 19 ∨ z = 20 by omega) with rfl | rfl | rfl | rfl | rfl | rfl | rfl | rfl | rfl | rfl | rfl | rfl | rfl | rfl | rfl | rfl | rfl | rfl | rfl | rfl | rfl
      · rw [A0]; exact zx
      · rw [A1]; exact zq
      · rw [A2]; exact zy
      · rw [A3]; exact d9
      · rw [A4]; exact d10
      · rw [A5]; exact d11
      · rw [A6]; exact e9
      · rw [A7]; exact e10
      · rw [A8]; exact e11
      · rw [A9]; exact g13
      · rw [A10]; exact g14
      · rw [A11]; exact o10.2.2.2.2.2.2.2.1
      · rw [A12]; exact g15
      · rw [A13]; exact a5
      · rw [A14]; exact a6
      · rw [A15]; exact p11
      · rw [A16]; exact p12
      · rw [A17]; exact p13
      · rw [A18]; exact p14
      · rw [A19]; exact zt
      · rw [A20]; exact o10.2.2.2.2.2.2.2.2
    · by_cases e : z < 40
      · obtain ⟨i, rfl⟩ : ∃ i, z = 30 + i := ⟨z - 30, by omega⟩
        exact (kS i (by omega)).2.2.2.2.2.2.2.1
      · obtain ⟨i, rfl⟩ : ∃ i, z = 40 + i := ⟨z - 40, by omega⟩
        exact (kS i (by omega)).2.2.2.2.2.2.2.2
    · obtain ⟨i, rfl⟩ : ∃ i, z = 50 + i := ⟨z - 50, by omega⟩
      exact (kH i (by omega) (by omega)).2.2.2.2.2.2.2.2.2.2.1
    · obtain ⟨i, rfl⟩ : ∃ i, z = 60 + i := ⟨z - 60, by omega⟩
      exact (kH i (by omega) (by omega)).2.2.2.2.2.2.2.2.2.2.2
    · omega
    · omega
    · omega
  have inj : ∀ z z', dmA 0 z → dmA 0 z' → A z = A z' → z = z' := fun z z' hz hz' e => by
    have ek : kA z = kA z' := by rw [← kin z hz, ← kin z' hz', e]
    rcases kA_inj z (by unfold dmA at hz; omega) z' (by unfold dmA at hz'; omega) hz hz' ek with q | ⟨q1, q2⟩ | ⟨q1, q2⟩ | ⟨q1, q2⟩ | ⟨q1, q2⟩
    · exact q
    · have f : ∀ z, (z = 11 ∨ 30 ≤ z ∧ z < 40) → ∃ i, i < 11 ∧ A z = S i ∧ z = (if i = 10 then 11 else 30 + i) := fun z h => by
        rcases h with rfl | h
        · exact ⟨10, by decide, A11, rfl⟩
        · refine ⟨z - 30, by omega, ?_, ?_⟩
          · have := aS (z - 30) (by omega)
            rw [show 30 + (z - 30) = z by omega] at this
            exact this
          · rw [if_neg (by omega)]; omega
      obtain ⟨i, hi, ei, zi⟩ := f z q1
      obtain ⟨j, hj, ej, zj⟩ := f z' q2
      have := g11.2.1 i j hi hj (by rw [← ei, ← ej, e])
      rw [zi, zj, this]
    · have f : ∀ z, (z = 20 ∨ 40 ≤ z ∧ z < 50) → ∃ i, i < 11 ∧ A z = Y i ∧ z = (if i = 10 then 20 else 40 + i) := fun z h => by
        rcases h with rfl | h
        · exact ⟨10, by decide, A20, rfl⟩
        · refine ⟨z - 40, by omega, ?_, ?_⟩
          · have := aY (z - 40) (by omega)
            rw [show 40 + (z - 40) = z by omega] at this
            exact this
          · rw [if_neg (by omega)]; omega
      obtain ⟨i, hi, ei, zi⟩ := f z q1
      obtain ⟨j, hj, ej, zj⟩ := f z' q2
      have := g11.2.2 i j hi hj (by rw [← ei, ← ej, e])
      rw [zi, zj, this]
    · obtain ⟨i, rfl⟩ : ∃ i, z = 50 + i := ⟨z - 50, by omega⟩
      obtain ⟨j, rfl⟩ : ∃ j, z' = 50 + j := ⟨z' - 50, by omega⟩
      rw [aH i (by omega), aH j (by omega)] at e
      rw [g12.2.1 i j (by omega) (by omega) (by omega) (by omega) e]
    · obtain ⟨i, rfl⟩ : ∃ i, z = 60 + i := ⟨z - 60, by omega⟩
      obtain ⟨j, rfl⟩ : ∃ j, z' = 60 + j := ⟨z' - 60, by omega⟩
      rw [aG i (by omega), aG j (by omega)] at e
      rw [g12.2.2 i j (by omega) (by omega) (by omega) (by omega) e]
  have shf : ShF m A := by
    unfold ShF
    rw [A0, A1, A2, A3, A4, A5, A6, A7, A8, A9, A10, A11, A12, A13, A14, A15, A16, A17, A18, A19, A20]
    exact ⟨tx, tq, K1, d1, d2, d3', e1, e2, e3, g1, g2, o10.1, g3, a1, a2, p1, p2, p3, p4, K2, o10.2.1, lq, d4, d5, e4, e5, g4, g5, a3, p5, p6, p7, K3, o10.2.2.1, r0, r1, K4, K5, K6, K7, K8, K9, d6, d7, e6, e7, g6, g7, g8, a4, p8, p9, p10, o10.2.2.2.1⟩
  refine ⟨shf, ⟨fun i hi => ?_, fun i h1 hi => ?_, fun i hi => absurd hi (Nat.not_lt_zero i), inj, nz⟩, ⟨?_, ?_, ?_⟩, fun i hi => ?_, fun i hi => ?_, ⟨fun i hi => ?_, ?_, fun i hi => ?_⟩, fun i h1 hi => ?_, fun i h1 hi => ?_, fun j hj => absurd hj (Nat.not_lt_zero j), fun j hj _ => absurd hj (Nat.not_lt_zero j)⟩
  · have := kS i hi
    refine ⟨?_, this.1, this.2.2.2.1, this.2.1, this.2.2.1⟩
    rw [A10, aS i hi]; exact g9 i hi
  · have := kH i h1 hi
    refine ⟨?_, this.1, this.2.2.2.1, this.2.1, this.2.2.1⟩
    rw [A12, aH i hi]; exact g10 i ⟨h1, hi⟩
  · rw [A0]; exact i2
  · rw [A0]; exact i3
  · rw [A2]; exact K10
  · rw [A4, d8 i hi]
    rcases (show i = 0 ∨ i = 1 ∨ i = 2 ∨ i = 3 by omega) with rfl | rfl | rfl | rfl <;> rfl
  · rw [A7, e8 i hi]
    show (-1 : Int32) = if 8 = 8 ∧ i < 40 then -1 else 0
    rw [if_pos ⟨rfl, hi⟩]
  · have := kS i hi
    exact ⟨this.2.2.2.2.1, this.2.2.2.2.2.1, fun j hj => this.2.2.2.2.2.2.1 j⟩
  · exact k10.2.2.2.2.1
  · exact k10.2.2.2.2.2.2.1 i
  · have := kH i h1 hi
    obtain ⟨b1, b2, b3, b4, b5, b6, b7, b8, b9, b10, b11, b12⟩ := this
    have e16 : fN (s0 n) 16 i = if i = 1 then 1 else 0 := by
      show (if 16 = 18 ∧ i = 1 then 1 else if 16 = 16 ∧ i = 1 then 1 else if 16 = 7 ∧ i = 1 then 1 else 0) = if i = 1 then 1 else 0
      by_cases e : i = 1
      · subst e; rfl
      · rw [if_neg (fun z => e z.2), if_neg (fun z => e z.2), if_neg (fun z => e z.2), if_neg e]
    refine ⟨fun z => ?_, fun z => ⟨?_, ?_, ?_, ?_⟩, fun j hj => ?_⟩
    · by_cases e : i = 1
      · rw [e16, if_pos e] at z; cases z
      · rw [if_neg e] at b5; exact b5
    · by_cases e : i = 1
      · rw [if_pos e] at b5
        unfold hsA
        rw [if_pos e, A11]; exact b5
      · rw [e16, if_neg e] at z; exact absurd rfl z
    · exact b6
    · exact b7
    · by_cases e : i = 1
      · subst e; exact b8
      · rw [e16, if_neg e] at z; exact absurd rfl z
    · exact b10 j
  · exact (kH i h1 hi).2.2.2.2.2.2.2.2.1
theorem c_ML {m : Mm} {x : Nat} {vv : Int64} (hx : tg m x = 0) (hz : x ≠ 0) {P : Mm → Prop} (k : ∀ m' A, Ex m m' → A 0 = x → RC0 m' A (s0 (stp vv)) → P m') : wp_ML_init (nO m 1 x) x vv P := by
  unfold wp_ML_init wp_ML_init_0
  have E0 : Ex m (nO m 1 x) := (Ex.rf m).nO hx 1
  have X0 : tg (nO m 1 x) x = 1 := by rw [tg_nO, if_pos rfl]
  generalize nO m 1 x = m0 at E0 X0
  refine ⟨hz, ?_⟩
  refine fun q hq zq m1 e1 => ?_
  have S1 : Ex m0 m1 := by rw [e1]; exact (Ex.rf _).nA hq 12 20
  have bq : tg m q = 0 := E0.z hq
  have E1 : Ex m m1 := E0.tr S1
  have G1 := S1.g X0 (by decide)
  have X1 := G1.1
  have tq1 : tg m1 q = 12 := by rw [e1, tg_nA, if_pos rfl]
  have lq1 : ln m1 q = 20 := by rw [e1, ln_nA, if_pos rfl]
  clear e1
  refine ⟨X1, fun m2 e2 => ?_⟩
  have E2 : Ex m m2 := by rw [e2]; exact E1.sR hx _ _ _
  have X2 : tg m2 x = 1 := by rw [e2]; exact X1
  have xR0_2 : gR m2 1 0 x = q := by rw [e2, gR_sR, if_pos ⟨rfl, rfl, rfl⟩]
  have tq2 : tg m2 q = 12 := by rw [e2]; exact tq1
  have lq2 : ln m2 q = 20 := by rw [e2]; exact lq1
  have F2 : Fr [1] m1 m2 := by rw [e2]; exact Fr.sR X1 (by decide) _ _ _
  clear e2
  refine fun y hy zy n3 e3 => ?_
  subst e3
  refine c_Machine hy zy (fun m3 d3 s4 k5 r6 v7 k8 f9 qs qh n13 na p15 u v w tl S Y H G S3 KM_n => ?_)
  have E3 : Ex m m3 := E2.tr S3
  have G3 := S3.g X2 (by decide)
  have X3 := G3.1
  have xR0_3 : gR m3 1 0 x = q := (G3.2.2.2.1 _ _).trans xR0_2
  have Gq3 := S3.g tq2 (by decide)
  have tq3 := Gq3.1
  have lq3 := Gq3.2.1.trans lq2
  refine ⟨X3, fun m4 e4 => ?_⟩
  have E4 : Ex m m4 := by rw [e4]; exact E3.sR hx _ _ _
  have X4 : tg m4 x = 1 := by rw [e4]; exact X3
  have xR0_4 : gR m4 1 0 x = q := by rw [e4, gR_sR, if_neg (fun z => absurd z.2.1 (by decide))]; exact xR0_3
  have xR1_4 : gR m4 1 1 x = y := by rw [e4, gR_sR, if_pos ⟨rfl, rfl, rfl⟩]
  have tq4 : tg m4 q = 12 := by rw [e4]; exact tq3
  have lq4 : ln m4 q = 20 := by rw [e4]; exact lq3
  have F4 : Fr [1] m3 m4 := by rw [e4]; exact Fr.sR X3 (by decide) _ _ _
  have KM_4 := KM_n.fr F4 (by decide)
  clear e4
  refine ⟨X4, fun m5 e5 => ?_⟩
  have E5 : Ex m m5 := by rw [e5]; exact E4.sI hx _ _ _
  have X5 : tg m5 x = 1 := by rw [e5]; exact X4
  have xR0_5 : gR m5 1 0 x = q := by rw [e5]; exact xR0_4
  have xR1_5 : gR m5 1 1 x = y := by rw [e5]; exact xR1_4
  have xI2_5 : gI m5 1 2 x = 0 := by rw [e5, gI_sI, if_pos ⟨rfl, rfl, rfl⟩]
  have tq5 : tg m5 q = 12 := by rw [e5]; exact tq4
  have lq5 : ln m5 q = 20 := by rw [e5]; exact lq4
  have F5 : Fr [1] m4 m5 := by rw [e5]; exact Fr.sI X4 (by decide) _ _ _
  have KM_5 := KM_4.fr F5 (by decide)
  clear e5
  refine ⟨X5, fun m6 e6 => ?_⟩
  have E6 : Ex m m6 := by rw [e6]; exact E5.sI hx _ _ _
  have X6 : tg m6 x = 1 := by rw [e6]; exact X5
  have xR0_6 : gR m6 1 0 x = q := by rw [e6]; exact xR0_5
  have xR1_6 : gR m6 1 1 x = y := by rw [e6]; exact xR1_5
  have xI2_6 : gI m6 1 2 x = 0 := by rw [e6, gI_sI, if_neg (fun z => absurd z.2.1 (by decide))]; exact xI2_5
  have xI3_6 : gI m6 1 3 x = 0 := by rw [e6, gI_sI, if_pos ⟨rfl, rfl, rfl⟩]
  have tq6 : tg m6 q = 12 := by rw [e6]; exact tq5
  have lq6 : ln m6 q = 20 := by rw [e6]; exact lq5
  have F6 : Fr [1] m5 m6 := by rw [e6]; exact Fr.sI X5 (by decide) _ _ _
  have KM_6 := KM_5.fr F6 (by decide)
  clear e6
  exact k m6 _ E6 rfl (RC_new (stp_le vv) X6 hz tq6 lq6 zq xR0_6 xR1_6 xI2_6 xI3_6 KM_6)
/-- THE LAW: whatever the calls, both answer alike -/
theorem law_all {L : Nat} {xs : Nat → Int32} (hL : L ≤ 2049) {P : Int32 → Mm → Prop} (hP : ∀ m, P 1 m) (m : Mm) : wp_Law_law L xs m P := by
  unfold wp_Law_law wp_Law_law_0
  refine fun q hq zq m2 e2 => ?_
  subst e2
  have cell : ∀ (m : Mm) (K : Int32 → Mm → Prop), (∀ r, r = (if L = 0 then 0 else xs 0) → K r m) → wp_Law_cell L xs m 0 K := fun m K h => by
    unfold wp_Law_cell wp_Law_cell_0
    refine fun x1 e1 => ?_
    subst e1
    by_cases e : L = 0
    · subst e
      exact ⟨fun _ => h 0 (if_pos rfl).symm, fun z => absurd (by decide : nI 0 ≤ 0) z⟩
    · refine ⟨fun z => absurd z (nI_nle (by omega) (by omega)), fun _ => ⟨vp_in_nI (n := 0) (by omega) (by omega), fun x4 e4 => h x4 ?_⟩⟩
      rw [if_neg e]; exact e4
  refine cell _ _ (fun r er x7 e7 => ?_)
  refine c_ML hq zq (fun m8 A E8 eA h8 => ?_)
  refine fun q10 hq10 zq10 m11 e11 => ?_
  subst e11
  refine cell _ _ (fun r' er' x16 e16 => ?_)
  have ex : x16 = x7 := by rw [e16, e7, er, er']
  subst ex
  have hI := s0_LI (stp_le x16)
  refine c_Mo (Z := fun m => RC0 m A (s0 (stp x16))) hq10 zq10 zc_RC0 (fun m' E => h8.mv hI.1.1 E (fun _ _ => rfl)) (fun m' B hB => ?_)
  have hz : RC0 m' A (s0 (stp x16)) := hB.2.2.2.2.2.2.2
  rw [← eA]
  exact law_loop hL hP 513 1 rfl (by decide) m' A _ hz (RZ.rm hB) hI
