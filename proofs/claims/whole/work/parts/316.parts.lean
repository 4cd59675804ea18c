/-! THE CLASS: a new object, from its parts -/
/-! what stays, but for objects of the kinds in L -/
def Fr (L : List Nat) (m m' : Mm) : Prop := ∀ y, tg m y ≠ 0 → tg m' y = tg m y ∧ (tg m y ∉ L → ln m' y = ln m y ∧ (∀ k f, gI m' k f y = gI m k f y) ∧ (∀ k f, gR m' k f y = gR m k f y) ∧ (∀ k i, aI m' k y i = aI m k y i) ∧ (∀ k i, aR m' k y i = aR m k y i))
theorem Fr.tr {L : List Nat} {m m' m'' : Mm} (h : Fr L m m') (g : Fr L m' m'') : Fr L m m'' := fun y hy => by
  obtain ⟨a1, a2⟩ := h y hy
  obtain ⟨b1, b2⟩ := g y (by rw [a1]; exact hy)
  refine ⟨b1.trans a1, fun hL => ?_⟩
  obtain ⟨c1, c2, c3, c4, c5⟩ := a2 hL
  obtain ⟨d1, d2, d3, d4, d5⟩ := b2 (by rw [a1]; exact hL)
  exact ⟨d1.trans c1, fun k f => (d2 k f).trans (c2 k f), fun k f => (d3 k f).trans (c3 k f), fun k f => (d4 k f).trans (c4 k f), fun k f => (d5 k f).trans (c5 k f)⟩
theorem Ex.fr {m m' : Mm} (h : Ex m m') (L : List Nat) : Fr L m m' := fun y hy => ⟨(h y hy).1, fun _ => (h y hy).2⟩
theorem Fr.sI {L : List Nat} {m : Mm} {x t : Nat} (hx : tg m x = t) (ht : t ∈ L) (k i : Nat) (v : Int32) : Fr L m (sI m k i x v) := fun y hy => by
  refine ⟨rfl, fun hL => ⟨rfl, fun k f => ?_, fun _ _ => rfl, fun _ _ => rfl, fun _ _ => rfl⟩⟩
  rw [gI_sI, if_neg (fun z => hL (by rw [z.2.2, hx]; exact ht))]
theorem Fr.sR {L : List Nat} {m : Mm} {x t : Nat} (hx : tg m x = t) (ht : t ∈ L) (k i v : Nat) : Fr L m (sR m k i x v) := fun y hy => by
  refine ⟨rfl, fun hL => ⟨rfl, fun _ _ => rfl, fun k f => ?_, fun _ _ => rfl, fun _ _ => rfl⟩⟩
  rw [gR_sR, if_neg (fun z => hL (by rw [z.2.2, hx]; exact ht))]
theorem Fr.wR {L : List Nat} {m : Mm} {x t : Nat} (hx : tg m x = t) (ht : t ∈ L) (k i v : Nat) : Fr L m (wR m k x i v) := fun y hy => by
  refine ⟨rfl, fun hL => ⟨rfl, fun _ _ => rfl, fun _ _ => rfl, fun _ _ => rfl, fun k f => ?_⟩⟩
  rw [aR_wR, if_neg (fun z => hL (by rw [z.2.1, hx]; exact ht))]
theorem Fr.g {L : List Nat} {m m' : Mm} (e : Fr L m m') {y t : Nat} (ht : tg m y = t) (h0 : t ≠ 0) (hL : t ∉ L) : tg m' y = t ∧ ln m' y = ln m y ∧ (∀ k f, gI m' k f y = gI m k f y) ∧ (∀ k f, gR m' k f y = gR m k f y) ∧ (∀ k i, aI m' k y i = aI m k y i) ∧ (∀ k i, aR m' k y i = aR m k y i) := by
  obtain ⟨a, b⟩ := e y (by rw [ht]; exact h0)
  exact ⟨a.trans ht, b (by rw [ht]; exact hL)⟩
theorem Ex.g {m m' : Mm} (e : Ex m m') {y t : Nat} (ht : tg m y = t) (h0 : t ≠ 0) : tg m' y = t ∧ ln m' y = ln m y ∧ (∀ k f, gI m' k f y = gI m k f y) ∧ (∀ k f, gR m' k f y = gR m k f y) ∧ (∀ k i, aI m' k y i = aI m k y i) ∧ (∀ k i, aR m' k y i = aR m k y i) := by
  obtain ⟨a, b⟩ := e y (by rw [ht]; exact h0)
  exact ⟨a.trans ht, b⟩
def KD (m : Mm) (d s k : Nat) : Prop := tg m d = 3 ∧ tg m s = 14 ∧ tg m k = 15 ∧ ln m s = 4 ∧ ln m k = 4 ∧ gR m 3 0 d = s ∧ gR m 3 1 d = k ∧ (∀ i, i < 4 → aI m 14 s i = tab_0 i) ∧ d ≠ 0 ∧ s ≠ 0 ∧ k ≠ 0
theorem KD.fr {m m' : Mm} {L : List Nat} {d s k : Nat} (h : KD m d s k) (e : Fr L m m') (hL : ∀ k ∈ [3, 14, 15], k ∉ L) : KD m' d s k := by
  obtain ⟨h0, h1, h2, h3, h4, h5, h6, h7, h8, h9, h10⟩ := h
  have gd := e.g h0 (by decide) (hL 3 (by decide))
  have gs := e.g h1 (by decide) (hL 14 (by decide))
  have gk := e.g h2 (by decide) (hL 15 (by decide))
  exact ⟨gd.1, gs.1, gk.1, gs.2.1.trans h3, gk.2.1.trans h4, (gd.2.2.2.1 _ _).trans h5, (gd.2.2.2.1 _ _).trans h6, fun i hi => (gs.2.2.2.2.1 _ _).trans (h7 i hi), h8, h9, h10⟩
def KR (m : Mm) (d s k : Nat) : Prop := tg m d = 4 ∧ tg m s = 16 ∧ tg m k = 17 ∧ ln m s = 40 ∧ ln m k = 40 ∧ gR m 4 0 d = s ∧ gR m 4 1 d = k ∧ (∀ i, i < 40 → aI m 16 s i = -1) ∧ d ≠ 0 ∧ s ≠ 0 ∧ k ≠ 0
theorem KR.fr {m m' : Mm} {L : List Nat} {d s k : Nat} (h : KR m d s k) (e : Fr L m m') (hL : ∀ k ∈ [4, 16, 17], k ∉ L) : KR m' d s k := by
  obtain ⟨h0, h1, h2, h3, h4, h5, h6, h7, h8, h9, h10⟩ := h
  have gd := e.g h0 (by decide) (hL 4 (by decide))
  have gs := e.g h1 (by decide) (hL 16 (by decide))
  have gk := e.g h2 (by decide) (hL 17 (by decide))
  exact ⟨gd.1, gs.1, gk.1, gs.2.1.trans h3, gk.2.1.trans h4, (gd.2.2.2.1 _ _).trans h5, (gd.2.2.2.1 _ _).trans h6, fun i hi => (gs.2.2.2.2.1 _ _).trans (h7 i hi), h8, h9, h10⟩
def KS (m : Mm) (s y n : Nat) : Prop := tg m s = 9 ∧ tg m y = 26 ∧ ln m y = n ∧ gR m 9 0 s = y ∧ gI m 9 1 s = 0 ∧ gI m 9 2 s = 0 ∧ (∀ i, aI m 26 y i = 0) ∧ s ≠ 0 ∧ y ≠ 0
theorem KS.fr {m m' : Mm} {L : List Nat} {s y n : Nat} (h : KS m s y n) (e : Fr L m m') (hL : ∀ k ∈ [9, 26], k ∉ L) : KS m' s y n := by
  obtain ⟨h0, h1, h2, h3, h4, h5, h6, h7, h8⟩ := h
  have gs := e.g h0 (by decide) (hL 9 (by decide))
  have gy := e.g h1 (by decide) (hL 26 (by decide))
  exact ⟨gs.1, gy.1, gy.2.1.trans h2, (gs.2.2.2.1 _ _).trans h3, (gs.2.2.1 _ _).trans h4, (gs.2.2.1 _ _).trans h5, fun i => (gy.2.2.2.2.1 _ _).trans (h6 i), h7, h8⟩
def KH (m : Mm) (u y s d : Nat) : Prop := tg m u = 10 ∧ tg m y = 27 ∧ ln m y = 3 ∧ gR m 10 0 u = y ∧ gR m 10 4 u = s ∧ gI m 10 1 u = 0 ∧ gI m 10 3 u = 0 ∧ gI m 10 5 u = nI d ∧ gI m 10 6 u = 0 ∧ (∀ i, aI m 27 y i = 0) ∧ u ≠ 0 ∧ y ≠ 0
theorem KH.fr {m m' : Mm} {L : List Nat} {u y s d : Nat} (h : KH m u y s d) (e : Fr L m m') (hL : ∀ k ∈ [10, 27], k ∉ L) : KH m' u y s d := by
  obtain ⟨h0, h1, h2, h3, h4, h5, h6, h7, h8, h9, h10, h11⟩ := h
  have gu := e.g h0 (by decide) (hL 10 (by decide))
  have gy := e.g h1 (by decide) (hL 27 (by decide))
  exact ⟨gu.1, gy.1, gy.2.1.trans h2, (gu.2.2.2.1 _ _).trans h3, (gu.2.2.2.1 _ _).trans h4, (gu.2.2.1 _ _).trans h5, (gu.2.2.1 _ _).trans h6, (gu.2.2.1 _ _).trans h7, (gu.2.2.1 _ _).trans h8, fun i => (gy.2.2.2.2.1 _ _).trans (h9 i), h10, h11⟩
def KN (m : Mm) (n y : Nat) : Prop := tg m n = 6 ∧ tg m y = 20 ∧ ln m y = 20 ∧ gR m 6 0 n = y ∧ n ≠ 0 ∧ y ≠ 0
theorem KN.fr {m m' : Mm} {L : List Nat} {n y : Nat} (h : KN m n y) (e : Fr L m m') (hL : ∀ k ∈ [6, 20], k ∉ L) : KN m' n y := by
  obtain ⟨h0, h1, h2, h3, h4, h5⟩ := h
  have gn := e.g h0 (by decide) (hL 6 (by decide))
  have gy := e.g h1 (by decide) (hL 20 (by decide))
  exact ⟨gn.1, gy.1, gy.2.1.trans h2, (gn.2.2.2.1 _ _).trans h3, h4, h5⟩
def KP (m : Mm) (p u v w : Nat) : Prop := tg m p = 7 ∧ tg m u = 21 ∧ tg m v = 22 ∧ tg m w = 23 ∧ ln m u = 200 ∧ ln m v = 200 ∧ ln m w = 200 ∧ gR m 7 0 p = u ∧ gR m 7 1 p = v ∧ gR m 7 2 p = w ∧ p ≠ 0 ∧ u ≠ 0 ∧ v ≠ 0 ∧ w ≠ 0
theorem KP.fr {m m' : Mm} {L : List Nat} {p u v w : Nat} (h : KP m p u v w) (e : Fr L m m') (hL : ∀ k ∈ [7, 21, 22, 23], k ∉ L) : KP m' p u v w := by
  obtain ⟨h0, h1, h2, h3, h4, h5, h6, h7, h8, h9, h10, h11, h12, h13⟩ := h
  have gp := e.g h0 (by decide) (hL 7 (by decide))
  have gu := e.g h1 (by decide) (hL 21 (by decide))
  have gv := e.g h2 (by decide) (hL 22 (by decide))
  have gw := e.g h3 (by decide) (hL 23 (by decide))
  exact ⟨gp.1, gu.1, gv.1, gw.1, gu.2.1.trans h4, gv.2.1.trans h5, gw.2.1.trans h6, (gp.2.2.2.1 _ _).trans h7, (gp.2.2.2.1 _ _).trans h8, (gp.2.2.2.1 _ _).trans h9, h10, h11, h12, h13⟩
theorem c_Numbers {m : Mm} {x : Nat} (hx : tg m x = 0) (hz : x ≠ 0) {P : Mm → Prop} (k : ∀ m' y, Ex m m' → KN m' x y → tg m y = 0 → P m') : wp_Numbers_init (nO m 6 x) x P := by
  unfold wp_Numbers_init wp_Numbers_init_0
  have E0 : Ex m (nO m 6 x) := (Ex.rf m).nO hx 6
  have X0 : tg (nO m 6 x) x = 6 := by rw [tg_nO, if_pos rfl]
  generalize nO m 6 x = m0 at E0 X0
  refine ⟨hz, ?_⟩
  refine fun q hq zq m1 e1 => ?_
  have S1 : Ex m0 m1 := by rw [e1]; exact (Ex.rf _).nA hq 20 20
  have bq : tg m q = 0 := E0.z hq
  have E1 : Ex m m1 := E0.tr S1
  have G1 := S1.g X0 (by decide)
  have X1 := G1.1
  have tq1 : tg m1 q = 20 := by rw [e1, tg_nA, if_pos rfl]
  have lq1 : ln m1 q = 20 := by rw [e1, ln_nA, if_pos rfl]
  clear e1
  refine ⟨X1, fun m2 e2 => ?_⟩
  have E2 : Ex m m2 := by rw [e2]; exact E1.sR hx _ _ _
  have X2 : tg m2 x = 6 := by rw [e2]; exact X1
  have xR0_2 : gR m2 6 0 x = q := by rw [e2, gR_sR, if_pos ⟨rfl, rfl, rfl⟩]
  have tq2 : tg m2 q = 20 := by rw [e2]; exact tq1
  have lq2 : ln m2 q = 20 := by rw [e2]; exact lq1
  clear e2
  refine ⟨X2, fun m3 e3 => ?_⟩
  have E3 : Ex m m3 := by rw [e3]; exact E2.sI hx _ _ _
  have X3 : tg m3 x = 6 := by rw [e3]; exact X2
  have xR0_3 : gR m3 6 0 x = q := by rw [e3]; exact xR0_2
  have xI1_3 : gI m3 6 1 x = 0 := by rw [e3, gI_sI, if_pos ⟨rfl, rfl, rfl⟩]
  have tq3 : tg m3 q = 20 := by rw [e3]; exact tq2
  have lq3 : ln m3 q = 20 := by rw [e3]; exact lq2
  clear e3
  exact k m3 q E3 ⟨X3, tq3, lq3, xR0_3, hz, zq⟩ bq
theorem c_Plan {m : Mm} {x : Nat} (hx : tg m x = 0) (hz : x ≠ 0) {P : Mm → Prop} (k : ∀ m' u v w, Ex m m' → KP m' x u v w → P m') : wp_Plan_init (nO m 7 x) x P := by
  unfold wp_Plan_init wp_Plan_init_0
  have E0 : Ex m (nO m 7 x) := (Ex.rf m).nO hx 7
  have X0 : tg (nO m 7 x) x = 7 := by rw [tg_nO, if_pos rfl]
  generalize nO m 7 x = m0 at E0 X0
  refine ⟨hz, ?_⟩
  refine fun u hu zu m1 e1 => ?_
  have S1 : Ex m0 m1 := by rw [e1]; exact (Ex.rf _).nA hu 21 200
  have bu : tg m u = 0 := E0.z hu
  have E1 : Ex m m1 := E0.tr S1
  have G1 := S1.g X0 (by decide)
  have X1 := G1.1
  have tu1 : tg m1 u = 21 := by rw [e1, tg_nA, if_pos rfl]
  have lu1 : ln m1 u = 200 := by rw [e1, ln_nA, if_pos rfl]
  clear e1
  refine ⟨X1, fun m2 e2 => ?_⟩
  have E2 : Ex m m2 := by rw [e2]; exact E1.sR hx _ _ _
  have X2 : tg m2 x = 7 := by rw [e2]; exact X1
  have xR0_2 : gR m2 7 0 x = u := by rw [e2, gR_sR, if_pos ⟨rfl, rfl, rfl⟩]
  have tu2 : tg m2 u = 21 := by rw [e2]; exact tu1
  have lu2 : ln m2 u = 200 := by rw [e2]; exact lu1
  clear e2
  refine fun v hv zv m3 e3 => ?_
  have S3 : Ex m2 m3 := by rw [e3]; exact (Ex.rf _).nA hv 22 200
  have bv : tg m v = 0 := E2.z hv
  have E3 : Ex m m3 := E2.tr S3
  have G3 := S3.g X2 (by decide)
  have X3 := G3.1
  have xR0_3 : gR m3 7 0 x = u := (G3.2.2.2.1 _ _).trans xR0_2
  have Gu3 := S3.g tu2 (by decide)
  have tu3 := Gu3.1
  have lu3 := Gu3.2.1.trans lu2
  have tv3 : tg m3 v = 22 := by rw [e3, tg_nA, if_pos rfl]
  have lv3 : ln m3 v = 200 := by rw [e3, ln_nA, if_pos rfl]
  clear e3
  refine ⟨X3, fun m4 e4 => ?_⟩
  have E4 : Ex m m4 := by rw [e4]; exact E3.sR hx _ _ _
  have X4 : tg m4 x = 7 := by rw [e4]; exact X3
  have xR0_4 : gR m4 7 0 x = u := by rw [e4, gR_sR, if_neg (fun z => absurd z.2.1 (by decide))]; exact xR0_3
  have xR1_4 : gR m4 7 1 x = v := by rw [e4, gR_sR, if_pos ⟨rfl, rfl, rfl⟩]
  have tu4 : tg m4 u = 21 := by rw [e4]; exact tu3
  have lu4 : ln m4 u = 200 := by rw [e4]; exact lu3
  have tv4 : tg m4 v = 22 := by rw [e4]; exact tv3
  have lv4 : ln m4 v = 200 := by rw [e4]; exact lv3
  clear e4
  refine fun w hw zw m5 e5 => ?_
  have S5 : Ex m4 m5 := by rw [e5]; exact (Ex.rf _).nA hw 23 200
  have bw : tg m w = 0 := E4.z hw
  have E5 : Ex m m5 := E4.tr S5
  have G5 := S5.g X4 (by decide)
  have X5 := G5.1
  have xR0_5 : gR m5 7 0 x = u := (G5.2.2.2.1 _ _).trans xR0_4
  have xR1_5 : gR m5 7 1 x = v := (G5.2.2.2.1 _ _).trans xR1_4
  have Gu5 := S5.g tu4 (by decide)
  have tu5 := Gu5.1
  have lu5 := Gu5.2.1.trans lu4
  have Gv5 := S5.g tv4 (by decide)
  have tv5 := Gv5.1
  have lv5 := Gv5.2.1.trans lv4
  have tw5 : tg m5 w = 23 := by rw [e5, tg_nA, if_pos rfl]
  have lw5 : ln m5 w = 200 := by rw [e5, ln_nA, if_pos rfl]
  clear e5
  refine ⟨X5, fun m6 e6 => ?_⟩
  have E6 : Ex m m6 := by rw [e6]; exact E5.sR hx _ _ _
  have X6 : tg m6 x = 7 := by rw [e6]; exact X5
  have xR0_6 : gR m6 7 0 x = u := by rw [e6, gR_sR, if_neg (fun z => absurd z.2.1 (by decide))]; exact xR0_5
  have xR1_6 : gR m6 7 1 x = v := by rw [e6, gR_sR, if_neg (fun z => absurd z.2.1 (by decide))]; exact xR1_5
  have xR2_6 : gR m6 7 2 x = w := by rw [e6, gR_sR, if_pos ⟨rfl, rfl, rfl⟩]
  have tu6 : tg m6 u = 21 := by rw [e6]; exact tu5
  have lu6 : ln m6 u = 200 := by rw [e6]; exact lu5
  have tv6 : tg m6 v = 22 := by rw [e6]; exact tv5
  have lv6 : ln m6 v = 200 := by rw [e6]; exact lv5
  have tw6 : tg m6 w = 23 := by rw [e6]; exact tw5
  have lw6 : ln m6 w = 200 := by rw [e6]; exact lw5
  clear e6
  refine ⟨X6, fun m7 e7 => ?_⟩
  have E7 : Ex m m7 := by rw [e7]; exact E6.sI hx _ _ _
  have X7 : tg m7 x = 7 := by rw [e7]; exact X6
  have xR0_7 : gR m7 7 0 x = u := by rw [e7]; exact xR0_6
  have xR1_7 : gR m7 7 1 x = v := by rw [e7]; exact xR1_6
  have xR2_7 : gR m7 7 2 x = w := by rw [e7]; exact xR2_6
  have xI3_7 : gI m7 7 3 x = 0 := by rw [e7, gI_sI, if_pos ⟨rfl, rfl, rfl⟩]
  have tu7 : tg m7 u = 21 := by rw [e7]; exact tu6
  have lu7 : ln m7 u = 200 := by rw [e7]; exact lu6
  have tv7 : tg m7 v = 22 := by rw [e7]; exact tv6
  have lv7 : ln m7 v = 200 := by rw [e7]; exact lv6
  have tw7 : tg m7 w = 23 := by rw [e7]; exact tw6
  have lw7 : ln m7 w = 200 := by rw [e7]; exact lw6
  clear e7
  exact k m7 u v w E7 ⟨X7, tu7, tv7, tw7, lu7, lv7, lw7, xR0_7, xR1_7, xR2_7, hz, zu, zv, zw⟩
theorem c_Store {m : Mm} {x : Nat} (hx : tg m x = 0) (hz : x ≠ 0) {n : Nat} (hn0 : 0 < n) (hn4 : n ≤ 400) {P : Mm → Prop} (k : ∀ m' y, Ex m m' → KS m' x y n → tg m y = 0 → P m') : wp_Store_init (nO m 9 x) x (nI n) P := by
  unfold wp_Store_init wp_Store_init_0
  have E0 : Ex m (nO m 9 x) := (Ex.rf m).nO hx 9
  have X0 : tg (nO m 9 x) x = 9 := by rw [tg_nO, if_pos rfl]
  generalize nO m 9 x = m0 at E0 X0
  refine ⟨hz, fun x2 e2 => ?_⟩
  have e3 : x2 = nI n := by rw [e2]; exact if_pos (by rw [Int32.lt_iff_toInt_lt, nI_toInt (by omega), Int32.toInt_zero]; omega)
  clear e2
  subst e3
  rw [nI_clamp (by omega)]
  refine ⟨nI_pos (by omega), hn4, ?_⟩
  refine fun y hy zy m1 e1 => ?_
  have S1 : Ex m0 m1 := by rw [e1]; exact (Ex.rf _).nA hy 26 n
  have byy : tg m y = 0 := E0.z hy
  have E1 : Ex m m1 := E0.tr S1
  have G1 := S1.g X0 (by decide)
  have X1 := G1.1
  have ty1 : tg m1 y = 26 := by rw [e1, tg_nA, if_pos rfl]
  have ly1 : ln m1 y = n := by rw [e1, ln_nA, if_pos rfl]
  have ay1 : ∀ i, aI m1 26 y i = 0 := fun i => by rw [e1, aI_nA, if_pos rfl]
  clear e1
  refine ⟨X1, fun m2 e2 => ?_⟩
  have E2 : Ex m m2 := by rw [e2]; exact E1.sR hx _ _ _
  have X2 : tg m2 x = 9 := by rw [e2]; exact X1
  have xR0_2 : gR m2 9 0 x = y := by rw [e2, gR_sR, if_pos ⟨rfl, rfl, rfl⟩]
  have ty2 : tg m2 y = 26 := by rw [e2]; exact ty1
  have ly2 : ln m2 y = n := by rw [e2]; exact ly1
  have ay2 : ∀ i, aI m2 26 y i = 0 := fun i => by rw [e2]; exact ay1 i
  clear e2
  refine ⟨X2, fun m3 e3 => ?_⟩
  have E3 : Ex m m3 := by rw [e3]; exact E2.sI hx _ _ _
  have X3 : tg m3 x = 9 := by rw [e3]; exact X2
  have xR0_3 : gR m3 9 0 x = y := by rw [e3]; exact xR0_2
  have xI1_3 : gI m3 9 1 x = 0 := by rw [e3, gI_sI, if_pos ⟨rfl, rfl, rfl⟩]
  have ty3 : tg m3 y = 26 := by rw [e3]; exact ty2
  have ly3 : ln m3 y = n := by rw [e3]; exact ly2
  have ay3 : ∀ i, aI m3 26 y i = 0 := fun i => by rw [e3]; exact ay2 i
  clear e3
  refine ⟨X3, fun m4 e4 => ?_⟩
  have E4 : Ex m m4 := by rw [e4]; exact E3.sI hx _ _ _
  have X4 : tg m4 x = 9 := by rw [e4]; exact X3
  have xR0_4 : gR m4 9 0 x = y := by rw [e4]; exact xR0_3
  have xI1_4 : gI m4 9 1 x = 0 := by rw [e4, gI_sI, if_neg (fun z => absurd z.2.1 (by decide))]; exact xI1_3
  have xI2_4 : gI m4 9 2 x = 0 := by rw [e4, gI_sI, if_pos ⟨rfl, rfl, rfl⟩]
  have ty4 : tg m4 y = 26 := by rw [e4]; exact ty3
  have ly4 : ln m4 y = n := by rw [e4]; exact ly3
  have ay4 : ∀ i, aI m4 26 y i = 0 := fun i => by rw [e4]; exact ay3 i
  clear e4
  exact k m4 y E4 ⟨X4, ty4, ly4, xR0_4, xI1_4, xI2_4, ay4, hz, zy⟩ byy
theorem c_Handle {m : Mm} {x : Nat} (hx : tg m x = 0) (hz : x ≠ 0) {P : Mm → Prop} (k : ∀ m' y, Ex m m' → KH m' x y 0 0 → tg m y = 0 → P m') : wp_Handle_init (nO m 10 x) x P := by
  unfold wp_Handle_init wp_Handle_init_0
  have E0 : Ex m (nO m 10 x) := (Ex.rf m).nO hx 10
  have X0 : tg (nO m 10 x) x = 10 := by rw [tg_nO, if_pos rfl]
  generalize nO m 10 x = m0 at E0 X0
  refine ⟨hz, ?_⟩
  refine fun g hg zg m1 e1 => ?_
  have S1 : Ex m0 m1 := by rw [e1]; exact (Ex.rf _).nA hg 27 3
  have bg : tg m g = 0 := E0.z hg
  have E1 : Ex m m1 := E0.tr S1
  have G1 := S1.g X0 (by decide)
  have X1 := G1.1
  have tg1 : tg m1 g = 27 := by rw [e1, tg_nA, if_pos rfl]
  have lg1 : ln m1 g = 3 := by rw [e1, ln_nA, if_pos rfl]
  have ag1 : ∀ i, aI m1 27 g i = 0 := fun i => by rw [e1, aI_nA, if_pos rfl]
  clear e1
  refine ⟨X1, fun m2 e2 => ?_⟩
  have E2 : Ex m m2 := by rw [e2]; exact E1.sR hx _ _ _
  have X2 : tg m2 x = 10 := by rw [e2]; exact X1
  have xR0_2 : gR m2 10 0 x = g := by rw [e2, gR_sR, if_pos ⟨rfl, rfl, rfl⟩]
  have tg2 : tg m2 g = 27 := by rw [e2]; exact tg1
  have lg2 : ln m2 g = 3 := by rw [e2]; exact lg1
  have ag2 : ∀ i, aI m2 27 g i = 0 := fun i => by rw [e2]; exact ag1 i
  clear e2
  refine ⟨X2, x_detach X2 ?_⟩
  refine k _ g ((((((E2.sR hx 10 4 0).sI hx 10 5 0).sI hx 10 6 0).sI hx 10 3 0).sI hx 10 1 0).sI hx 10 2 0) ⟨X2, tg2, lg2, ?_, ?_, ?_, ?_, ?_, ?_, ag2, hz, zg⟩ bg
  · show gR (sR m2 10 4 x 0) 10 0 x = g
    rw [gR_sR, if_neg (fun z => absurd z.2.1 (by decide))]; exact xR0_2
  · show gR (sR m2 10 4 x 0) 10 4 x = 0
    rw [gR_sR, if_pos ⟨rfl, rfl, rfl⟩]
  · unfold dtM; simp only [gI_sI, Nat.reduceEqDiff, reduceCtorEq, true_and, and_true, false_and, and_false, if_true, if_false, ↓reduceIte, and_self]
  · unfold dtM; simp only [gI_sI, Nat.reduceEqDiff, reduceCtorEq, true_and, and_true, false_and, and_false, if_true, if_false, ↓reduceIte, and_self]
  · unfold dtM; simp only [gI_sI, Nat.reduceEqDiff, reduceCtorEq, true_and, and_true, false_and, and_false, if_true, if_false, ↓reduceIte, and_self]; rfl
  · unfold dtM; simp only [gI_sI, Nat.reduceEqDiff, reduceCtorEq, true_and, and_true, false_and, and_false, if_true, if_false, ↓reduceIte, and_self]
theorem y_Device {m : Mm} {x s d : Nat} {P : Mm → Prop} (k : ∀ m', Ex m m' → KD m' x s d → P m') (hx : tg m x = 0) (hs : tg m s = 0) : ∀ (c i : Nat) (m2 : Mm), c + i = 4 → Ex m m2 → (tg m2 x = 3 ∧ tg m2 s = 14 ∧ tg m2 d = 15 ∧ ln m2 s = 4 ∧ ln m2 d = 4 ∧ gR m2 3 0 x = s ∧ gR m2 3 1 x = d ∧ (∀ t, t < i → aI m2 14 s t = tab_0 t) ∧ x ≠ 0 ∧ s ≠ 0 ∧ d ≠ 0) → ∃ f, wp_Device_init_20 P f m2 x (nI i) := by
  intro c
  induction c with
  | zero =>
    intro i m2 hc E h
    have hi : i = 4 := by omega
    subst hi
    refine ⟨1, ?_⟩
    unfold wp_Device_init_20
    exact ⟨fun _ => k m2 E h, fun z => absurd (by decide : (4 : Int32) ≤ nI 4) z⟩
  | succ c ih =>
    intro i m2 hc E h
    obtain ⟨h1, h2, h3, h4, h5, h6, h7, h8, h9, h10, h11⟩ := h
    obtain ⟨f, hf⟩ := ih (i + 1) (wI m2 14 s i (tab_0 i)) (by omega) (E.wI hs _ _ _) ⟨h1, h2, h3, h4, h5, h6, h7, fun j hj => by
      rw [aI_wI]
      by_cases e : j = i
      · subst e; rw [if_pos ⟨rfl, rfl, rfl⟩]
      · rw [if_neg (fun z => e z.2.2)]; exact h8 j (by omega), h9, h10, h11⟩
    refine ⟨f + 1, ?_⟩
    unfold wp_Device_init_20
    refine ⟨fun z => absurd z (by rw [geL_4 (by omega)]; omega), fun _ => ⟨h1, fun u eu => ?_⟩⟩
    rw [h6] at eu
    subst eu
    refine ⟨vp_in_nI (by omega) (by omega), fun v ev => ⟨h2, by rw [h4]; exact vp_in_nI (by omega) (by omega), fun m9 e9 y ey => ?_⟩⟩
    rw [nI_clamp (by omega)] at ev e9
    subst ev
    subst e9
    subst ey
    rw [nI_1]
    exact hf
theorem c_Device {m : Mm} {x : Nat} (hx : tg m x = 0) (hz : x ≠ 0) {P : Mm → Prop} (k : ∀ m' s d, Ex m m' → KD m' x s d → P m') : wp_Device_init (nO m 3 x) x P := by
  unfold wp_Device_init wp_Device_init_0
  have E0 : Ex m (nO m 3 x) := (Ex.rf m).nO hx 3
  have X0 : tg (nO m 3 x) x = 3 := by rw [tg_nO, if_pos rfl]
  generalize nO m 3 x = m0 at E0 X0
  refine ⟨hz, ?_⟩
  refine fun s hs zs m1 e1 => ?_
  have S1 : Ex m0 m1 := by rw [e1]; exact (Ex.rf _).nA hs 14 4
  have bs : tg m s = 0 := E0.z hs
  have E1 : Ex m m1 := E0.tr S1
  have G1 := S1.g X0 (by decide)
  have X1 := G1.1
  have ts1 : tg m1 s = 14 := by rw [e1, tg_nA, if_pos rfl]
  have ls1 : ln m1 s = 4 := by rw [e1, ln_nA, if_pos rfl]
  clear e1
  refine ⟨X1, fun m2 e2 => ?_⟩
  have E2 : Ex m m2 := by rw [e2]; exact E1.sR hx _ _ _
  have X2 : tg m2 x = 3 := by rw [e2]; exact X1
  have xR0_2 : gR m2 3 0 x = s := by rw [e2, gR_sR, if_pos ⟨rfl, rfl, rfl⟩]
  have ts2 : tg m2 s = 14 := by rw [e2]; exact ts1
  have ls2 : ln m2 s = 4 := by rw [e2]; exact ls1
  clear e2
  refine fun d hd zd m3 e3 => ?_
  have S3 : Ex m2 m3 := by rw [e3]; exact (Ex.rf _).nA hd 15 4
  have bd : tg m d = 0 := E2.z hd
  have E3 : Ex m m3 := E2.tr S3
  have G3 := S3.g X2 (by decide)
  have X3 := G3.1
  have xR0_3 : gR m3 3 0 x = s := (G3.2.2.2.1 _ _).trans xR0_2
  have Gs3 := S3.g ts2 (by decide)
  have ts3 := Gs3.1
  have ls3 := Gs3.2.1.trans ls2
  have td3 : tg m3 d = 15 := by rw [e3, tg_nA, if_pos rfl]
  have ld3 : ln m3 d = 4 := by rw [e3, ln_nA, if_pos rfl]
  clear e3
  refine ⟨X3, fun m4 e4 => ?_⟩
  have E4 : Ex m m4 := by rw [e4]; exact E3.sR hx _ _ _
  have X4 : tg m4 x = 3 := by rw [e4]; exact X3
  have xR0_4 : gR m4 3 0 x = s := by rw [e4, gR_sR, if_neg (fun z => absurd z.2.1 (by decide))]; exact xR0_3
  have xR1_4 : gR m4 3 1 x = d := by rw [e4, gR_sR, if_pos ⟨rfl, rfl, rfl⟩]
  have ts4 : tg m4 s = 14 := by rw [e4]; exact ts3
  have ls4 : ln m4 s = 4 := by rw [e4]; exact ls3
  have td4 : tg m4 d = 15 := by rw [e4]; exact td3
  have ld4 : ln m4 d = 4 := by rw [e4]; exact ld3
  clear e4
  exact y_Device (fun m' E K => k m' s d E K) hx bs 4 0 m4 rfl E4 ⟨X4, ts4, td4, ls4, ld4, xR0_4, xR1_4, fun i hi => absurd hi (Nat.not_lt_zero i), hz, zs, zd⟩
theorem y_Resources {m : Mm} {x s d : Nat} {P : Mm → Prop} (k : ∀ m', Ex m m' → KR m' x s d → P m') (hx : tg m x = 0) (hs : tg m s = 0) : ∀ (c i : Nat) (m2 : Mm), c + i = 40 → Ex m m2 → (tg m2 x = 4 ∧ tg m2 s = 16 ∧ tg m2 d = 17 ∧ ln m2 s = 40 ∧ ln m2 d = 40 ∧ gR m2 4 0 x = s ∧ gR m2 4 1 x = d ∧ (∀ t, t < i → aI m2 16 s t = -1) ∧ x ≠ 0 ∧ s ≠ 0 ∧ d ≠ 0) → ∃ f, wp_Resources_init_22 P f m2 x (nI i) := by
  intro c
  induction c with
  | zero =>
    intro i m2 hc E h
    have hi : i = 40 := by omega
    subst hi
    refine ⟨1, ?_⟩
    unfold wp_Resources_init_22
    refine ⟨h.1, fun u eu => ?_⟩
    rw [h.2.2.2.2.2.1] at eu
    subst eu
    refine ⟨h.2.1, fun v ev => ?_⟩
    rw [h.2.2.2.1] at ev
    subst ev
    exact ⟨fun _ => k m2 E h, fun z => absurd (by decide : nI 40 ≤ nI 40) z⟩
  | succ c ih =>
    intro i m2 hc E h
    obtain ⟨h1, h2, h3, h4, h5, h6, h7, h8, h9, h10, h11⟩ := h
    obtain ⟨f, hf⟩ := ih (i + 1) (wI m2 16 s i (-1)) (by omega) (E.wI hs _ _ _) ⟨h1, h2, h3, h4, h5, h6, h7, fun j hj => by
      rw [aI_wI]
      by_cases e : j = i
      · subst e; rw [if_pos ⟨rfl, rfl, rfl⟩]
      · rw [if_neg (fun z => e z.2.2)]; exact h8 j (by omega), h9, h10, h11⟩
    refine ⟨f + 1, ?_⟩
    unfold wp_Resources_init_22
    refine ⟨h1, fun u eu => ?_⟩
    rw [h6] at eu
    subst eu
    refine ⟨h2, fun v ev => ?_⟩
    rw [h4] at ev
    subst ev
    refine ⟨fun z => absurd z (nI_ge (by omega) (by omega)), fun _ => ⟨h1, fun u eu => ?_⟩⟩
    rw [h6] at eu
    subst eu
    refine ⟨h2, by rw [h4]; exact vp_in_nI (by omega) (by omega), fun m9 e9 y ey => ?_⟩
    rw [nI_clamp (by omega)] at e9
    subst e9
    subst ey
    rw [nI_1]
    exact hf
theorem c_Resources {m : Mm} {x : Nat} (hx : tg m x = 0) (hz : x ≠ 0) {P : Mm → Prop} (k : ∀ m' s d, Ex m m' → KR m' x s d → P m') : wp_Resources_init (nO m 4 x) x P := by
  unfold wp_Resources_init wp_Resources_init_0
  have E0 : Ex m (nO m 4 x) := (Ex.rf m).nO hx 4
  have X0 : tg (nO m 4 x) x = 4 := by rw [tg_nO, if_pos rfl]
  generalize nO m 4 x = m0 at E0 X0
  refine ⟨hz, ?_⟩
  refine fun s hs zs m1 e1 => ?_
  have S1 : Ex m0 m1 := by rw [e1]; exact (Ex.rf _).nA hs 16 40
  have bs : tg m s = 0 := E0.z hs
  have E1 : Ex m m1 := E0.tr S1
  have G1 := S1.g X0 (by decide)
  have X1 := G1.1
  have ts1 : tg m1 s = 16 := by rw [e1, tg_nA, if_pos rfl]
  have ls1 : ln m1 s = 40 := by rw [e1, ln_nA, if_pos rfl]
  clear e1
  refine ⟨X1, fun m2 e2 => ?_⟩
  have E2 : Ex m m2 := by rw [e2]; exact E1.sR hx _ _ _
  have X2 : tg m2 x = 4 := by rw [e2]; exact X1
  have xR0_2 : gR m2 4 0 x = s := by rw [e2, gR_sR, if_pos ⟨rfl, rfl, rfl⟩]
  have ts2 : tg m2 s = 16 := by rw [e2]; exact ts1
  have ls2 : ln m2 s = 40 := by rw [e2]; exact ls1
  clear e2
  refine fun d hd zd m3 e3 => ?_
  have S3 : Ex m2 m3 := by rw [e3]; exact (Ex.rf _).nA hd 17 40
  have bd : tg m d = 0 := E2.z hd
  have E3 : Ex m m3 := E2.tr S3
  have G3 := S3.g X2 (by decide)
  have X3 := G3.1
  have xR0_3 : gR m3 4 0 x = s := (G3.2.2.2.1 _ _).trans xR0_2
  have Gs3 := S3.g ts2 (by decide)
  have ts3 := Gs3.1
  have ls3 := Gs3.2.1.trans ls2
  have td3 : tg m3 d = 17 := by rw [e3, tg_nA, if_pos rfl]
  have ld3 : ln m3 d = 40 := by rw [e3, ln_nA, if_pos rfl]
  clear e3
  refine ⟨X3, fun m4 e4 => ?_⟩
  have E4 : Ex m m4 := by rw [e4]; exact E3.sR hx _ _ _
  have X4 : tg m4 x = 4 := by rw [e4]; exact X3
  have xR0_4 : gR m4 4 0 x = s := by rw [e4, gR_sR, if_neg (fun z => absurd z.2.1 (by decide))]; exact xR0_3
  have xR1_4 : gR m4 4 1 x = d := by rw [e4, gR_sR, if_pos ⟨rfl, rfl, rfl⟩]
  have ts4 : tg m4 s = 16 := by rw [e4]; exact ts3
  have ls4 : ln m4 s = 40 := by rw [e4]; exact ls3
  have td4 : tg m4 d = 17 := by rw [e4]; exact td3
  have ld4 : ln m4 d = 40 := by rw [e4]; exact ld3
  clear e4
  exact y_Resources (fun m' E K => k m' s d E K) hx bs 40 0 m4 rfl E4 ⟨X4, ts4, td4, ls4, ld4, xR0_4, xR1_4, fun i hi => absurd hi (Nat.not_lt_zero i), hz, zs, zd⟩
