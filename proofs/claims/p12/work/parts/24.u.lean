/-! answers alike: corner, wall -/
theorem c43 {x : Int32} : 4 ≤ x ↔ 3 < x := by
  rw [Int32.le_iff_toInt_le, Int32.lt_iff_toInt_lt, show (4 : Int32).toInt = 4 from by decide, show (3 : Int32).toInt = 3 from by decide]; omega
theorem c98 {x : Int32} : 9 ≤ x ↔ 8 < x := by
  rw [Int32.le_iff_toInt_le, Int32.lt_iff_toInt_lt, show (9 : Int32).toInt = 9 from by decide, show (8 : Int32).toInt = 8 from by decide]; omega
theorem c16 {x : Int32} : ¬ 16 ≤ x ↔ x < 16 := by
  rw [Int32.le_iff_toInt_le, Int32.lt_iff_toInt_lt]; omega
theorem po_eq {gC gS : Nat → Int32} {vw vt : Int64} {corner turn axis : Int32} (e1 : gC (Int32.toNatClampNeg turn) = cs_C (Int32.toNatClampNeg turn)) (e2 : gS (Int32.toNatClampNeg turn) = cs_S (Int32.toNatClampNeg turn)) : fM_placeOf gC gS vw vt corner turn axis = if axis = 0 then fD_turnedX vw vt corner turn else fD_turnedY vw vt corner turn := by
  unfold fM_placeOf fD_turnedX fD_turnedY fD_shutX fD_shutY
  rw [e1, e2]
  repeat' split
  all_goals rfl
theorem tu_of {turn : Int32} (h1 : ¬ turn < 0) (h2 : ¬ 8 < turn) : ∃ t : Nat, t < 9 ∧ turn = nI t := by
  obtain ⟨t, ht, rfl⟩ := nI_of h1
  refine ⟨t, ?_, rfl⟩
  rcases Nat.lt_or_ge t 9 with h | h
  · exact h
  · exact absurd ((l_lta 8 (a := 8) (by decide) (by omega) ht).mpr (by omega)) h2
section QMA
variable {xl : Nat → Int32} {xz : Int32} {dw dh dt dd : Int64} {ox oy oq tl tn ts : Nat → Int32} {tz : Nat} {ul gT gO gV : Nat → Int32} {gX gY gR : Nat → Int64} {gC gS : Nat → Int32} {vs : Int32} {vr : Nat} {vw vh vt vd : Int64}
theorem qm_rows32 (_ : IV xl xz dw dh dt dd ox oy oq tl tn ts tz ul gT gO gV gX gY gR gC gS vs vr vw vh vt vd) (ol : Nat → Int64) (a0 : Int64) (a1 : Int32) : fM_thrown (fM_rows32 a0 a1).2 = (fL_rows32 ol a0 a1).1 ∧ ((fL_rows32 ol a0 a1).1 = 0 → (fL_rows32 ol a0 a1).2 (Int32.toNatClampNeg 0) = Int32.toInt64 (fM_rows32 a0 a1).1) := pm_rows32 ol a0 a1
theorem qm_corner (h : IV xl xz dw dh dt dd ox oy oq tl tn ts tz ul gT gO gV gX gY gR gC gS vs vr vw vh vt vd) (ol : Nat → Int64) (a0 a1 a2 : Int32) : fM_thrown (fM_corner gC gS vw vt a0 a1 a2).2 = (fL_corner dw dt ol a0 a1 a2).1 ∧ ((fL_corner dw dt ol a0 a1 a2).1 = 0 → (fL_corner dw dt ol a0 a1 a2).2 (Int32.toNatClampNeg 0) = (fM_corner gC gS vw vt a0 a1 a2).1) := by
  obtain ⟨-, ⟨⟨rfl, -, rfl, -⟩, -⟩, -, hc, -⟩ := h
  have bad : ∀ (P : Prop), True ∧ ((1 : Int32) = 0 → P) := fun P => ⟨trivial, fun h => absurd h (by decide)⟩
  unfold fL_corner xK_corner fM_corner fM_thrown
  by_cases c0 : a0 < 0
  · simp only [if_pos c0, ec_L_corner_IOB]; exact bad _
  by_cases c1 : 3 < a0
  · simp only [if_neg c0, if_pos c1, if_pos (c43.mpr c1), ec_L_corner_IOB]; exact bad _
  by_cases c2 : a1 < 0
  · simp only [if_neg c0, if_neg c1, if_neg (fun q => c1 (c43.mp q)), if_pos c2, ec_L_corner_IOB]; exact bad _
  by_cases c3 : 8 < a1
  · simp only [if_neg c0, if_neg c1, if_neg (fun q => c1 (c43.mp q)), if_neg c2, if_pos c3, if_pos (c98.mpr c3), ec_L_corner_IOB]; exact bad _
  by_cases c4 : a2 < 0
  · simp only [if_neg c0, if_neg c1, if_neg (fun q => c1 (c43.mp q)), if_neg c2, if_neg c3, if_neg (fun q => c3 (c98.mp q)), if_pos c4, ec_L_corner_IOB]; exact bad _
  by_cases c5 : a2 ≤ 1
  · simp only [if_neg c0, if_neg c1, if_neg (fun q => c1 (c43.mp q)), if_neg c2, if_neg c3, if_neg (fun q => c3 (c98.mp q)), if_neg c4, if_pos c5]
    obtain ⟨t, ht, rfl⟩ := tu_of c2 c3
    have e := hc t ht
    rw [po_eq (by rw [nI_clamp (by omega)]; exact e.1) (by rw [nI_clamp (by omega)]; exact e.2)]
    by_cases c6 : a2 = 0
    · simp only [if_pos c6]; exact ⟨trivial, fun _ => updL_at⟩
    · simp only [if_neg c6]; exact ⟨trivial, fun _ => updL_at⟩
  · simp only [if_neg c0, if_neg c1, if_neg (fun q => c1 (c43.mp q)), if_neg c2, if_neg c3, if_neg (fun q => c3 (c98.mp q)), if_neg c4, if_neg c5, ec_L_corner_IOB]; exact bad _
end QMA
theorem mn_le {T a b : Int64} : T ≤ (if b < a then b else a) ↔ T ≤ a ∧ T ≤ b := by
  split
  · rename_i h
    rw [Int64.lt_iff_toInt_lt] at h
    simp only [Int64.le_iff_toInt_le]; omega
  · rename_i h
    rw [Int64.lt_iff_toInt_lt] at h
    simp only [Int64.le_iff_toInt_le]; omega
theorem lx_le4 {T dw dt : Int64} {turn : Int32} : T ≤ fD_leastX dw dt turn ↔ ((T ≤ fD_turnedX dw dt 0 turn ∧ T ≤ fD_turnedX dw dt 1 turn) ∧ T ≤ fD_turnedX dw dt 2 turn) ∧ T ≤ fD_turnedX dw dt 3 turn := by
  unfold fD_leastX
  rw [mn_le, mn_le, mn_le]
theorem wl_row {gC gS : Nat → Int32} {vw vt dist : Int64} (hc : iv_c gC gS) {tu : Nat} (ht : tu < 9) (f : Nat) : gM_wall gC gS vw vt dist (f + 5) tu 0 = if (-65) * dist ≤ fD_leastX vw vt (nI tu) then (if 9 ≤ nI (tu + 1) then (8, 0) else gM_wall gC gS vw vt dist f (tu + 1) 0) else (nI tu - 1, 0) := by
  have e := hc tu ht
  have po : ∀ co : Int32, fM_placeOf gC gS vw vt co (nI tu) 0 = fD_turnedX vw vt co (nI tu) := fun co => by
    rw [po_eq (by rw [nI_clamp (by omega)]; exact e.1) (by rw [nI_clamp (by omega)]; exact e.2), if_pos rfl]
  have e0 : nI 0 = 0 := by decide
  have e1 : nI 1 = 1 := by decide
  have e2 : nI 2 = 2 := by decide
  have e3 : nI 3 = 3 := by decide
  rw [gM_wall, if_neg (by decide), po, e0]
  by_cases c0 : (-65) * dist ≤ fD_turnedX vw vt 0 (nI tu)
  · rw [if_pos c0, gM_wall, if_neg (by decide), po, show nI (0 + 1) = 1 from e1]
    by_cases c1 : (-65) * dist ≤ fD_turnedX vw vt 1 (nI tu)
    · rw [if_pos c1, gM_wall, if_neg (by decide), po, show nI (0 + 1 + 1) = 2 from e2]
      by_cases c2 : (-65) * dist ≤ fD_turnedX vw vt 2 (nI tu)
      · rw [if_pos c2, gM_wall, if_neg (by decide), po, show nI (0 + 1 + 1 + 1) = 3 from e3]
        by_cases c3 : (-65) * dist ≤ fD_turnedX vw vt 3 (nI tu)
        · rw [if_pos c3, gM_wall, if_pos (by decide), if_pos (lx_le4.mpr ⟨⟨⟨c0, c1⟩, c2⟩, c3⟩)]
        · rw [if_neg c3, if_neg (fun q => c3 (lx_le4.mp q).2)]
      · rw [if_neg c2, if_neg (fun q => c2 (lx_le4.mp q).1.2)]
    · rw [if_neg c1, if_neg (fun q => c1 (lx_le4.mp q).1.1.2)]
  · rw [if_neg c0, if_neg (fun q => c0 (lx_le4.mp q).1.1.1)]
theorem ng_65 {d : Int64} (h1 : -10000 ≤ d.toInt) (h2 : d.toInt ≤ 10000) : (-d) * 65 = (-65) * d := by
  have z : (65 : Int64).toInt = 65 := by decide
  have z2 : (-65 : Int64).toInt = -65 := by decide
  have e1 : (-d).toInt = -d.toInt := by rw [Int64.toInt_neg]; exact z64_m (by omega) (by omega)
  apply Int64.toInt_inj.mp
  rw [z64_mul (by rw [e1, z]; omega) (by rw [e1, z]; omega), z64_mul (by rw [z2]; omega) (by rw [z2]; omega), e1, z, z2]
  omega
theorem wl_all {gC gS : Nat → Int32} {vw vt dist : Int64} (hc : iv_c gC gS) (hd : (-dist) * 65 = (-65) * dist) : ∀ (m tu n f : Nat), tu + m + 1 = 9 → m + 2 ≤ n → 5 * (m + 1) ≤ f → ∃ v : Int32, gK_wall vw vt dist n tu = .ok v ∧ gM_wall gC gS vw vt dist f tu 0 = (v, 0) := by
  intro m
  induction m with
  | zero =>
    intro tu n f h1 h2 h3
    obtain ⟨n, rfl⟩ : ∃ q, n = q + 1 + 1 := ⟨n - 2, by omega⟩
    obtain ⟨f, rfl⟩ : ∃ q, f = q + 5 := ⟨f - 5, by omega⟩
    have e8 : tu = 8 := by omega
    subst e8
    rw [wl_row hc (by omega), gK_wall, if_neg (by decide), hd]
    by_cases c : (-65) * dist ≤ fD_leastX vw vt (nI 8)
    · rw [if_pos c, if_pos c, if_pos (by decide), gK_wall, if_pos (by decide)]
      exact ⟨_, rfl, rfl⟩
    · rw [if_neg c, if_neg c, if_neg (by decide)]
      exact ⟨_, rfl, rfl⟩
  | succ m ih =>
    intro tu n f h1 h2 h3
    obtain ⟨n, rfl⟩ : ∃ q, n = q + 1 := ⟨n - 1, by omega⟩
    obtain ⟨f, rfl⟩ : ∃ q, f = q + 5 := ⟨f - 5, by omega⟩
    rw [wl_row hc (by omega), gK_wall, if_neg (l_ge 9 (b := 9) (by decide) (by omega) (by omega)), hd]
    by_cases c : (-65) * dist ≤ fD_leastX vw vt (nI tu)
    · rw [if_pos c, if_pos c, if_neg (l_ge 9 (b := 9) (by decide) (by omega) (by omega))]
      exact ih (tu + 1) n f (by omega) (by omega) (by omega)
    · rw [if_neg c, if_neg c]
      by_cases c0 : tu = 0
      · subst c0
        rw [if_pos (by decide)]
        exact ⟨_, rfl, by decide⟩
      · rw [if_neg (nI_ne0 (by omega) (by omega))]
        exact ⟨_, rfl, rfl⟩
section QMB
variable {xl : Nat → Int32} {xz : Int32} {dw dh dt dd : Int64} {ox oy oq tl tn ts : Nat → Int32} {tz : Nat} {ul gT gO gV : Nat → Int32} {gX gY gR : Nat → Int64} {gC gS : Nat → Int32} {vs : Int32} {vr : Nat} {vw vh vt vd : Int64}
theorem qm_wall (h : IV xl xz dw dh dt dd ox oy oq tl tn ts tz ul gT gO gV gX gY gR gC gS vs vr vw vh vt vd) (ol : Nat → Int64) (a0 : Int64) : fM_thrown (fM_wall gC gS vw vt a0).2 = (fL_wall dw dt ol a0).1 ∧ ((fL_wall dw dt ol a0).1 = 0 → (fL_wall dw dt ol a0).2 (Int32.toNatClampNeg 0) = Int32.toInt64 (fM_wall gC gS vw vt a0).1) := by
  obtain ⟨-, ⟨⟨rfl, -, rfl, -⟩, -⟩, -, hc, -⟩ := h
  unfold fL_wall xK_wall fM_wall fM_thrown
  rw [wi_eq _ (show Int32.toInt64 (-10000) = -10000 from by decide) (show Int32.toInt64 10000 = 10000 from by decide)]
  by_cases c0 : fM_isIn a0 (-10000) 10000 = 0
  · simp only [if_pos c0, ec_L_wall_IAE]
    exact ⟨trivial, fun h => absurd h (by decide)⟩
  · have b := in_toInt c0
    rw [show (-10000 : Int64).toInt = -10000 from by decide, show (10000 : Int64).toInt = 10000 from by decide] at b
    obtain ⟨v, e1, e2⟩ := wl_all (vw := dw) (vt := dt) hc (ng_65 b.1 b.2) 8 0 10 50 (by omega) (by omega) (by omega)
    simp only [if_neg c0, e1, e2]
    exact ⟨trivial, fun _ => updL_at⟩
end QMB
/-! holes -/
theorem r0_le {x : Int32} (h : 0 ≤ x) : x.toInt64 ≤ 0 ↔ x = 0 := by
  rw [Int64.le_iff_toInt_le, Int32.toInt_toInt64, z64_0]
  rw [Int32.le_iff_toInt_le] at h
  have z : (0 : Int32).toInt = 0 := by decide
  constructor
  · intro q
    exact Int32.toInt_inj.mp (by omega)
  · intro q
    rw [q]; omega
theorem ov_eq {ox oy oq : Nat → Int32} {gX gY gR : Nat → Int64} (h : iv_o ox oy oq gX gY gR) {i j : Nat} (hi : i < 16) (hj : j < 16) : fH_overlap ox oy oq (nI i) (nI j) = fM_meets gX gY gR (nI i) (nI j) := by
  unfold fH_overlap fM_meets
  rw [nI_clamp (n := i) (by omega), nI_clamp (n := j) (by omega)]
  obtain ⟨r1, p1, q1⟩ := h i hi
  obtain ⟨r2, p2, q2⟩ := h j hj
  by_cases c : nI i = nI j
  · rw [if_pos c, if_pos c]
  rw [if_neg c, if_neg c]
  by_cases d1 : oq i = 0
  · have g1 : gR i ≤ 0 := by rw [r1]; exact (r0_le p1).mpr d1
    rw [if_pos d1, if_pos g1]
  have g1 : ¬ gR i ≤ 0 := by rw [r1]; exact fun q => d1 ((r0_le p1).mp q)
  rw [if_neg d1, if_neg g1]
  by_cases d2 : oq j = 0
  · have g2 : gR j ≤ 0 := by rw [r2]; exact (r0_le p2).mpr d2
    rw [if_pos d2, if_pos g2]
  have g2 : ¬ gR j ≤ 0 := by rw [r2]; exact fun q => d2 ((r0_le p2).mp q)
  rw [if_neg d2, if_neg g2, r1, r2, (q1 d1).1, (q1 d1).2, (q2 d2).1, (q2 d2).2]
theorem pr_all {ox oy oq : Nat → Int32} {gX gY gR : Nat → Int64} {k : Int32} (h : iv_o ox oy oq gX gY gR) : ∀ (n : Nat) (left : Int32) (a b : Nat), a < 16 → b ≤ 17 → (gM_pair gX gY gR k n left a b).1 = gH_overlappingPair ox oy oq k n left a b ∧ (gM_pair gX gY gR k n left a b).2 = 0 := by
  intro n
  induction n with
  | zero => intro left a b ha hb; exact ⟨rfl, rfl⟩
  | succ n ih =>
    intro left a b ha hb
    rw [gM_pair, gH_overlappingPair]
    by_cases c : b < 16
    · have cb : ¬ (16 : Int32) ≤ nI b := l_ge 16 (b := 16) (by decide) c (by omega)
      simp only [if_neg cb, ov_eq h ha c]
      by_cases c2 : fM_meets gX gY gR (nI a) (nI b) = 0
      · simp only [if_pos c2]
        exact ih _ _ _ ha (by omega)
      · by_cases c3 : left = 0
        · simp only [if_neg c2, if_pos c3]
          exact ⟨trivial, trivial⟩
        · simp only [if_neg c2, if_neg c3]
          exact ih _ _ _ ha (by omega)
    · have cb : (16 : Int32) ≤ nI b := l_le 16 (a := 16) (by decide) (by omega) (by omega)
      by_cases c2 : a + 1 < 16
      · have ca : ¬ (16 : Int32) ≤ nI (a + 1) := l_ge 16 (b := 16) (by decide) c2 (by omega)
        simp only [if_pos cb, if_neg ca]
        exact ih _ _ _ c2 (by omega)
      · have ca : (16 : Int32) ≤ nI (a + 1) := l_le 16 (a := 16) (by decide) (by omega) (by omega)
        simp only [if_pos cb, if_pos ca]
        exact ⟨trivial, trivial⟩
section QMC
variable {xl : Nat → Int32} {xz : Int32} {dw dh dt dd : Int64} {ox oy oq tl tn ts : Nat → Int32} {tz : Nat} {ul gT gO gV : Nat → Int32} {gX gY gR : Nat → Int64} {gC gS : Nat → Int32} {vs : Int32} {vr : Nat} {vw vh vt vd : Int64}
theorem qm_meet (h : IV xl xz dw dh dt dd ox oy oq tl tn ts tz ul gT gO gV gX gY gR gC gS vs vr vw vh vt vd) (ol : Nat → Int64) (a0 a1 : Int32) : fM_thrown (fM_meet gX gY gR a0 a1).2 = (fL_meet ox oy oq ol a0 a1).1 ∧ ((fL_meet ox oy oq ol a0 a1).1 = 0 → (fL_meet ox oy oq ol a0 a1).2 (Int32.toNatClampNeg 0) = if (fM_meet gX gY gR a0 a1).1 = 0 then 0 else 1) := by
  have ho := h.2.2.1
  have bad : ∀ (P : Prop), True ∧ ((1 : Int32) = 0 → P) := fun P => ⟨trivial, fun h => absurd h (by decide)⟩
  unfold fL_meet xK_meet fM_meet fM_thrown
  by_cases c0 : a0 < 0
  · simp only [if_pos c0, ec_L_meet_IOB]; exact bad _
  by_cases c1 : a0 < 16
  · by_cases c2 : a1 < 0
    · simp only [if_neg c0, if_pos c1, if_neg (c16.mpr c1), if_pos c2, ec_L_meet_IOB]; exact bad _
    by_cases c3 : a1 < 16
    · obtain ⟨i, hi, rfl⟩ := nI_of c0
      obtain ⟨j, hj, rfl⟩ := nI_of c2
      have hi2 := (l_ltb 16 (b := 16) (by decide) hi (by omega)).mp c1
      have hj2 := (l_ltb 16 (b := 16) (by decide) hj (by omega)).mp c3
      simp only [if_neg c0, if_pos c1, if_neg (c16.mpr c1), if_neg c2, if_pos c3, ov_eq ho hi2 hj2]
      by_cases c4 : fM_meets gX gY gR (nI i) (nI j) = 0
      · simp only [if_pos c4]; exact ⟨trivial, fun _ => updL_at⟩
      · simp only [if_neg c4]; exact ⟨trivial, fun _ => updL_at⟩
    · simp only [if_neg c0, if_pos c1, if_neg (c16.mpr c1), if_neg c2, if_neg c3, ec_L_meet_IOB]; exact bad _
  · have c5 : (16 : Int32) ≤ a0 := Classical.byContradiction (fun q => c1 (c16.mp q))
    simp only [if_neg c0, if_neg c1, if_pos c5, ec_L_meet_IOB]; exact bad _
theorem qm_pair (h : IV xl xz dw dh dt dd ox oy oq tl tn ts tz ul gT gO gV gX gY gR gC gS vs vr vw vh vt vd) (ol : Nat → Int64) (a0 : Int32) : fM_thrown (fM_pair gX gY gR a0).2 = (fL_pair ox oy oq ol a0).1 ∧ ((fL_pair ox oy oq ol a0).1 = 0 → (fL_pair ox oy oq ol a0).2 (Int32.toNatClampNeg 0) = Int32.toInt64 (fM_pair gX gY gR a0).1) := by
  have ho := h.2.2.1
  unfold fL_pair xK_pair fM_pair fM_thrown fH_overlappingPair
  by_cases c0 : 0 ≤ a0
  · have e := pr_all (k := a0) ho 300 a0 0 1 (by omega) (by omega)
    simp only [if_pos c0, e.1, e.2]
    exact ⟨trivial, fun _ => updL_at⟩
  · simp only [if_neg c0, ec_L_pair_IOB]
    exact ⟨trivial, fun h => absurd h (by decide)⟩
theorem qm_unit (h : IV xl xz dw dh dt dd ox oy oq tl tn ts tz ul gT gO gV gX gY gR gC gS vs vr vw vh vt vd) (u : Int32) : (fK_unit xl xz u).1 = (fM_unit gT vs u).1 := by
  obtain ⟨⟨w, hw, rfl, rfl, -⟩, -⟩ := h
  unfold fK_unit fS_add fM_unit
  by_cases c3 : w < 300
  · have d1 : nI w < 300 := (l_ltb 300 (b := 300) (by decide) (by omega) (by omega)).mpr c3
    have d2 : ¬ (300 : Int32) ≤ nI w := l_ge 300 (b := 300) (by decide) c3 (by omega)
    simp only [if_pos d1, if_neg d2]
    repeat' split
    all_goals rfl
  · have d1 : ¬ nI w < 300 := l_nlt 300 (b := 300) (by decide) (by omega) (by omega)
    have d2 : (300 : Int32) ≤ nI w := l_le 300 (a := 300) (by decide) (by omega) (by omega)
    simp only [if_neg d1, if_pos d2]
    repeat' split
    all_goals rfl
theorem qm_door (h : IV xl xz dw dh dt dd ox oy oq tl tn ts tz ul gT gO gV gX gY gR gC gS vs vr vw vh vt vd) (ol : Nat → Int64) (a0 a1 a2 a3 : Int64) : fM_thrown (fM_door vw vh vt vd a0 a1 a2 a3).2.1 = (fL_door dw dh dt dd ol a0 a1 a2 a3).1 ∧ ((fL_door dw dh dt dd ol a0 a1 a2 a3).1 = 0 → (fL_door dw dh dt dd ol a0 a1 a2 a3).2.1 (Int32.toNatClampNeg 0) = if (fM_door vw vh vt vd a0 a1 a2 a3).1 = 0 then 0 else 1) := by
  obtain ⟨-, ⟨⟨rfl, rfl, rfl, rfl⟩, -⟩, -⟩ := h
  have bad : ∀ (P : Prop), True ∧ ((1 : Int32) = 0 → P) := fun P => ⟨trivial, fun h => absurd h (by decide)⟩
  unfold fL_door xK_door fM_door fM_thrown
  simp only [od_eq]
  by_cases c0 : fM_isSize a0 = 0
  · simp only [if_pos c0, ec_L_door_IAE]; exact bad _
  by_cases c1 : fM_isSize a1 = 0
  · simp only [if_neg c0, if_pos c1, ec_L_door_IAE]; exact bad _
  by_cases c2 : fM_isSize a2 = 0
  · simp only [if_neg c0, if_neg c1, if_pos c2, ec_L_door_IAE]; exact bad _
  by_cases c3 : fM_isSize a3 = 0
  · simp only [if_neg c0, if_neg c1, if_neg c2, if_pos c3, ec_L_door_IAE]; exact bad _
  simp only [if_neg c0, if_neg c1, if_neg c2, if_neg c3]
  have e : ∀ P : Prop, ∀ _ : Decidable P, (P ↔ dw = a0 ∧ dh = a1 ∧ dt = a2 ∧ dd = a3) → (fD_change dw dh dt dd a0 a1 a2 a3).1 = if P then 0 else 1 := by
    intro P _ hP
    unfold fD_change
    by_cases q0 : dw = a0
    · by_cases q1 : dh = a1
      · by_cases q2 : dt = a2
        · by_cases q3 : dd = a3
          · rw [if_pos q0, if_pos q1, if_pos q2, if_pos q3, if_pos (hP.mpr ⟨q0, q1, q2, q3⟩)]
          · have n : ¬ P := fun z => q3 (hP.mp z).2.2.2
            rw [if_pos q0, if_pos q1, if_pos q2, if_neg q3, if_neg n]
        · have n : ¬ P := fun z => q2 (hP.mp z).2.2.1
          rw [if_pos q0, if_pos q1, if_neg q2, if_neg n]
      · have n : ¬ P := fun z => q1 (hP.mp z).2.1
        rw [if_pos q0, if_neg q1, if_neg n]
    · have n : ¬ P := fun z => q0 (hP.mp z).1
      rw [if_neg q0, if_neg n]
  have e0 := e True inferInstance
  have e1 := e False inferInstance
  by_cases q0 : dw = a0
  · by_cases q1 : dh = a1
    · by_cases q2 : dt = a2
      · by_cases q3 : dd = a3
        · rw [e0 ⟨fun _ => ⟨q0, q1, q2, q3⟩, fun _ => trivial⟩, if_pos q0.symm, if_pos q1.symm, if_pos q2.symm, if_pos q3.symm]
          exact ⟨rfl, fun _ => updL_at⟩
        · rw [e1 ⟨fun z => z.elim, fun z => q3 z.2.2.2⟩, if_pos q0.symm, if_pos q1.symm, if_pos q2.symm, if_neg (Ne.symm q3)]
          exact ⟨rfl, fun _ => updL_at⟩
      · rw [e1 ⟨fun z => z.elim, fun z => q2 z.2.2.1⟩, if_pos q0.symm, if_pos q1.symm, if_neg (Ne.symm q2)]
        exact ⟨rfl, fun _ => updL_at⟩
    · rw [e1 ⟨fun z => z.elim, fun z => q1 z.2.1⟩, if_pos q0.symm, if_neg (Ne.symm q1)]
      exact ⟨rfl, fun _ => updL_at⟩
  · rw [e1 ⟨fun z => z.elim, fun z => q0 z.1⟩, if_neg (Ne.symm q0)]
    exact ⟨rfl, fun _ => updL_at⟩
end QMC
