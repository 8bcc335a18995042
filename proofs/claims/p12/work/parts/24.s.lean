def iv_t (tl tn ts : Nat → Int32) (tz : Nat) (ul gO gV : Nat → Int32) (vr : Nat) : Prop := (tz = vr ∧ tz ≤ 16) ∧ (∀ j, ch_ok (tl j)) ∧ (∀ j, ch_ok (ul j)) ∧ rows_ok tl tn gO tz ∧ ∀ r, r < tz → ts r = gV r
def IV (xl : Nat → Int32) (xz : Int32) (dw dh dt dd : Int64) (ox oy oq tl tn ts : Nat → Int32) (tz : Nat) (ul gT gO gV : Nat → Int32) (gX gY gR : Nat → Int64) (gC gS : Nat → Int32) (vs : Int32) (vr : Nat) (vw vh vt vd : Int64) : Prop :=
  iv_x xl gT xz vs ∧ iv_d dw dh dt dd vw vh vt vd ∧ iv_o ox oy oq gX gY gR ∧ iv_c gC gS ∧ iv_t tl tn ts tz ul gO gV vr
section IVA
variable {xl : Nat → Int32} {xz : Int32} {dw dh dt dd : Int64} {ox oy oq tl tn ts : Nat → Int32} {tz : Nat} {ul gT gO gV : Nat → Int32} {gX gY gR : Nat → Int64} {gC gS : Nat → Int32} {vs : Int32} {vr : Nat} {vw vh vt vd : Int64}
theorem pv_xin (h : IV xl xz dw dh dt dd ox oy oq tl tn ts tz ul gT gO gV gX gY gR gC gS vs vr vw vh vt vd) : xz < 300 → vp_in xz 300 := by
  obtain ⟨⟨w, hw, rfl, -⟩, -⟩ := h
  intro h2
  exact vp_in_nI ((nI_ltI (b := 300) (by omega) (by omega)).mp h2) (by omega)
theorem pv_min (h : IV xl xz dw dh dt dd ox oy oq tl tn ts tz ul gT gO gV gX gY gR gC gS vs vr vw vh vt vd) : ¬ 300 ≤ vs → vp_in vs 300 := by
  obtain ⟨⟨w, hw, -, rfl, -⟩, -⟩ := h
  intro h2
  exact vp_in_nI (nx_lt (a := w) (b := 300) (by omega) (by omega) h2) (by omega)
theorem pv_xp (h : IV xl xz dw dh dt dd ox oy oq tl tn ts tz ul gT gO gV gX gY gR gC gS vs vr vw vh vt vd) : ∀ q : Int32, ¬ q < 0 → ¬ xz ≤ q → vp_in q 300 := by
  obtain ⟨⟨w, hw, rfl, -⟩, -⟩ := h
  intro q h1 h2
  obtain ⟨j, hj, rfl⟩ := nI_of h1
  exact vp_in_nI (by have := nx_lt (a := j) (b := w) hj (by omega) h2; omega) (by omega)
theorem pv_xch (h : IV xl xz dw dh dt dd ox oy oq tl tn ts tz ul gT gO gV gX gY gR gC gS vs vr vw vh vt vd) : ∀ j, narrow .char (.int (xl j)) = .int (xl j) := by
  obtain ⟨⟨w, hw, -, -, h2, -⟩, -⟩ := h
  exact h2
theorem pv_vs (h : IV xl xz dw dh dt dd ox oy oq tl tn ts tz ul gT gO gV gX gY gR gC gS vs vr vw vh vt vd) : ∃ w : Nat, w ≤ 300 ∧ vs = nI w := by
  obtain ⟨⟨w, hw, -, h2, -⟩, -⟩ := h
  exact ⟨w, hw, h2⟩
theorem pv_tz (h : IV xl xz dw dh dt dd ox oy oq tl tn ts tz ul gT gO gV gX gY gR gC gS vs vr vw vh vt vd) : tz ≤ 16 := h.2.2.2.2.1.2
theorem pv_tch (h : IV xl xz dw dh dt dd ox oy oq tl tn ts tz ul gT gO gV gX gY gR gC gS vs vr vw vh vt vd) : ∀ j, narrow .char (.int (tl j)) = .int (tl j) := h.2.2.2.2.2.1
theorem pv_vr (h : IV xl xz dw dh dt dd ox oy oq tl tn ts tz ul gT gO gV gX gY gR gC gS vs vr vw vh vt vd) : vr ≤ 16 := by
  have := h.2.2.2.2.1
  omega
theorem pv_O (h : IV xl xz dw dh dt dd ox oy oq tl tn ts tz ul gT gO gV gX gY gR gC gS vs vr vw vh vt vd) : ∀ x y : Int32, ¬ x < 0 → x < nI vr → ¬ y < -1 → ¬ y = -1 → y < gO (Int32.toNatClampNeg (8 * x + 1)) → vp_in (8 * x + 2 + y) 128 := by
  intro x y h1 h2 h3 h4 h5
  have hv := pv_vr h
  obtain ⟨r, hr, rfl⟩ := nx_r hv h1 h2
  have e1 : (8 : Int32) * nI r + 1 = nI (8 * r + 1) := by rw [show (8 : Int32) * nI r = nI (8 * r) from pk_mul 8 r, nI_1]
  rw [e1, nI_clamp (by omega)] at h5
  obtain ⟨L, -, -, -, -, ew, -⟩ := h.2.2.2.2.2.2.2.1 r (by have := h.2.2.2.2.1; omega)
  obtain ⟨w, hw, ew2⟩ : ∃ w : Nat, w ≤ 6 ∧ nI (lsz L) = nI w := ⟨_, lsz_6 L, rfl⟩
  rw [ew2] at ew
  rw [ew] at h5
  have h6 : ¬ y < 0 := by
    rw [Int32.lt_iff_toInt_lt] at h3 ⊢
    have z0 : (0 : Int32).toInt = 0 := by decide
    have z1 : (-1 : Int32).toInt = -1 := by decide
    have h7 : ¬ y.toInt = -1 := fun q => h4 (Int32.toInt_inj.mp (by rw [q, z1]))
    omega
  obtain ⟨j, hj, rfl⟩ := nI_of h6
  have hjw : j < w := (nI_ltI hj (by omega)).mp h5
  exact n8_2 j (by omega) (by omega) rfl
end IVA
section IVB
variable {xl : Nat → Int32} {xz : Int32} {dw dh dt dd : Int64} {ox oy oq tl tn ts : Nat → Int32} {tz : Nat} {ul gT gO gV : Nat → Int32} {gX gY gR : Nat → Int64} {gC gS : Nat → Int32} {vs : Int32} {vr : Nat} {vw vh vt vd : Int64}
theorem pv_g0 (h : IV xl xz dw dh dt dd ox oy oq tl tn ts tz ul gT gO gV gX gY gR gC gS vs vr vw vh vt vd) : ¬ fM_grams vw vh vt vd < 0 := by
  obtain ⟨-, ⟨-, ⟨a, a1, a2, rfl⟩, ⟨b, b1, b2, rfl⟩, ⟨c, c1, c2, rfl⟩, d, d1, d2, rfl⟩, -⟩ := h
  rw [gr_n]
  have := gr_le a2 b2 c2 d2
  exact nl0 (by omega)
theorem pv_g1 (h : IV xl xz dw dh dt dd ox oy oq tl tn ts tz ul gT gO gV gX gY gR gC gS vs vr vw vh vt vd) : ¬ fM_common (fM_grams vw vh vt vd) 1000000 = 0 := by
  obtain ⟨-, ⟨-, ⟨a, a1, a2, rfl⟩, ⟨b, b1, b2, rfl⟩, ⟨c, c1, c2, rfl⟩, d, d1, d2, rfl⟩, -⟩ := h
  rw [gr_n]
  have := gr_le a2 b2 c2 d2
  exact fc_ne (y := 1000000) (by omega) (by omega) (by omega)
theorem pv_p1 (h : IV xl xz dw dh dt dd ox oy oq tl tn ts tz ul gT gO gV gX gY gR gC gS vs vr vw vh vt vd) : ¬ (2 * vh) < 0 ∧ ¬ fM_common (2 * vh) 4 = 0 := by
  obtain ⟨-, ⟨-, -, ⟨b, b1, b2, rfl⟩, -⟩, -⟩ := h
  rw [show (2 : Int64) * lN b = lN (2 * b) from lN_mul 2 b]
  exact ⟨nl0 (by omega), fc_ne (y := 4) (by omega) (by omega) (by omega)⟩
theorem pl_n {h g i j : Nat} (hg : g ≤ h) : lN g * Int32.toInt64 (nI (j + 1 + 1) - 1) + Int32.toInt64 (nI i) * (4 * lN h - 2 * lN g) = lN g * (nI (j + 1)).toInt64 + (nI i).toInt64 * lN (4 * h - 2 * g) := by
  rw [nI_pred, show (4 : Int64) * lN h = lN (4 * h) from lN_mul 4 h, show (2 : Int64) * lN g = lN (2 * g) from lN_mul 2 g, lN_sub (by omega)]
theorem pv_p2 (h : IV xl xz dw dh dt dd ox oy oq tl tn ts tz ul gT gO gV gX gY gR gC gS vs vr vw vh vt vd) (k : Int32) : ∀ mg : Int64, (mg = vh ∨ mg = 320 ∧ 320 ≤ vh) → ∀ nn : Int32, ¬ nn < 0 → ¬ nn = 1 → ¬ k < 0 → ¬ nn ≤ k → ¬ (mg * Int32.toInt64 (nn - 1) + Int32.toInt64 k * (4 * vh - 2 * mg)) < 0 ∧ ¬ (4 * Int32.toInt64 (nn - 1)) < 0 ∧ ¬ fM_common (mg * Int32.toInt64 (nn - 1) + Int32.toInt64 k * (4 * vh - 2 * mg)) (4 * Int32.toInt64 (nn - 1)) = 0 := by
  obtain ⟨-, ⟨-, -, ⟨b, b1, b2, rfl⟩, -⟩, -⟩ := h
  intro mg hmg nn h1 h2 h3 h4
  obtain ⟨j, hj, rfl⟩ := nI_of h1
  obtain ⟨i, hi, rfl⟩ := nI_of h3
  have hij := nx_lt (a := i) (b := j) hi hj h4
  have hj1 : j ≠ 1 := fun e => h2 (by rw [e]; decide)
  obtain ⟨j, rfl⟩ : ∃ q, j = q + 1 + 1 := ⟨j - 2, by omega⟩
  obtain ⟨g, hg, rfl⟩ : ∃ g : Nat, g ≤ b ∧ mg = lN g := by
    rcases hmg with e | ⟨e, e2⟩
    · exact ⟨b, Nat.le_refl _, e⟩
    · exact ⟨320, (lN_le (a := 320) (by omega) (by omega)).mp e2, e⟩
  have m1 : g * (j + 1) ≤ 10000 * 2 ^ 31 := Nat.mul_le_mul (by omega) (by omega)
  have m2 : i * (4 * b - 2 * g) ≤ 2 ^ 31 * 40000 := Nat.mul_le_mul (by omega) (by omega)
  rw [pl_n hg, nI_pred, nI_l (by omega), nI_l (by omega), lN_mul, lN_mul, lN_add, show (4 : Int64) * lN (j + 1) = lN (4 * (j + 1)) from lN_mul 4 _]
  exact ⟨nl0 (by omega), nl0 (by omega), fc_ne (by omega) (by omega) (by omega)⟩
theorem ux_unit (u : Int32) (h : iv_x xl gT xz vs) : iv_x (fK_unit xl xz u).2.1 (fM_unit gT vs u).2.2.1 (fK_unit xl xz u).2.2 (fM_unit gT vs u).2.2.2 := by
  obtain ⟨w, hw, rfl, rfl, h1, h2⟩ := h
  have keep : iv_x xl gT (nI w) (nI w) := ⟨w, hw, rfl, rfl, h1, h2⟩
  by_cases c1 : u < 33
  · simp only [fK_unit, fS_add, fM_unit, if_pos c1]
    split <;> exact keep
  · by_cases c2 : 126 < u
    · simp only [fK_unit, fS_add, fM_unit, if_neg c1, if_pos c2]
      split <;> exact keep
    · by_cases c3 : w < 300
      · have d1 : nI w < 300 := (nI_ltI (b := 300) (by omega) (by omega)).mpr c3
        have d2 : ¬ (300 : Int32) ≤ nI w := nI_ge (b := 300) c3 (by omega)
        simp only [fK_unit, fS_add, fM_unit, if_neg c1, if_neg c2, if_pos d1, if_neg d2]
        have c0 : ¬ u < 0 := by
          rw [Int32.lt_iff_toInt_lt] at c1 ⊢
          have z0 : (0 : Int32).toInt = 0 := by decide
          have z1 : (33 : Int32).toInt = 33 := by decide
          omega
        obtain ⟨j, hj, rfl⟩ := nI_of c0
        have j1 : ¬ j < 33 := fun q => c1 ((nI_ltI (b := 33) hj (by omega)).mpr q)
        have j2 : ¬ 126 < j := fun q => c2 ((nI_ltI (a := 126) (by omega) hj).mpr q)
        refine ⟨w + 1, by omega, nI_1 w, nI_1 w, ch_upd h1, ?_⟩
        intro q hq
        rw [nI_clamp (n := w) (by omega), ch_u j (by omega)]
        unfold upd
        by_cases e : q = w
        · rw [if_pos e, if_pos e]
          exact ⟨rfl, j, by omega, by omega, rfl⟩
        · rw [if_neg e, if_neg e]
          exact h2 q (by omega)
      · have d1 : ¬ nI w < 300 := nI_nlt (b := 300) (by omega) (by omega)
        have d2 : (300 : Int32) ≤ nI w := nI_le (a := 300) (by omega) (by omega)
        simp only [fK_unit, fS_add, fM_unit, if_neg c1, if_neg c2, if_neg d1, if_pos d2]
        exact keep
theorem pv_unit (h : IV xl xz dw dh dt dd ox oy oq tl tn ts tz ul gT gO gV gX gY gR gC gS vs vr vw vh vt vd) (u : Int32) : IV (fK_unit xl xz u).2.1 (fK_unit xl xz u).2.2 dw dh dt dd ox oy oq tl tn ts tz ul (fM_unit gT vs u).2.2.1 gO gV gX gY gR gC gS (fM_unit gT vs u).2.2.2 vr vw vh vt vd :=
  ⟨ux_unit u h.1, h.2⟩
theorem ux_door (ol : Nat → Int64) (a0 a1 a2 a3 : Int64) (h : iv_d dw dh dt dd vw vh vt vd) : iv_d (fL_door dw dh dt dd ol a0 a1 a2 a3).2.2.1 (fL_door dw dh dt dd ol a0 a1 a2 a3).2.2.2.1 (fL_door dw dh dt dd ol a0 a1 a2 a3).2.2.2.2.1 (fL_door dw dh dt dd ol a0 a1 a2 a3).2.2.2.2.2 (fM_door vw vh vt vd a0 a1 a2 a3).2.2.1 (fM_door vw vh vt vd a0 a1 a2 a3).2.2.2.1 (fM_door vw vh vt vd a0 a1 a2 a3).2.2.2.2.1 (fM_door vw vh vt vd a0 a1 a2 a3).2.2.2.2.2 := by
  have keep := h
  obtain ⟨⟨rfl, rfl, rfl, rfl⟩, s1, s2, s3, s4⟩ := h
  by_cases c0 : fM_isSize a0 = 0
  · simp only [fL_door, xK_door, fM_door, od_eq, if_pos c0]; exact keep
  by_cases c1 : fM_isSize a1 = 0
  · simp only [fL_door, xK_door, fM_door, od_eq, if_neg c0, if_pos c1]; exact keep
  by_cases c2 : fM_isSize a2 = 0
  · simp only [fL_door, xK_door, fM_door, od_eq, if_neg c0, if_neg c1, if_pos c2]; exact keep
  by_cases c3 : fM_isSize a3 = 0
  · simp only [fL_door, xK_door, fM_door, od_eq, if_neg c0, if_neg c1, if_neg c2, if_pos c3]; exact keep
  have e : ∃ v, fD_change dw dh dt dd a0 a1 a2 a3 = (v, a0, a1, a2, a3) := by
    unfold fD_change
    repeat' split
    all_goals exact ⟨_, rfl⟩
  obtain ⟨v, e⟩ := e
  have g : ∃ v, fM_door dw dh dt dd a0 a1 a2 a3 = (v, 0, a0, a1, a2, a3) := by
    simp only [fM_door, if_neg c0, if_neg c1, if_neg c2, if_neg c3]
    repeat' split
    all_goals first | exact ⟨_, rfl⟩ | (subst_vars; exact ⟨_, rfl⟩)
  obtain ⟨v2, g⟩ := g
  rw [g]
  simp only [fL_door, xK_door, od_eq, if_neg c0, if_neg c1, if_neg c2, if_neg c3, e]
  exact ⟨⟨rfl, rfl, rfl, rfl⟩, sz1_of c0, sz1_of c1, sz1_of c2, sz1_of c3⟩
theorem pv_door (h : IV xl xz dw dh dt dd ox oy oq tl tn ts tz ul gT gO gV gX gY gR gC gS vs vr vw vh vt vd) (ol : Nat → Int64) (a0 a1 a2 a3 : Int64) : IV xl xz (fL_door dw dh dt dd ol a0 a1 a2 a3).2.2.1 (fL_door dw dh dt dd ol a0 a1 a2 a3).2.2.2.1 (fL_door dw dh dt dd ol a0 a1 a2 a3).2.2.2.2.1 (fL_door dw dh dt dd ol a0 a1 a2 a3).2.2.2.2.2 ox oy oq tl tn ts tz ul gT gO gV gX gY gR gC gS vs vr (fM_door vw vh vt vd a0 a1 a2 a3).2.2.1 (fM_door vw vh vt vd a0 a1 a2 a3).2.2.2.1 (fM_door vw vh vt vd a0 a1 a2 a3).2.2.2.2.1 (fM_door vw vh vt vd a0 a1 a2 a3).2.2.2.2.2 :=
  ⟨h.1, ux_door ol a0 a1 a2 a3 h.2.1, h.2.2⟩
end IVB
section IVC
variable {xl : Nat → Int32} {xz : Int32} {dw dh dt dd : Int64} {ox oy oq tl tn ts : Nat → Int32} {tz : Nat} {ul gT gO gV : Nat → Int32} {gX gY gR : Nat → Int64} {gC gS : Nat → Int32} {vs : Int32} {vr : Nat} {vw vh vt vd : Int64}
theorem z_m5 : Int32.toInt64 (-100000) = -100000 := by decide
theorem z_p5 : Int32.toInt64 100000 = 100000 := by decide
theorem z_p3 : Int32.toInt64 1000 = 1000 := by decide
theorem z_p0 : Int32.toInt64 0 = 0 := by decide
theorem ux_hole (ol : Nat → Int64) (k : Int32) (x0 y0 r0 : Int64) (h : iv_o ox oy oq gX gY gR) : iv_o (fL_hole ox oy oq ol k x0 y0 r0).2.2.1 (fL_hole ox oy oq ol k x0 y0 r0).2.2.2.1 (fL_hole ox oy oq ol k x0 y0 r0).2.2.2.2 (fM_hole gX gY gR k x0 y0 r0).2.2.1 (fM_hole gX gY gR k x0 y0 r0).2.2.2.1 (fM_hole gX gY gR k x0 y0 r0).2.2.2.2 := by
  by_cases k0 : k < 0
  · simp only [fL_hole, xK_hole, fM_hole, if_pos k0]
    repeat' split
    all_goals exact h
  by_cases k1 : k < 16
  · by_cases c0 : fM_isIn x0 (-100000) 100000 = 0
    · simp only [fL_hole, xK_hole, fM_hole, wi_eq _ z_m5 z_p5, if_neg k0, if_pos k1, if_pos c0]; exact h
    by_cases c1 : fM_isIn y0 (-100000) 100000 = 0
    · simp only [fL_hole, xK_hole, fM_hole, wi_eq _ z_m5 z_p5, if_neg k0, if_pos k1, if_neg c0, if_pos c1]; exact h
    by_cases c2 : fM_isIn r0 0 1000 = 0
    · simp only [fL_hole, xK_hole, fM_hole, wi_eq _ z_m5 z_p5, wi_eq _ z_p0 z_p3, if_neg k0, if_pos k1, if_neg c0, if_neg c1, if_pos c2]; exact h
    obtain ⟨v, e⟩ := hc_eq ox oy oq k x0 y0 r0
    have b0 := in_toInt c0
    have b1 := in_toInt c1
    have b2 := in_toInt c2
    have y5 : (-100000 : Int64).toInt = -100000 := by decide
    have y6 : (100000 : Int64).toInt = 100000 := by decide
    have y7 : (1000 : Int64).toInt = 1000 := by decide
    rw [y5, y6] at b0 b1
    rw [z64_0, y7] at b2
    simp only [fL_hole, xK_hole, fM_hole, wi_eq _ z_m5 z_p5, wi_eq _ z_p0 z_p3, if_neg k0, if_pos k1, if_neg c0, if_neg c1, if_neg c2, e]
    have hx := rt_32 (v := x0) (by omega) (by omega)
    have hy := rt_32 (v := y0) (by omega) (by omega)
    by_cases q : gX (Int32.toNatClampNeg k) = x0 ∧ gY (Int32.toNatClampNeg k) = y0 ∧ gR (Int32.toNatClampNeg k) = r0
    · simp only [if_pos q.1, if_pos q.2.1, if_pos q.2.2]
      refine ho_new h hx hy b2.1 b2.2 ?_ ?_ ?_
      all_goals
        intro j
        split
        · rename_i ej
          rw [ej]
          first | exact q.1 | exact q.2.1 | exact q.2.2
        · rfl
    · have key : ∀ (A B C D : Int32 × Int32 × (Nat → Int64) × (Nat → Int64) × (Nat → Int64)), B = D → C = D → (if gX (Int32.toNatClampNeg k) = x0 then (if gY (Int32.toNatClampNeg k) = y0 then (if gR (Int32.toNatClampNeg k) = r0 then A else B) else C) else D) = D := by
        intro A B C D hB hC
        split
        · split
          · split
            · rename_i p1 p2 p3
              exact absurd ⟨p1, p2, p3⟩ q
            · exact hB
          · exact hC
        · rfl
      rw [key _ _ _ _ rfl rfl]
      exact ho_new h hx hy b2.1 b2.2 (fun _ => rfl) (fun _ => rfl) (fun _ => rfl)
  · simp only [fL_hole, xK_hole, fM_hole, if_neg k0, if_neg k1]
    repeat' split
    all_goals exact h
theorem pv_hole (h : IV xl xz dw dh dt dd ox oy oq tl tn ts tz ul gT gO gV gX gY gR gC gS vs vr vw vh vt vd) (ol : Nat → Int64) (k : Int32) (x0 y0 r0 : Int64) : IV xl xz dw dh dt dd (fL_hole ox oy oq ol k x0 y0 r0).2.2.1 (fL_hole ox oy oq ol k x0 y0 r0).2.2.2.1 (fL_hole ox oy oq ol k x0 y0 r0).2.2.2.2 tl tn ts tz ul gT gO gV (fM_hole gX gY gR k x0 y0 r0).2.2.1 (fM_hole gX gY gR k x0 y0 r0).2.2.2.1 (fM_hole gX gY gR k x0 y0 r0).2.2.2.2 gC gS vs vr vw vh vt vd :=
  ⟨h.1, h.2.1, ux_hole ol k x0 y0 r0 h.2.2.1, h.2.2.2⟩
end IVC
section IVD
variable {xl : Nat → Int32} {xz : Int32} {dw dh dt dd : Int64} {ox oy oq tl tn ts : Nat → Int32} {tz : Nat} {ul gT gO gV : Nat → Int32} {gX gY gR : Nat → Int64} {gC gS : Nat → Int32} {vs : Int32} {vr : Nat} {vw vh vt vd : Int64} {un us gU : Nat → Int32}
theorem ux_clear (h : iv_x xl gT xz vs) : iv_x xl gT fS_clear 0 := by
  obtain ⟨w, hw, -, -, h1, h2⟩ := h
  exact ⟨0, by omega, nI_0.symm, nI_0.symm, h1, fun j hj => by omega⟩
theorem tx_of {w : Nat} (hw : w ≤ 300) (h2 : ∀ j, j < w → xl j = gT j ∧ ∃ u : Nat, 33 ≤ u ∧ u ≤ 126 ∧ gT j = nI u) : tx_ok xl gT w := ⟨hw, h2⟩
theorem ft_le {q : Nat} (h : q < 1000000) : fT_fault (nI q) ≤ 0 := by
  have := ft_neg h
  rw [Int32.le_iff_toInt_le] at this ⊢
  omega
theorem pv_read0 (h : IV xl xz dw dh dt dd ox oy oq tl tn ts tz ul gT gO gV gX gY gR gC gS vs vr vw vh vt vd) (hcr : (fT_fill ul un us xl xz).1 ≤ 0) : ∃ w2 : Nat, (fM_read gT gO gU gV vs (nI vr)).2.2.2.2.2.1 = nI w2 ∧ IV xl fS_clear dw dh dt dd ox oy oq tl tn ts tz (fT_fill ul un us xl xz).2.1 gT (fM_read gT gO gU gV vs (nI vr)).2.2.2.2.2.2.1 (fM_read gT gO gU gV vs (nI vr)).2.2.2.2.2.2.2.2 gX gY gR gC gS (fM_read gT gO gU gV vs (nI vr)).2.2.1 w2 vw vh vt vd := by
  obtain ⟨hx, hd, ho, hc, htz, htl, hul, hrw, hst⟩ := h
  have hx0 := hx
  obtain ⟨w, hw, rfl, rfl, h1, h2⟩ := hx
  rcases read_sim (tx_of hw h2) ul un us gO gU gV (nI vr) with ⟨N, lw', tv', dr', ot, sv, sk, pa, n1, n2, eK, eM, -⟩ | ⟨lw', tv', dr', pa, pf, q, q1, eK, eM⟩
  · rw [eK] at hcr
    exact absurd hcr (nI_nle (by omega) (by omega))
  · refine ⟨vr, by rw [eM], ?_, hd, ho, hc, htz, htl, (fi_g 17 ul un 0 0 (by omega) hul).1, ?_, ?_⟩
    · rw [eM]
      exact ux_clear hx0
    · rw [eM]
      exact hrw
    · rw [eM]
      exact hst
theorem pv_read1 (h : IV xl xz dw dh dt dd ox oy oq tl tn ts tz ul gT gO gV gX gY gR gC gS vs vr vw vh vt vd) (hcr : ¬ (fT_fill ul un us xl xz).1 ≤ 0) : ∃ w1 w2 : Nat, (fT_fill ul un us xl xz).2.2.2.2 = nI w1 ∧ (fM_read gT gO gU gV vs (nI vr)).2.2.2.2.2.1 = nI w2 ∧ IV xl fS_clear dw dh dt dd ox oy oq (fT_fill ul un us xl xz).2.1 (fT_fill ul un us xl xz).2.2.1 (fT_fill ul un us xl xz).2.2.2.1 w1 tl gT (fM_read gT gO gU gV vs (nI vr)).2.2.2.2.2.2.1 (fM_read gT gO gU gV vs (nI vr)).2.2.2.2.2.2.2.2 gX gY gR gC gS (fM_read gT gO gU gV vs (nI vr)).2.2.1 w2 vw vh vt vd := by
  obtain ⟨hx, hd, ho, hc, htz, htl, hul, hrw, hst⟩ := h
  have hx0 := hx
  obtain ⟨w, hw, rfl, rfl, h1, h2⟩ := hx
  have hch := (fi_g (tl := ul) (tn := un) (ts := us) (xl := xl) (xz := nI w) 17 ul un 0 0 (by omega) hul).1
  have hch2 : ∀ j, ch_ok ((fT_fill ul un us xl (nI w)).2.1 j) := hch
  rcases read_sim (tx_of hw h2) ul un us gO gU gV (nI vr) with ⟨N, lw', tv', dr', ot, sv, sk, pa, n1, n2, eK, eM, n3, n4, n5, n6⟩ | ⟨lw', tv', dr', pa, pf, q, q1, eK, eM⟩
  · rw [eK] at hch2
    refine ⟨N, N, by rw [eK], by rw [eM], ?_, hd, ho, hc, ⟨rfl, n2⟩, ?_, htl, ?_, ?_⟩
    · rw [eM]
      exact ux_clear hx0
    · rw [eK]
      exact hch2
    · rw [eK, eM]
      intro r hr
      obtain ⟨L, m1, m2, m3, m4, m5, m6, m7⟩ := n3 r hr
      have h6 := lsz_6 L
      refine ⟨L, m1, m2, m3, ?_, ?_, fun j hj => ?_, m7⟩
      · show ot (8 * r) = nI L
        rw [n4 _ (by omega)]; exact m4
      · show ot (8 * r + 1) = nI (lsz L)
        rw [n4 _ (by omega)]; exact m5
      · show tv' (6 * r + j) = ot (8 * r + 2 + j) ∧ _
        rw [n4 _ (by omega)]; exact m6 j hj
    · rw [eK, eM]
      intro r hr
      show sk r = sv r
      rw [n5, if_pos hr, n6 r (by omega)]
  · rw [eK] at hcr
    exact absurd (ft_le (by omega)) hcr
theorem qm_read (h : IV xl xz dw dh dt dd ox oy oq tl tn ts tz ul gT gO gV gX gY gR gC gS vs vr vw vh vt vd) : (fT_fill ul un us xl xz).1 = (fM_read gT gO gU gV vs (nI vr)).1 := by
  obtain ⟨⟨w, hw, rfl, rfl, h1, h2⟩, -⟩ := h
  rcases read_sim (tx_of hw h2) ul un us gO gU gV (nI vr) with ⟨N, lw', tv', dr', ot, sv, sk, pa, n1, n2, eK, eM, -⟩ | ⟨lw', tv', dr', pa, pf, q, q1, eK, eM⟩
  · rw [eK, eM]
  · rw [eK, eM]; rfl
theorem rc_n {row : Int32} {tz : Nat} (hz : tz ≤ 16) : (tz = 0 ∧ nI tz = 0 ∧ fM_rowCode (nI tz) row = 1) ∨ (¬ nI tz = 0 ∧ row < 0 ∧ fM_rowCode (nI tz) row = 2) ∨ (¬ nI tz = 0 ∧ ¬ row < 0 ∧ ¬ row < nI tz ∧ fM_rowCode (nI tz) row = 2) ∨ (¬ nI tz = 0 ∧ ¬ row < 0 ∧ row < nI tz ∧ fM_rowCode (nI tz) row = 0 ∧ ∃ r : Nat, r < tz ∧ row = nI r) := by
  unfold fM_rowCode
  by_cases c0 : tz = 0
  · subst c0
    exact Or.inl ⟨rfl, nI_0, if_pos nI_0⟩
  have n0 : ¬ nI tz = 0 := nI_ne0 (by omega) (by omega)
  rw [if_neg n0]
  by_cases c1 : row < 0
  · exact Or.inr (Or.inl ⟨n0, c1, if_pos c1⟩)
  rw [if_neg c1]
  by_cases c2 : row < nI tz
  · exact Or.inr (Or.inr (Or.inr ⟨n0, c1, c2, if_pos c2, nx_r hz c1 c2⟩))
  · exact Or.inr (Or.inr (Or.inl ⟨n0, c1, c2, if_neg c2⟩))
theorem si_eq {n : Int32} : fM_isIn (Int32.toInt64 n) 0 1000 = 0 ↔ (n < 0 ∨ ¬ n ≤ 1000) := by
  unfold fM_isIn
  have a1 : Int32.toInt64 n < 0 ↔ n < 0 := by rw [Int64.lt_iff_toInt_lt, Int32.lt_iff_toInt_lt, Int32.toInt_toInt64, z64_0, show (0 : Int32).toInt = 0 from by decide]
  have a2 : 1000 < Int32.toInt64 n ↔ ¬ n ≤ 1000 := by rw [Int64.lt_iff_toInt_lt, Int32.le_iff_toInt_le, Int32.toInt_toInt64, show (1000 : Int64).toInt = 1000 from by decide, show (1000 : Int32).toInt = 1000 from by decide]; omega
  by_cases c1 : n < 0
  · rw [if_pos (a1.mpr c1)]; exact ⟨fun _ => Or.inl c1, fun _ => rfl⟩
  rw [if_neg (fun q => c1 (a1.mp q))]
  by_cases c2 : n ≤ 1000
  · rw [if_neg (fun q => (a2.mp q) c2)]; exact ⟨fun q => absurd q (by decide), fun q => by rcases q with q | q <;> contradiction⟩
  · rw [if_pos (a2.mpr c2)]; exact ⟨fun _ => Or.inr c2, fun _ => rfl⟩
theorem st_all (hz : tz ≤ 16) (ol : Nat → Int64) (a0 a1 : Int32) (hst : ∀ r, r < tz → ts r = gV r) : (fM_thrown (fM_stock gV tz a0 a1).2.1 = (fL_stock ts tz ol a0 a1).1 ∧ ((fL_stock ts tz ol a0 a1).1 = 0 → (fL_stock ts tz ol a0 a1).2.1 (Int32.toNatClampNeg 0) = if (fM_stock gV tz a0 a1).1 = 0 then 0 else 1)) ∧ ∀ r, r < tz → (fL_stock ts tz ol a0 a1).2.2 r = (fM_stock gV tz a0 a1).2.2 r := by
  unfold fM_stock fL_stock xK_stock fM_thrown
  rcases rc_n (row := a0) hz with ⟨rfl, e1, e2⟩ | ⟨e1, e2, e3⟩ | ⟨e1, e2, e3, e4⟩ | ⟨e1, e2, e3, e4, r, hr, rfl⟩
  · simp only [e2, if_pos e1, if_neg (show ¬ (1 : Int32) ≤ 0 from by decide), ec_L_stock_ISE]
    exact ⟨⟨trivial, fun h => absurd h (by decide)⟩, hst⟩
  · simp only [e3, if_neg e1, if_pos e2, if_neg (show ¬ (2 : Int32) ≤ 0 from by decide), ec_L_stock_IOB]
    exact ⟨⟨trivial, fun h => absurd h (by decide)⟩, hst⟩
  · simp only [e4, if_neg e1, if_neg e2, if_neg e3, if_neg (show ¬ (2 : Int32) ≤ 0 from by decide), ec_L_stock_IOB]
    exact ⟨⟨trivial, fun h => absurd h (by decide)⟩, hst⟩
  · simp only [e4, if_neg e1, if_neg e2, if_pos e3, if_pos (show (0 : Int32) ≤ 0 from by decide)]
    by_cases c1 : a1 < 0
    · simp only [if_pos c1, if_pos (si_eq.mpr (Or.inl c1)), ec_L_stock_IAE]
      exact ⟨⟨trivial, fun h => absurd h (by decide)⟩, hst⟩
    by_cases c2 : a1 ≤ 1000
    · have c3 : ¬ fM_isIn (Int32.toInt64 a1) 0 1000 = 0 := fun q => by rcases si_eq.mp q with z | z <;> contradiction
      simp only [if_neg c1, if_pos c2, if_neg c3, fT_changeStock, nI_clamp (show r < 2 ^ 31 by omega)]
      have es := hst r hr
      by_cases c4 : gV r = a1
      · simp only [if_pos c4, if_pos (es.trans c4)]
        refine ⟨⟨trivial, fun _ => updL_at⟩, fun x hx => ?_⟩
        by_cases ex : x = r
        · subst ex; rw [upd_at, c4]
        · rw [upd_ne ex]; exact hst x hx
      · simp only [if_neg c4, if_neg (show ¬ ts r = a1 from fun q => c4 (es.symm.trans q))]
        refine ⟨⟨trivial, fun _ => updL_at⟩, fun x hx => ?_⟩
        by_cases ex : x = r
        · subst ex; rw [upd_at, upd_at]
        · rw [upd_ne ex, upd_ne ex]; exact hst x hx
    · simp only [if_neg c1, if_neg c2, if_pos (si_eq.mpr (Or.inr c2)), ec_L_stock_IAE]
      exact ⟨⟨trivial, fun h => absurd h (by decide)⟩, hst⟩
theorem pv_stock (h : IV xl xz dw dh dt dd ox oy oq tl tn ts tz ul gT gO gV gX gY gR gC gS vs vr vw vh vt vd) (ol : Nat → Int64) (a0 a1 : Int32) : IV xl xz dw dh dt dd ox oy oq tl tn (fL_stock ts tz ol a0 a1).2.2 tz ul gT gO (fM_stock gV vr a0 a1).2.2 gX gY gR gC gS vs vr vw vh vt vd := by
  obtain ⟨hx, hd, ho, hc, ⟨rfl, hz⟩, htl, hul, hrw, hst⟩ := h
  exact ⟨hx, hd, ho, hc, ⟨rfl, hz⟩, htl, hul, hrw, (st_all hz ol a0 a1 hst).2⟩
theorem qm_stock (h : IV xl xz dw dh dt dd ox oy oq tl tn ts tz ul gT gO gV gX gY gR gC gS vs vr vw vh vt vd) (ol : Nat → Int64) (a0 a1 : Int32) : fM_thrown (fM_stock gV vr a0 a1).2.1 = (fL_stock ts tz ol a0 a1).1 ∧ ((fL_stock ts tz ol a0 a1).1 = 0 → (fL_stock ts tz ol a0 a1).2.1 (Int32.toNatClampNeg 0) = if (fM_stock gV vr a0 a1).1 = 0 then 0 else 1) := by
  obtain ⟨hx, hd, ho, hc, ⟨rfl, hz⟩, htl, hul, hrw, hst⟩ := h
  exact (st_all hz ol a0 a1 hst).1
theorem pv_init (hc : ∀ j, j < 9 → gC j = cs_C j ∧ gS j = cs_S j) : IV (fun _ => 0) 0 400 700 19 700 (fun _ => 0) (fun _ => 0) (fun _ => 0) (fun _ => 0) (fun _ => 0) (fun _ => 0) 0 (fun _ => 0) (fun _ => 0) (fun _ => 0) (fun _ => 0) (fun _ => 0) (fun _ => 0) (fun _ => 0) gC gS 0 0 400 700 19 700 := by
  have c0 : ∀ j : Nat, ch_ok ((fun _ : Nat => (0 : Int32)) j) := fun j => (by show ch_ok 0; decide)
  have s0 : ∀ n : Nat, 1 ≤ n → n ≤ 10000 → sz1 (lN n) := fun n h1 h2 => ⟨n, h1, h2, rfl⟩
  refine ⟨⟨0, by omega, nI_0.symm, nI_0.symm, c0, fun j hj => by omega⟩, ⟨⟨rfl, rfl, rfl, rfl⟩, s0 400 (by omega) (by omega), s0 700 (by omega) (by omega), s0 19 (by omega) (by omega), s0 700 (by omega) (by omega)⟩, ?_, hc, ⟨rfl, by omega⟩, c0, c0, fun x hx => by omega, fun x hx => by omega⟩
  intro j hj
  exact ⟨show (0 : Int64) = (0 : Int32).toInt64 from by decide, show (0 : Int32) ≤ 0 from by decide, fun q => absurd rfl q⟩
end IVD