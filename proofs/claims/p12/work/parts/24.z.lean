section QMH
variable {xl : Nat → Int32} {xz : Int32} {dw dh dt dd : Int64} {ox oy oq tl tn ts : Nat → Int32} {tz : Nat} {ul gT gO gV : Nat → Int32} {gX gY gR : Nat → Int64} {gC gS : Nat → Int32} {vs : Int32} {vr : Nat} {vw vh vt vd : Int64}
/-- what class and reference answer of a place, the number of hinges given -/
def plK (dh : Int64) (H k part : Int32) : Except String Int64 := if H = (-1) then (.error "java/lang/IllegalStateException") else (if k < 0 then (.error "java/lang/IndexOutOfBoundsException") else (if k < H then (if part < 0 then (.error "java/lang/IndexOutOfBoundsException") else (if part ≤ 1 then (if H = 1 then (.ok (fK_partOfFraction dh 2 part)) else (.ok (fK_partOfFraction (fD_placeNumerator dh k H) (4 * (Int32.toInt64 (H - 1))) part))) else (.error "java/lang/IndexOutOfBoundsException"))) else (.error "java/lang/IndexOutOfBoundsException")))
theorem plK_eq {k part : Int32} : xK_place tl tn tz dw dh dt dd k part = if (nI tz) = 0 then (.error "java/lang/IllegalStateException") else plK dh (fT_hingesOf tl tn tz dw dh dt dd) k part := rfl
def plM (vh : Int64) (H k part : Int32) : Int64 × Int32 := if 0 ≤ H then (if k < 0 then (0, 2) else (if H ≤ k then (0, 2) else (if part < 0 then (0, 2) else (if part ≤ 1 then (if H = 1 then (if part = 0 then ((2 * vh) / (fM_common (2 * vh) 4), 0) else (4 / (fM_common (2 * vh) 4), 0)) else (if part = 0 then ((((if 320 ≤ vh then 320 else vh) * (Int32.toInt64 (H - 1))) + ((Int32.toInt64 k) * ((4 * vh) - (2 * (if 320 ≤ vh then 320 else vh))))) / (fM_common (((if 320 ≤ vh then 320 else vh) * (Int32.toInt64 (H - 1))) + ((Int32.toInt64 k) * ((4 * vh) - (2 * (if 320 ≤ vh then 320 else vh))))) (4 * (Int32.toInt64 (H - 1)))), 0) else ((4 * (Int32.toInt64 (H - 1))) / (fM_common (((if 320 ≤ vh then 320 else vh) * (Int32.toInt64 (H - 1))) + ((Int32.toInt64 k) * ((4 * vh) - (2 * (if 320 ≤ vh then 320 else vh))))) (4 * (Int32.toInt64 (H - 1)))), 0))) else (0, 2))))) else (0, 1)
theorem plM_eq {k part : Int32} : fM_place gO vr vw vh vt vd k part = if (nI vr) = 0 then (0, 1) else plM vh (fM_hinges gO vr vw vh vt vd) k part := by
  unfold fM_place plM
  generalize fM_hinges gO vr vw vh vt vd = H
  by_cases c0 : nI vr = 0
  · simp only [if_pos c0]
  by_cases c1 : 0 ≤ H
  · by_cases c2 : k < 0
    · simp only [if_neg c0, if_pos c1, if_pos c2]
    by_cases c3 : H ≤ k
    · simp only [if_neg c0, if_pos c1, if_neg c2, if_pos c3]
    by_cases c4 : part < 0
    · simp only [if_neg c0, if_pos c1, if_neg c2, if_neg c3, if_pos c4]
    by_cases c5 : part ≤ 1
    · by_cases c6 : 320 ≤ vh
      · by_cases c7 : H = 1
        · simp only [if_neg c0, if_pos c1, if_neg c2, if_neg c3, if_neg c4, if_pos c5, if_pos c6, if_pos c7]
        · simp only [if_neg c0, if_pos c1, if_neg c2, if_neg c3, if_neg c4, if_pos c5, if_pos c6, if_neg c7]
      · by_cases c7 : H = 1
        · simp only [if_neg c0, if_pos c1, if_neg c2, if_neg c3, if_neg c4, if_pos c5, if_neg c6, if_pos c7]
        · simp only [if_neg c0, if_pos c1, if_neg c2, if_neg c3, if_neg c4, if_pos c5, if_neg c6, if_neg c7]
    · simp only [if_neg c0, if_pos c1, if_neg c2, if_neg c3, if_neg c4, if_neg c5]
  · simp only [if_neg c0, if_neg c1]
def plL (x : Except String Int64) : Int32 := match x with
  | .ok _ => 0
  | .error E => ec_L_place E
theorem pl_num {b g i j : Nat} (hg : g ≤ b) (hb : b ≤ 10000) (hj : j ≤ 9) (hi : i < 2 ^ 31) : lN g * Int32.toInt64 (nI (j + 1 + 1) - 1) + Int32.toInt64 (nI i) * (4 * lN b - 2 * lN g) = lN (g * (j + 1) + i * (4 * b - 2 * g)) := by
  rw [pl_n hg, nI_l (by omega), nI_l (by omega), lN_mul, lN_mul, lN_add]
theorem pl_den {j : Nat} (hj : j ≤ 9) : (4 : Int64) * Int32.toInt64 (nI (j + 1 + 1) - 1) = lN (4 * (j + 1)) := by
  rw [nI_pred, nI_l (by omega)]
  exact lN_mul 4 _
theorem pl_all {b : Nat} {H k part : Int32} (hb1 : 1 ≤ b) (hb2 : b ≤ 10000) (hH : H = -1 ∨ ∃ x : Nat, 1 ≤ x ∧ x ≤ 9 ∧ H = nI x) : (plM (lN b) H k part).2 = plL (plK (lN b) H k part) ∧ ∀ v, plK (lN b) H k part = .ok v → (plM (lN b) H k part).1 = v := by
  rcases hH with rfl | ⟨x, x1, x2, rfl⟩
  · refine ⟨?_, fun v hv => ?_⟩
    · unfold plM plK plL
      rw [if_neg (by decide), if_pos rfl]
      exact ec_L_place_ISE.symm
    · unfold plK at hv
      rw [if_pos rfl] at hv
      cases hv
  have h0 : (0 : Int32) ≤ nI x := nI_pos' (by omega)
  have h1 : ¬ nI x = -1 := fun e => by
    have := congrArg Int32.toInt e
    rw [nI_toInt (by omega), show (-1 : Int32).toInt = -1 from by decide] at this; omega
  by_cases c2 : k < 0
  · simp only [plM, plK, plL, if_pos h0, if_neg h1, if_pos c2, ec_L_place_IOB]
    exact ⟨trivial, fun v hv => by cases hv⟩
  obtain ⟨i, hi, rfl⟩ := nI_of c2
  by_cases c3 : i < x
  · have d3 : nI i < nI x := (nI_ltI hi (by omega)).mpr c3
    have e3 : ¬ nI x ≤ nI i := nI_ge c3 (by omega)
    by_cases c4 : part < 0
    · simp only [plM, plK, plL, if_pos h0, if_neg h1, if_neg c2, if_pos d3, if_neg e3, if_pos c4, ec_L_place_IOB]
      exact ⟨trivial, fun v hv => by cases hv⟩
    by_cases c5 : part ≤ 1
    · by_cases c6 : x = 1
      · have d6 : nI x = 1 := by rw [c6]; decide
        have hg0 : 0 < Nat.gcd b 2 := Nat.gcd_pos_of_pos_right _ (by omega)
        have hg1 := Nat.le_of_dvd (show 0 < 2 by omega) (Nat.gcd_dvd_right b 2)
        have eK : fK_partOfFraction (lN b) 2 part = if part = 0 then lN b / lN (Nat.gcd b 2) else 2 / lN (Nat.gcd b 2) := pf_n (y := 2) (by omega) (by omega) (by omega) part
        have eM : fM_common (2 * lN b) 4 = lN (2 * Nat.gcd b 2) := by
          rw [show (2 : Int64) * lN b = lN (2 * b) from lN_mul 2 b, ← gcd_42]
          exact fc_n (y := 4) (by omega) (by omega)
        have v1 : (2 : Int64) * lN b / lN (2 * Nat.gcd b 2) = lN b / lN (Nat.gcd b 2) := by
          rw [show (2 : Int64) * lN b = lN (2 * b) from lN_mul 2 b]
          exact dv_2 (by omega) hg0 (by omega)
        have v2 : (4 : Int64) / lN (2 * Nat.gcd b 2) = 2 / lN (Nat.gcd b 2) := dv_2 (a := 2) (by omega) hg0 (by omega)
        simp only [plM, plK, plL, if_pos h0, if_neg h1, if_neg c2, if_pos d3, if_neg e3, if_neg c4, if_pos c5, if_pos d6, eK, eM, v1, v2]
        by_cases c7 : part = 0
        · simp only [if_pos c7]
          exact ⟨trivial, fun v hv => by cases hv; rfl⟩
        · simp only [if_neg c7]
          exact ⟨trivial, fun v hv => by cases hv; rfl⟩
      · obtain ⟨j, rfl⟩ : ∃ j, x = j + 1 + 1 := ⟨x - 2, by omega⟩
        have d6 : ¬ nI (j + 1 + 1) = 1 := fun e => by have := (l_eq 1 (b := 1) (by decide) (by omega) (by omega)).mp e; omega
        obtain ⟨g, hg, eg1, eg2⟩ : ∃ g : Nat, g ≤ b ∧ (if (320 : Int64) < lN b then 320 else lN b) = lN g ∧ (if (320 : Int64) ≤ lN b then 320 else lN b) = lN g := by
          have a1 : (320 : Int64) < lN b ↔ 320 < b := m_lta 320 (a := 320) (by decide) (by omega) (by omega)
          have a2 : (320 : Int64) ≤ lN b ↔ 320 ≤ b := lN_le (a := 320) (by omega) (by omega)
          by_cases q : 320 ≤ b
          · refine ⟨320, q, ?_, by rw [if_pos (a2.mpr q)]; rfl⟩
            by_cases q2 : 320 < b
            · rw [if_pos (a1.mpr q2)]; rfl
            · rw [if_neg (fun z => q2 (a1.mp z)), show b = 320 by omega]
          · exact ⟨b, Nat.le_refl _, by rw [if_neg (fun z => by have := a1.mp z; omega)], by rw [if_neg (fun z => q (a2.mp z))]⟩
        have m1 : g * (j + 1) ≤ 10000 * 10 := Nat.mul_le_mul (by omega) (by omega)
        have m2 : i * (4 * b - 2 * g) ≤ 2 ^ 31 * 40000 := Nat.mul_le_mul (by omega) (by omega)
        have eN : fD_placeNumerator (lN b) (nI i) (nI (j + 1 + 1)) = lN (g * (j + 1) + i * (4 * b - 2 * g)) := by
          unfold fD_placeNumerator
          rw [eg1]
          exact pl_num hg hb2 (by omega) hi
        have eP := pf_n (x := g * (j + 1) + i * (4 * b - 2 * g)) (y := 4 * (j + 1)) (by omega) (by omega) (by omega) part
        have eC := fc_n (x := g * (j + 1) + i * (4 * b - 2 * g)) (y := 4 * (j + 1)) (by omega) (by omega)
        simp only [plM, plK, plL, if_pos h0, if_neg h1, if_neg c2, if_pos d3, if_neg e3, if_neg c4, if_pos c5, if_neg d6, eg2, pl_num hg hb2 (show j ≤ 9 by omega) hi, pl_den (show j ≤ 9 by omega), eN, eP, eC]
        by_cases c7 : part = 0
        · simp only [if_pos c7]
          exact ⟨trivial, fun v hv => by cases hv; rfl⟩
        · simp only [if_neg c7]
          exact ⟨trivial, fun v hv => by cases hv; rfl⟩
    · simp only [plM, plK, plL, if_pos h0, if_neg h1, if_neg c2, if_pos d3, if_neg e3, if_neg c4, if_neg c5, ec_L_place_IOB]
      exact ⟨trivial, fun v hv => by cases hv⟩
  · have d3 : ¬ nI i < nI x := nI_nlt (by omega) (by omega)
    have e3 : nI x ≤ nI i := nI_le (by omega) (by omega)
    simp only [plM, plK, plL, if_pos h0, if_neg h1, if_neg c2, if_neg d3, if_pos e3, ec_L_place_IOB]
    exact ⟨trivial, fun v hv => by cases hv⟩
theorem qm_place (h : IV xl xz dw dh dt dd ox oy oq tl tn ts tz ul gT gO gV gX gY gR gC gS vs vr vw vh vt vd) (ol : Nat → Int64) (a0 a1 : Int32) : fM_thrown (fM_place gO vr vw vh vt vd a0 a1).2 = (fL_place tl tn tz dw dh dt dd ol a0 a1).1 ∧ ((fL_place tl tn tz dw dh dt dd ol a0 a1).1 = 0 → (fL_place tl tn tz dw dh dt dd ol a0 a1).2 (Int32.toNatClampNeg 0) = (fM_place gO vr vw vh vt vd a0 a1).1) := by
  obtain ⟨hx, ⟨⟨rfl, rfl, rfl, rfl⟩, -, ⟨b, b1, b2, rfl⟩, -⟩, ho, hc, ⟨rfl, hz⟩, htl, hul, hrw, hst⟩ := h
  unfold fL_place fM_thrown
  rw [plK_eq, plM_eq]
  by_cases c : tz = 0
  · subst c
    simp only [if_pos nI_0, ec_L_place_ISE]
    exact ⟨trivial, fun h => absurd h (by decide)⟩
  · have n0 : ¬ nI tz = 0 := nI_ne0 (by omega) (by omega)
    have hv := hi_val (dw := dw) (dh := lN b) (dt := dt) (dd := dd) hz hrw
    rw [if_neg n0, if_neg n0, hi_eq hz hrw]
    have e := pl_all (k := a0) (part := a1) b1 b2 hv
    have hne : ∀ E, plK (lN b) (fT_hingesOf tl tn tz dw (lN b) dt dd) a0 a1 = .error E → ¬ ec_L_place E = 0 := by
      intro E hE
      have hx2 : xK_place tl tn tz dw (lN b) dt dd a0 a1 = .error E := by rw [plK_eq, if_neg n0]; exact hE
      rcases xe_K_place hx2 with rfl | rfl
      · rw [ec_L_place_ISE]; decide
      · rw [ec_L_place_IOB]; decide
    revert e hne
    generalize plM (lN b) (fT_hingesOf tl tn tz dw (lN b) dt dd) a0 a1 = Z
    generalize plK (lN b) (fT_hingesOf tl tn tz dw (lN b) dt dd) a0 a1 = X
    intro e hne
    cases X with
    | ok v => exact ⟨e.1, fun _ => (updL_at (f := ol) (k := Int32.toNatClampNeg 0) (x := v)).trans (e.2 v rfl).symm⟩
    | error E =>
      exact ⟨e.1, fun q => absurd q (hne E rfl)⟩
end QMH
