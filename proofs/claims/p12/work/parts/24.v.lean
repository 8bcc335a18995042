/-! weight: Euclid's way on both sides -/
theorem l0_le {n : Nat} (h : n < 2 ^ 63) : lN n ≤ 0 ↔ n = 0 := by
  rw [Int64.le_iff_toInt_le, z64_n h, z64_0]; omega
theorem kd_g {a b : Int64} : ∀ (m x y st n : Nat), y < 2 ^ m → x < 2 ^ 63 → y < 2 ^ 63 → st + 2 * m ≤ 100 → 2 * m + 1 ≤ n → gK_commonDivisor a b n (lN x) (lN y) st = lN (Nat.gcd x y) := by
  intro m
  induction m with
  | zero =>
    intro x y st n h1 hx hy h2 h3
    have e : y = 0 := by omega
    subst e
    obtain ⟨n, rfl⟩ : ∃ q, n = q + 1 := ⟨n - 1, by omega⟩
    rw [gK_commonDivisor, Nat.gcd_zero_right]
    split
    · rfl
    · rw [if_pos ((l0_le (by omega)).mpr rfl)]
  | succ m ih =>
    intro x y st n h1 hx hy h2 h3
    obtain ⟨n, rfl⟩ : ∃ q, n = q + 1 + 1 := ⟨n - 2, by omega⟩
    rw [gK_commonDivisor, if_neg (l_ge 100 (b := 100) (by decide) (by omega) (by omega))]
    rcases Nat.eq_zero_or_pos y with e | h0
    · subst e
      rw [if_pos ((l0_le (by omega)).mpr rfl), Nat.gcd_zero_right]
    · have hm := Nat.mod_lt x h0
      rw [if_neg (fun q => by have := (l0_le hy).mp q; omega), lN_rem hx hy h0, gK_commonDivisor, if_neg (l_ge 100 (b := 100) (by decide) (by omega) (by omega))]
      have eg : Nat.gcd x y = Nat.gcd y (x % y) := by rw [Nat.gcd_comm x y, Nat.gcd_rec y x, Nat.gcd_comm]
      rw [eg]
      rcases Nat.eq_zero_or_pos (x % y) with e2 | h4
      · rw [e2, if_pos ((l0_le (by omega)).mpr rfl), Nat.gcd_zero_right]
      · have hm2 := Nat.mod_lt y h4
        rw [if_neg (fun q => by have := (l0_le (by omega)).mp q; omega), lN_rem hy (by omega) h4]
        have eg2 : Nat.gcd y (x % y) = Nat.gcd (x % y) (y % (x % y)) := by rw [Nat.gcd_comm y, Nat.gcd_rec (x % y) y, Nat.gcd_comm]
        rw [eg2]
        have hh : 2 * (y % (x % y)) < y := by
          have d1 := Nat.div_add_mod y (x % y)
          have d2 : 1 ≤ y / (x % y) := (Nat.le_div_iff_mul_le h4).mpr (by omega)
          have d3 : x % y ≤ (x % y) * (y / (x % y)) := Nat.le_mul_of_pos_right _ d2
          omega
        have hp : 2 ^ (m + 1) = 2 * 2 ^ m := by rw [Nat.pow_succ, Nat.mul_comm]
        exact ih (x % y) (y % (x % y)) (st + 1 + 1) n (by omega) (by omega) (by omega) (by omega) (by omega)
theorem kd_n {x y : Nat} (hx : x < 2 ^ 63) (hy : y < 2 ^ 20) : fK_commonDivisor (lN x) (lN y) = lN (Nat.gcd x y) := kd_g 20 x y 0 101 hy hx (by omega) (by omega) (by omega)
theorem ld_1 {a : Nat} (h : a < 2 ^ 63) : lN a / lN 1 = lN a := by
  apply Int64.toInt_inj.mp
  rw [Int64.toInt_div_of_ne_right _ _ (by decide), z64_n h, z64_n (by omega)]
  simp
theorem l1_le {n : Nat} (h : n < 2 ^ 63) : lN n ≤ 1 ↔ n ≤ 1 := by
  rw [Int64.le_iff_toInt_le, z64_n h, show (1 : Int64).toInt = 1 from by decide]; omega
theorem pf_n {x y : Nat} (hx : x < 2 ^ 63) (hy : y < 2 ^ 20) (h0 : 0 < y) (part : Int32) : fK_partOfFraction (lN x) (lN y) part = if part = 0 then lN x / lN (Nat.gcd x y) else lN y / lN (Nat.gcd x y) := by
  unfold fK_partOfFraction
  have hg0 : 0 < Nat.gcd x y := Nat.gcd_pos_of_pos_right _ h0
  have hg1 := Nat.le_of_dvd h0 (Nat.gcd_dvd_right x y)
  rw [kd_n hx hy]
  by_cases c : lN (Nat.gcd x y) ≤ 1
  · have e : Nat.gcd x y = 1 := by have := (l1_le (by omega)).mp c; omega
    rw [if_pos c, if_pos c, e, ld_1 hx, ld_1 (by omega)]
  · rw [if_neg c, if_neg c]
section QMD
variable {xl : Nat → Int32} {xz : Int32} {dw dh dt dd : Int64} {ox oy oq tl tn ts : Nat → Int32} {tz : Nat} {ul gT gO gV : Nat → Int32} {gX gY gR : Nat → Int64} {gC gS : Nat → Int32} {vs : Int32} {vr : Nat} {vw vh vt vd : Int64}
theorem qm_weight (h : IV xl xz dw dh dt dd ox oy oq tl tn ts tz ul gT gO gV gX gY gR gC gS vs vr vw vh vt vd) (ol : Nat → Int64) (a0 : Int32) : fM_thrown (fM_weight vw vh vt vd a0).2 = (fL_weight dw dh dt dd ol a0).1 ∧ ((fL_weight dw dh dt dd ol a0).1 = 0 → (fL_weight dw dh dt dd ol a0).2 (Int32.toNatClampNeg 0) = (fM_weight vw vh vt vd a0).1) := by
  obtain ⟨-, ⟨⟨rfl, rfl, rfl, rfl⟩, ⟨a, a1, a2, rfl⟩, ⟨b, b1, b2, rfl⟩, ⟨c, c1, c2, rfl⟩, d, d1, d2, rfl⟩, -⟩ := h
  have bad : ∀ (P : Prop), True ∧ ((1 : Int32) = 0 → P) := fun P => ⟨trivial, fun h => absurd h (by decide)⟩
  have hl := gr_le a2 b2 c2 d2
  have eg : fD_millionWeights (lN a) (lN b) (lN c) (lN d) = lN (a * b * c * d) := gr_n a b c d
  have ef : fM_common (lN (a * b * c * d)) 1000000 = lN (Nat.gcd (a * b * c * d) 1000000) := fc_n (y := 1000000) (by omega) (by omega)
  have ep : fK_partOfFraction (lN (a * b * c * d)) 1000000 a0 = if a0 = 0 then lN (a * b * c * d) / lN (Nat.gcd (a * b * c * d) 1000000) else 1000000 / lN (Nat.gcd (a * b * c * d) 1000000) := pf_n (y := 1000000) (by omega) (by omega) (by omega) a0
  unfold fL_weight xK_weight fM_weight fM_thrown
  rw [gr_n, eg, ef, ep]
  by_cases c0 : a0 < 0
  · simp only [if_pos c0, ec_L_weight_IOB]; exact bad _
  by_cases c1 : a0 ≤ 1
  · by_cases c2 : a0 = 0
    · simp only [if_neg c0, if_pos c1, if_pos c2]; exact ⟨trivial, fun _ => updL_at⟩
    · simp only [if_neg c0, if_pos c1, if_neg c2]; exact ⟨trivial, fun _ => updL_at⟩
  · simp only [if_neg c0, if_neg c1, ec_L_weight_IOB]; exact bad _
end QMD
