/-! WHAT HOLDS AT THE LOOP'S HEAD, between the class's cells and the reference's -/
theorem lp_le {L i : Nat} (hL : L ≤ 4608) (hi : i ≤ L) (h : ¬ (Int32.ofNat L - 9 < nI i)) : i + 9 ≤ L := by
  have h1 : (Int32.ofNat L).toInt = (L : Int) := nI_toInt (n := L) (by omega)
  have h2 : (nI i).toInt = (i : Int) := nI_toInt (by omega)
  have h3 : (Int32.ofNat L - 9).toInt = (L : Int) - 9 := by
    rw [Int32.toInt_sub, h1, show (9 : Int32).toInt = 9 from by decide]
    exact Int.bmod_eq_of_le (by omega) (by omega)
  rw [Int32.lt_iff_toInt_lt, h2, h3] at h
  omega
theorem lp_kc {n : Nat} (h : n + 1 ≤ 1067) : n + 1 ≤ room_1.cells := h
theorem lp_ks {n : Nat} (h : n + 6 ≤ 9571) : n + 6 ≤ room_1.slots := h
theorem lp_9 (k : Nat) : nI (9 * k) + 9 = nI (9 * (k + 1)) := by
  rw [show (9 : Int32) = nI 9 from by decide, nI_add]; rfl
theorem lp_in {L k : Nat} (hL : L ≤ 4608) (h : 9 * k + 9 ≤ L) : lw_in (nI (9 * k)) L := by
  have key : ∀ j : Nat, j < 9 → vp_in (nI (9 * k) + nI j) L := fun j hj => by rw [nI_add]; exact vp_in_nI (by omega) (by omega)
  exact ⟨key 1 (by omega), key 2 (by omega), key 3 (by omega), key 4 (by omega), key 5 (by omega), key 6 (by omega), key 7 (by omega), key 8 (by omega)⟩
abbrev ch_ok (x : Int32) : Prop := narrow .char (.int x) = .int x
theorem ch_nar (x : Int32) : ch_ok (vp_nar .char x) := by
  show Value.int ((x.toUInt32.toUInt16.toUInt32).toUInt16.toUInt32.toInt32) = Value.int (x.toUInt32.toUInt16.toUInt32.toInt32)
  rw [UInt16.toUInt16_toUInt32]
theorem ch_upd {f : Nat → Int32} {k : Nat} {x : Int32} (h : ∀ j, ch_ok (f j)) : ∀ j, ch_ok (upd f k (vp_nar .char x) j) := by
  intro j
  unfold upd
  split
  · exact ch_nar x
  · exact h j
theorem ch_u : ∀ j : Nat, j < 127 → vp_nar .char (((nI j).toUInt32 % 65536).toInt32) = nI j := by decide +kernel
/-- sizes of the reference's rows -/
def sz6 (g : Nat → Int32) (n : Nat) : Prop := ∀ x, x < n → ∃ w : Nat, w ≤ 6 ∧ g (8 * x + 1) = nI w
def iv_x (xl gT : Nat → Int32) (xz vs : Int32) : Prop := ∃ w : Nat, w ≤ 300 ∧ xz = nI w ∧ vs = nI w ∧ (∀ j, ch_ok (xl j)) ∧ ∀ j, j < w → xl j = gT j ∧ ∃ u : Nat, 33 ≤ u ∧ u ≤ 126 ∧ gT j = nI u
def sz1 (v : Int64) : Prop := ∃ n : Nat, 1 ≤ n ∧ n ≤ 10000 ∧ v = lN n
def iv_d (dw dh dt dd vw vh vt vd : Int64) : Prop := (dw = vw ∧ dh = vh ∧ dt = vt ∧ dd = vd) ∧ sz1 vw ∧ sz1 vh ∧ sz1 vt ∧ sz1 vd
def iv_o (ox oy oq : Nat → Int32) (gX gY gR : Nat → Int64) : Prop := ∀ j, j < 16 → gR j = (oq j).toInt64 ∧ 0 ≤ oq j ∧ (¬ oq j = 0 → gX j = (ox j).toInt64 ∧ gY j = (oy j).toInt64)
def iv_c (gC gS : Nat → Int32) : Prop := ∀ j, j < 9 → gC j = cs_C j ∧ gS j = cs_S j
def iv_t (tl tn ts : Nat → Int32) (tz : Nat) (ul gO gV : Nat → Int32) (vr : Nat) : Prop := tz ≤ 16 ∧ (∀ j, ch_ok (tl j)) ∧ (∀ j, ch_ok (ul j)) ∧ vr ≤ 16 ∧ sz6 gO vr
def IV (xl : Nat → Int32) (xz : Int32) (dw dh dt dd : Int64) (ox oy oq tl tn ts : Nat → Int32) (tz : Nat) (ul gT gO gV : Nat → Int32) (gX gY gR : Nat → Int64) (gC gS : Nat → Int32) (vs : Int32) (vr : Nat) (vw vh vt vd : Int64) : Prop :=
  iv_x xl gT xz vs ∧ iv_d dw dh dt dd vw vh vt vd ∧ iv_o ox oy oq gX gY gR ∧ iv_c gC gS ∧ iv_t tl tn ts tz ul gO gV vr
section IVA
variable {xl : Nat → Int32} {xz : Int32} {dw dh dt dd : Int64} {ox oy oq tl tn ts : Nat → Int32} {tz : Nat} {ul gT gO gV : Nat → Int32} {gX gY gR : Nat → Int64} {gC gS : Nat → Int32} {vs : Int32} {vr : Nat} {vw vh vt vd : Int64}
theorem pv_xin (h : IV xl xz dw dh dt dd ox oy oq tl tn ts tz ul gT gO gV gX gY gR gC gS vs vr vw vh vt vd) : xz < 300 → vp_in xz 300 := by
  obtain ⟨⟨w, hw, rfl, -⟩, -⟩ := h
  intro h2
  exact vp_in_nI ((nI_ltI (b := 300) (by omega) (by omega)).mp h2) (by omega)
theorem pv_min (h : IV xl xz dw dh dt dd ox oy oq tl tn ts tz ul gT gO gV gX gY gR gC gS vs vr vw vh vt vd) : ¬ 300 ≤ vs → vp_in vs 300 := by
  obtain ⟨⟨w, hw, -, rfl, -⟩, -⟩ := h
  intro h2
  exact vp_in_nI (nx_lt (a := w) (b := 300) (by omega) (by omega) h2) (by omega)
theorem pv_xp (h : IV xl xz dw dh dt dd ox oy oq tl tn ts tz ul gT gO gV gX gY gR gC gS vs vr vw vh vt vd) : ∀ q : Int32, ¬ q < 0 → ¬ xz ≤ q → vp_in q 300 := by
  obtain ⟨⟨w, hw, rfl, -⟩, -⟩ := h
  intro q h1 h2
  obtain ⟨j, hj, rfl⟩ := nI_of h1
  exact vp_in_nI (by have := nx_lt (a := j) (b := w) hj (by omega) h2; omega) (by omega)
theorem pv_xch (h : IV xl xz dw dh dt dd ox oy oq tl tn ts tz ul gT gO gV gX gY gR gC gS vs vr vw vh vt vd) : ∀ j, narrow .char (.int (xl j)) = .int (xl j) := by
  obtain ⟨⟨w, hw, -, -, h2, -⟩, -⟩ := h
  exact h2
theorem pv_vs (h : IV xl xz dw dh dt dd ox oy oq tl tn ts tz ul gT gO gV gX gY gR gC gS vs vr vw vh vt vd) : ∃ w : Nat, w ≤ 300 ∧ vs = nI w := by
  obtain ⟨⟨w, hw, -, h2, -⟩, -⟩ := h
  exact ⟨w, hw, h2⟩
theorem pv_tz (h : IV xl xz dw dh dt dd ox oy oq tl tn ts tz ul gT gO gV gX gY gR gC gS vs vr vw vh vt vd) : tz ≤ 16 := h.2.2.2.2.1
theorem pv_tch (h : IV xl xz dw dh dt dd ox oy oq tl tn ts tz ul gT gO gV gX gY gR gC gS vs vr vw vh vt vd) : ∀ j, narrow .char (.int (tl j)) = .int (tl j) := h.2.2.2.2.2.1
theorem pv_vr (h : IV xl xz dw dh dt dd ox oy oq tl tn ts tz ul gT gO gV gX gY gR gC gS vs vr vw vh vt vd) : vr ≤ 16 := h.2.2.2.2.2.2.2.1
theorem pv_O (h : IV xl xz dw dh dt dd ox oy oq tl tn ts tz ul gT gO gV gX gY gR gC gS vs vr vw vh vt vd) : ∀ x y : Int32, ¬ x < 0 → x < nI vr → ¬ y < -1 → ¬ y = -1 → y < gO (Int32.toNatClampNeg (8 * x + 1)) → vp_in (8 * x + 2 + y) 128 := by
  intro x y h1 h2 h3 h4 h5
  have hv := pv_vr h
  obtain ⟨r, hr, rfl⟩ := nx_r hv h1 h2
  have e1 : (8 : Int32) * nI r + 1 = nI (8 * r + 1) := by rw [show (8 : Int32) * nI r = nI (8 * r) from pk_mul 8 r, nI_1]
  rw [e1, nI_clamp (by omega)] at h5
  obtain ⟨w, hw, ew⟩ := h.2.2.2.2.2.2.2.2 r hr
  rw [ew] at h5
  have h6 : ¬ y < 0 := by
    rw [Int32.lt_iff_toInt_lt] at h3 ⊢
    have z0 : (0 : Int32).toInt = 0 := by decide
    have z1 : (-1 : Int32).toInt = -1 := by decide
    have h7 : ¬ y.toInt = -1 := fun q => h4 (Int32.toInt_inj.mp (by rw [q, z1]))
    omega
  obtain ⟨j, hj, rfl⟩ := nI_of h6
  have hjw : j < w := (nI_ltI hj (by omega)).mp h5
  exact n8_2 j (by omega) (by omega) rfl
end IVA
/-! longs -/
theorem z64_m {x : Int} (h1 : -2 ^ 63 ≤ x) (h2 : x < 2 ^ 63) : x.bmod (2 ^ 64) = x := Int.bmod_eq_of_le (by omega) (by omega)
theorem z64_add {a b : Int64} (h1 : -2 ^ 63 ≤ a.toInt + b.toInt) (h2 : a.toInt + b.toInt < 2 ^ 63) : (a + b).toInt = a.toInt + b.toInt := by rw [Int64.toInt_add]; exact z64_m h1 h2
theorem z64_sub {a b : Int64} (h1 : -2 ^ 63 ≤ a.toInt - b.toInt) (h2 : a.toInt - b.toInt < 2 ^ 63) : (a - b).toInt = a.toInt - b.toInt := by rw [Int64.toInt_sub]; exact z64_m h1 h2
theorem z64_mul {a b : Int64} (h1 : -2 ^ 63 ≤ a.toInt * b.toInt) (h2 : a.toInt * b.toInt < 2 ^ 63) : (a * b).toInt = a.toInt * b.toInt := by rw [Int64.toInt_mul]; exact z64_m h1 h2
theorem z64_0 : (0 : Int64).toInt = 0 := by decide
theorem z64_n {n : Nat} (h : n < 2 ^ 63) : (lN n).toInt = (n : Int) := lg_ofNat_toInt (by omega)
theorem nl0 {n : Nat} (h : n < 2 ^ 63) : ¬ lN n < 0 := by
  rw [Int64.lt_iff_toInt_lt, z64_n h, z64_0]; omega
theorem lN_of {x : Int64} (h : ¬ x < 0) : ∃ n : Nat, n < 2 ^ 63 ∧ x = lN n := by
  rw [Int64.lt_iff_toInt_lt, z64_0] at h
  have h2 := Int64.toInt_lt x
  refine ⟨x.toInt.toNat, by omega, ?_⟩
  apply Int64.toInt_inj.mp
  rw [z64_n (by omega)]; omega
theorem lN_ne {n : Nat} (h0 : 0 < n) (h : n < 2 ^ 63) : ¬ lN n = 0 := by
  intro e
  have := congrArg Int64.toInt e
  rw [z64_n h, z64_0] at this; omega
theorem lN_rem {a b : Nat} (ha : a < 2 ^ 63) (hb : b < 2 ^ 63) (h0 : 0 < b) : lN a - lN a / lN b * lN b = lN (a % b) := by
  have hb0 : ¬ (lN b).toInt = -1 := by rw [z64_n hb]; omega
  have e1 : (lN a / lN b).toInt = ((a / b : Nat) : Int) := by
    rw [Int64.toInt_div_of_ne_right _ _ (fun e => by have := congrArg Int64.toInt e; rw [z64_n hb] at this; have z : (-1 : Int64).toInt = -1 := by decide
                                                     rw [z] at this; omega), z64_n ha, z64_n hb]
    rw [Int.tdiv_eq_ediv_of_nonneg (by omega)]; rfl
  have h3 : a / b * b ≤ a := Nat.div_mul_le_self a b
  have e2 : (lN a / lN b * lN b).toInt = ((a / b * b : Nat) : Int) := by
    rw [z64_mul (by rw [e1, z64_n hb]; have : (0 : Int) ≤ ((a / b : Nat) : Int) * (b : Int) := by exact_mod_cast Nat.zero_le _
                    omega) (by rw [e1, z64_n hb]; have : ((a / b : Nat) : Int) * (b : Int) ≤ (a : Int) := by exact_mod_cast h3
                               omega), e1, z64_n hb]
    rfl
  apply Int64.toInt_inj.mp
  have h4 : a % b = a - a / b * b := by have := Nat.div_add_mod a b; rw [Nat.mul_comm] at this; omega
  rw [z64_sub (by rw [e2, z64_n ha]; omega) (by rw [e2, z64_n ha]; omega), e2, z64_n ha, z64_n (by omega), h4]
  omega
theorem cm_g {a b : Int64} : ∀ (n x y : Nat), y < n → x < 2 ^ 63 → y < 2 ^ 63 → gM_common a b n (lN x) (lN y) = lN (Nat.gcd x y) := by
  intro n
  induction n with
  | zero => intro x y h; omega
  | succ n ih =>
    intro x y hy hx hy2
    rw [gM_common]
    rcases Nat.eq_zero_or_pos y with e | h0
    · subst e
      rw [if_pos (by decide), Nat.gcd_zero_right]
    · have hm := Nat.mod_lt x h0
      rw [if_neg (lN_ne h0 hy2), lN_rem hx hy2 h0, ih y (x % y) (by omega) hy2 (by omega)]
      congr 1
      rw [Nat.gcd_comm x y, Nat.gcd_rec y x, Nat.gcd_comm]
theorem fc_n {x y : Nat} (hx : x < 2 ^ 63) (hy : y < 2 ^ 63) : fM_common (lN x) (lN y) = lN (Nat.gcd x y) := by
  unfold fM_common
  rw [z64_n hy]
  exact cm_g _ _ _ (by omega) hx hy
theorem fc_ne {x y : Nat} (hx : x < 2 ^ 63) (hy : y < 2 ^ 63) (h0 : 0 < y) : ¬ fM_common (lN x) (lN y) = 0 := by
  rw [fc_n hx hy]
  have h1 := Nat.le_of_dvd h0 (Nat.gcd_dvd_right x y)
  exact lN_ne (Nat.gcd_pos_of_pos_right _ h0) (by omega)
theorem gr_n (a b c d : Nat) : fM_grams (lN a) (lN b) (lN c) (lN d) = lN (a * b * c * d) := by
  unfold fM_grams
  rw [lN_mul, lN_mul, lN_mul]
theorem gr_le {a b c d : Nat} (ha : a ≤ 10000) (hb : b ≤ 10000) (hc : c ≤ 10000) (hd : d ≤ 10000) : a * b * c * d ≤ 10000 * 10000 * 10000 * 10000 := Nat.mul_le_mul (Nat.mul_le_mul (Nat.mul_le_mul ha hb) hc) hd
theorem sz1_of {v : Int64} (h : ¬ fM_isSize v = 0) : sz1 v := by
  unfold fM_isSize at h
  split at h
  · exact absurd rfl h
  · rename_i h1
    split at h
    · exact absurd rfl h
    · rename_i h2
      rw [Int64.lt_iff_toInt_lt] at h1 h2
      have z1 : (1 : Int64).toInt = 1 := by decide
      have z2 : (10000 : Int64).toInt = 10000 := by decide
      refine ⟨v.toInt.toNat, by omega, by omega, ?_⟩
      apply Int64.toInt_inj.mp
      rw [z64_n (by omega)]; omega
theorem od_eq (n : Int64) : fK_isOfDoor n = fM_isSize n := by
  unfold fK_isOfDoor fK_isWithin fM_isSize
  rw [show (1 : Int32).toInt64 = 1 from by decide, show (10000 : Int32).toInt64 = 10000 from by decide]
theorem wi_eq (v : Int64) {lo hi : Int32} {l h : Int64} (e1 : lo.toInt64 = l) (e2 : hi.toInt64 = h) : fK_isWithin v lo hi = fM_isIn v l h := by
  unfold fK_isWithin fM_isIn
  rw [e1, e2]
section IVB
variable {xl : Nat → Int32} {xz : Int32} {dw dh dt dd : Int64} {ox oy oq tl tn ts : Nat → Int32} {tz : Nat} {ul gT gO gV : Nat → Int32} {gX gY gR : Nat → Int64} {gC gS : Nat → Int32} {vs : Int32} {vr : Nat} {vw vh vt vd : Int64}
theorem pv_g0 (h : IV xl xz dw dh dt dd ox oy oq tl tn ts tz ul gT gO gV gX gY gR gC gS vs vr vw vh vt vd) : ¬ fM_grams vw vh vt vd < 0 := by
  obtain ⟨-, ⟨-, ⟨a, a1, a2, rfl⟩, ⟨b, b1, b2, rfl⟩, ⟨c, c1, c2, rfl⟩, d, d1, d2, rfl⟩, -⟩ := h
  rw [gr_n]
  have := gr_le a2 b2 c2 d2
  exact nl0 (by omega)
theorem pv_g1 (h : IV xl xz dw dh dt dd ox oy oq tl tn ts tz ul gT gO gV gX gY gR gC gS vs vr vw vh vt vd) : ¬ fM_common (fM_grams vw vh vt vd) 1000000 = 0 := by
  obtain ⟨-, ⟨-, ⟨a, a1, a2, rfl⟩, ⟨b, b1, b2, rfl⟩, ⟨c, c1, c2, rfl⟩, d, d1, d2, rfl⟩, -⟩ := h
  rw [gr_n]
  have := gr_le a2 b2 c2 d2
  exact fc_ne (y := 1000000) (by omega) (by omega) (by omega)
theorem pv_p1 (h : IV xl xz dw dh dt dd ox oy oq tl tn ts tz ul gT gO gV gX gY gR gC gS vs vr vw vh vt vd) : ¬ (2 * vh) < 0 ∧ ¬ fM_common (2 * vh) 4 = 0 := by
  obtain ⟨-, ⟨-, -, ⟨b, b1, b2, rfl⟩, -⟩, -⟩ := h
  rw [show (2 : Int64) * lN b = lN (2 * b) from lN_mul 2 b]
  exact ⟨nl0 (by omega), fc_ne (y := 4) (by omega) (by omega) (by omega)⟩
theorem pl_n {h g i j : Nat} (hg : g ≤ h) : lN g * Int32.toInt64 (nI (j + 1 + 1) - 1) + Int32.toInt64 (nI i) * (4 * lN h - 2 * lN g) = lN g * (nI (j + 1)).toInt64 + (nI i).toInt64 * lN (4 * h - 2 * g) := by
  rw [nI_pred, show (4 : Int64) * lN h = lN (4 * h) from lN_mul 4 h, show (2 : Int64) * lN g = lN (2 * g) from lN_mul 2 g, lN_sub (by omega)]
theorem pv_p2 (h : IV xl xz dw dh dt dd ox oy oq tl tn ts tz ul gT gO gV gX gY gR gC gS vs vr vw vh vt vd) (k : Int32) : ∀ mg : Int64, (mg = vh ∨ mg = 320 ∧ 320 ≤ vh) → ∀ nn : Int32, ¬ nn < 0 → ¬ nn = 1 → ¬ k < 0 → ¬ nn ≤ k → ¬ (mg * Int32.toInt64 (nn - 1) + Int32.toInt64 k * (4 * vh - 2 * mg)) < 0 ∧ ¬ (4 * Int32.toInt64 (nn - 1)) < 0 ∧ ¬ fM_common (mg * Int32.toInt64 (nn - 1) + Int32.toInt64 k * (4 * vh - 2 * mg)) (4 * Int32.toInt64 (nn - 1)) = 0 := by
  obtain ⟨-, ⟨-, -, ⟨b, b1, b2, rfl⟩, -⟩, -⟩ := h
  intro mg hmg nn h1 h2 h3 h4
  obtain ⟨j, hj, rfl⟩ := nI_of h1
  obtain ⟨i, hi, rfl⟩ := nI_of h3
  have hij := nx_lt (a := i) (b := j) hi hj h4
  have hj1 : j ≠ 1 := fun e => h2 (by rw [e]; decide)
  obtain ⟨j, rfl⟩ : ∃ q, j = q + 1 + 1 := ⟨j - 2, by omega⟩
  obtain ⟨g, hg, rfl⟩ : ∃ g : Nat, g ≤ b ∧ mg = lN g := by
    rcases hmg with e | ⟨e, e2⟩
    · exact ⟨b, Nat.le_refl _, e⟩
    · exact ⟨320, (lN_le (a := 320) (by omega) (by omega)).mp e2, e⟩
  have m1 : g * (j + 1) ≤ 10000 * 2 ^ 31 := Nat.mul_le_mul (by omega) (by omega)
  have m2 : i * (4 * b - 2 * g) ≤ 2 ^ 31 * 40000 := Nat.mul_le_mul (by omega) (by omega)
  rw [pl_n hg, nI_pred, nI_l (by omega), nI_l (by omega), lN_mul, lN_mul, lN_add, show (4 : Int64) * lN (j + 1) = lN (4 * (j + 1)) from lN_mul 4 _]
  exact ⟨nl0 (by omega), nl0 (by omega), fc_ne (by omega) (by omega) (by omega)⟩
theorem ux_unit (u : Int32) (h : iv_x xl gT xz vs) : iv_x (fK_unit xl xz u).2.1 (fM_unit gT vs u).2.2.1 (fK_unit xl xz u).2.2 (fM_unit gT vs u).2.2.2 := by
  obtain ⟨w, hw, rfl, rfl, h1, h2⟩ := h
  have keep : iv_x xl gT (nI w) (nI w) := ⟨w, hw, rfl, rfl, h1, h2⟩
  by_cases c1 : u < 33
  · simp only [fK_unit, fS_add, fM_unit, if_pos c1]
    split <;> exact keep
  · by_cases c2 : 126 < u
    · simp only [fK_unit, fS_add, fM_unit, if_neg c1, if_pos c2]
      split <;> exact keep
    · by_cases c3 : w < 300
      · have d1 : nI w < 300 := (nI_ltI (b := 300) (by omega) (by omega)).mpr c3
        have d2 : ¬ (300 : Int32) ≤ nI w := nI_ge (b := 300) c3 (by omega)
        simp only [fK_unit, fS_add, fM_unit, if_neg c1, if_neg c2, if_pos d1, if_neg d2]
        have c0 : ¬ u < 0 := by
          rw [Int32.lt_iff_toInt_lt] at c1 ⊢
          have z0 : (0 : Int32).toInt = 0 := by decide
          have z1 : (33 : Int32).toInt = 33 := by decide
          omega
        obtain ⟨j, hj, rfl⟩ := nI_of c0
        have j1 : ¬ j < 33 := fun q => c1 ((nI_ltI (b := 33) hj (by omega)).mpr q)
        have j2 : ¬ 126 < j := fun q => c2 ((nI_ltI (a := 126) (by omega) hj).mpr q)
        refine ⟨w + 1, by omega, nI_1 w, nI_1 w, ch_upd h1, ?_⟩
        intro q hq
        rw [nI_clamp (n := w) (by omega), ch_u j (by omega)]
        unfold upd
        by_cases e : q = w
        · rw [if_pos e, if_pos e]
          exact ⟨rfl, j, by omega, by omega, rfl⟩
        · rw [if_neg e, if_neg e]
          exact h2 q (by omega)
      · have d1 : ¬ nI w < 300 := nI_nlt (b := 300) (by omega) (by omega)
        have d2 : (300 : Int32) ≤ nI w := nI_le (a := 300) (by omega) (by omega)
        simp only [fK_unit, fS_add, fM_unit, if_neg c1, if_neg c2, if_neg d1, if_pos d2]
        exact keep
theorem pv_unit (h : IV xl xz dw dh dt dd ox oy oq tl tn ts tz ul gT gO gV gX gY gR gC gS vs vr vw vh vt vd) (u : Int32) : IV (fK_unit xl xz u).2.1 (fK_unit xl xz u).2.2 dw dh dt dd ox oy oq tl tn ts tz ul (fM_unit gT vs u).2.2.1 gO gV gX gY gR gC gS (fM_unit gT vs u).2.2.2 vr vw vh vt vd :=
  ⟨ux_unit u h.1, h.2⟩
theorem ux_door (ol : Nat → Int64) (a0 a1 a2 a3 : Int64) (h : iv_d dw dh dt dd vw vh vt vd) : iv_d (fL_door dw dh dt dd ol a0 a1 a2 a3).2.2.1 (fL_door dw dh dt dd ol a0 a1 a2 a3).2.2.2.1 (fL_door dw dh dt dd ol a0 a1 a2 a3).2.2.2.2.1 (fL_door dw dh dt dd ol a0 a1 a2 a3).2.2.2.2.2 (fM_door vw vh vt vd a0 a1 a2 a3).2.2.1 (fM_door vw vh vt vd a0 a1 a2 a3).2.2.2.1 (fM_door vw vh vt vd a0 a1 a2 a3).2.2.2.2.1 (fM_door vw vh vt vd a0 a1 a2 a3).2.2.2.2.2 := by
  have keep := h
  obtain ⟨⟨rfl, rfl, rfl, rfl⟩, s1, s2, s3, s4⟩ := h
  by_cases c0 : fM_isSize a0 = 0
  · simp only [fL_door, xK_door, fM_door, od_eq, if_pos c0]; exact keep
  by_cases c1 : fM_isSize a1 = 0
  · simp only [fL_door, xK_door, fM_door, od_eq, if_neg c0, if_pos c1]; exact keep
  by_cases c2 : fM_isSize a2 = 0
  · simp only [fL_door, xK_door, fM_door, od_eq, if_neg c0, if_neg c1, if_pos c2]; exact keep
  by_cases c3 : fM_isSize a3 = 0
  · simp only [fL_door, xK_door, fM_door, od_eq, if_neg c0, if_neg c1, if_neg c2, if_pos c3]; exact keep
  have e : ∃ v, fD_change dw dh dt dd a0 a1 a2 a3 = (v, a0, a1, a2, a3) := by
    unfold fD_change
    repeat' split
    all_goals exact ⟨_, rfl⟩
  obtain ⟨v, e⟩ := e
  have g : ∃ v, fM_door dw dh dt dd a0 a1 a2 a3 = (v, 0, a0, a1, a2, a3) := by
    simp only [fM_door, if_neg c0, if_neg c1, if_neg c2, if_neg c3]
    repeat' split
    all_goals first | exact ⟨_, rfl⟩ | (subst_vars; exact ⟨_, rfl⟩)
  obtain ⟨v2, g⟩ := g
  rw [g]
  simp only [fL_door, xK_door, od_eq, if_neg c0, if_neg c1, if_neg c2, if_neg c3, e]
  exact ⟨⟨rfl, rfl, rfl, rfl⟩, sz1_of c0, sz1_of c1, sz1_of c2, sz1_of c3⟩
theorem pv_door (h : IV xl xz dw dh dt dd ox oy oq tl tn ts tz ul gT gO gV gX gY gR gC gS vs vr vw vh vt vd) (ol : Nat → Int64) (a0 a1 a2 a3 : Int64) : IV xl xz (fL_door dw dh dt dd ol a0 a1 a2 a3).2.2.1 (fL_door dw dh dt dd ol a0 a1 a2 a3).2.2.2.1 (fL_door dw dh dt dd ol a0 a1 a2 a3).2.2.2.2.1 (fL_door dw dh dt dd ol a0 a1 a2 a3).2.2.2.2.2 ox oy oq tl tn ts tz ul gT gO gV gX gY gR gC gS vs vr (fM_door vw vh vt vd a0 a1 a2 a3).2.2.1 (fM_door vw vh vt vd a0 a1 a2 a3).2.2.2.1 (fM_door vw vh vt vd a0 a1 a2 a3).2.2.2.2.1 (fM_door vw vh vt vd a0 a1 a2 a3).2.2.2.2.2 :=
  ⟨h.1, ux_door ol a0 a1 a2 a3 h.2.1, h.2.2⟩
end IVB
/-! holes -/
theorem in_toInt {v lo hi : Int64} (h : ¬ fM_isIn v lo hi = 0) : lo.toInt ≤ v.toInt ∧ v.toInt ≤ hi.toInt := by
  unfold fM_isIn at h
  split at h
  · exact absurd rfl h
  · rename_i h1
    split at h
    · exact absurd rfl h
    · rename_i h2
      rw [Int64.lt_iff_toInt_lt] at h1 h2
      omega
theorem rt_32 {v : Int64} (h1 : -2 ^ 31 ≤ v.toInt) (h2 : v.toInt < 2 ^ 31) : v.toInt32.toInt64 = v := by
  apply Int64.toInt_inj.mp
  rw [Int32.toInt_toInt64, Int64.toInt_toInt32]
  exact Int.bmod_eq_of_le (by omega) (by omega)
theorem upd_at {f : Nat → Int32} {k : Nat} {x : Int32} : upd f k x k = x := if_pos rfl
theorem upd_ne {f : Nat → Int32} {k j : Nat} {x : Int32} (h : ¬ j = k) : upd f k x j = f j := if_neg h
theorem updL_at {f : Nat → Int64} {k : Nat} {x : Int64} : vp_updL f k x k = x := if_pos rfl
theorem updL_ne {f : Nat → Int64} {k j : Nat} {x : Int64} (h : ¬ j = k) : vp_updL f k x j = f j := if_neg h
theorem hc_eq (ox oy oq : Nat → Int32) (k : Int32) (x0 y0 r0 : Int64) : ∃ v : Int32, fH_change ox oy oq k x0 y0 r0 = (v, upd ox (Int32.toNatClampNeg k) (if r0 = 0 then 0 else x0.toInt32), upd oy (Int32.toNatClampNeg k) (if r0 = 0 then 0 else y0.toInt32), upd oq (Int32.toNatClampNeg k) r0.toInt32) := by
  by_cases h : r0 = 0
  · simp only [fH_change, if_pos h]
    repeat' split
    all_goals exact ⟨_, rfl⟩
  · simp only [fH_change, if_neg h]
    repeat' split
    all_goals exact ⟨_, rfl⟩
theorem ho_new {ox oy oq : Nat → Int32} {gX gY gR : Nat → Int64} {i : Nat} {x0 y0 r0 : Int64} (h : iv_o ox oy oq gX gY gR) (hx : x0.toInt32.toInt64 = x0) (hy : y0.toInt32.toInt64 = y0) (hr1 : 0 ≤ r0.toInt) (hr2 : r0.toInt ≤ 1000) {gX' gY' gR' : Nat → Int64} (e1 : ∀ j, gX' j = if j = i then x0 else gX j) (e2 : ∀ j, gY' j = if j = i then y0 else gY j) (e3 : ∀ j, gR' j = if j = i then r0 else gR j) :
    iv_o (upd ox i (if r0 = 0 then 0 else x0.toInt32)) (upd oy i (if r0 = 0 then 0 else y0.toInt32)) (upd oq i r0.toInt32) gX' gY' gR' := by
  have hr : r0.toInt32.toInt64 = r0 := rt_32 (by omega) (by omega)
  intro j hj
  rw [e1, e2, e3]
  by_cases e : j = i
  · subst e
    rw [upd_at, upd_at, upd_at, if_pos rfl, if_pos rfl, if_pos rfl]
    refine ⟨hr.symm, ?_, fun hn => ?_⟩
    · rw [Int32.le_iff_toInt_le]
      have z : (0 : Int32).toInt = 0 := by decide
      have h2 := congrArg Int64.toInt hr
      rw [Int32.toInt_toInt64] at h2
      omega
    · have h0 : ¬ r0 = 0 := fun q => hn (by rw [q]; decide)
      rw [if_neg h0, if_neg h0]
      exact ⟨hx.symm, hy.symm⟩
  · rw [upd_ne e, upd_ne e, upd_ne e, if_neg e, if_neg e, if_neg e]
    exact h j hj
section IVC
variable {xl : Nat → Int32} {xz : Int32} {dw dh dt dd : Int64} {ox oy oq tl tn ts : Nat → Int32} {tz : Nat} {ul gT gO gV : Nat → Int32} {gX gY gR : Nat → Int64} {gC gS : Nat → Int32} {vs : Int32} {vr : Nat} {vw vh vt vd : Int64}
theorem z_m5 : Int32.toInt64 (-100000) = -100000 := by decide
theorem z_p5 : Int32.toInt64 100000 = 100000 := by decide
theorem z_p3 : Int32.toInt64 1000 = 1000 := by decide
theorem z_p0 : Int32.toInt64 0 = 0 := by decide
theorem ux_hole (ol : Nat → Int64) (k : Int32) (x0 y0 r0 : Int64) (h : iv_o ox oy oq gX gY gR) : iv_o (fL_hole ox oy oq ol k x0 y0 r0).2.2.1 (fL_hole ox oy oq ol k x0 y0 r0).2.2.2.1 (fL_hole ox oy oq ol k x0 y0 r0).2.2.2.2 (fM_hole gX gY gR k x0 y0 r0).2.2.1 (fM_hole gX gY gR k x0 y0 r0).2.2.2.1 (fM_hole gX gY gR k x0 y0 r0).2.2.2.2 := by
  by_cases k0 : k < 0
  · simp only [fL_hole, xK_hole, fM_hole, if_pos k0]
    repeat' split
    all_goals exact h
  by_cases k1 : k < 16
  · by_cases c0 : fM_isIn x0 (-100000) 100000 = 0
    · simp only [fL_hole, xK_hole, fM_hole, wi_eq _ z_m5 z_p5, if_neg k0, if_pos k1, if_pos c0]; exact h
    by_cases c1 : fM_isIn y0 (-100000) 100000 = 0
    · simp only [fL_hole, xK_hole, fM_hole, wi_eq _ z_m5 z_p5, if_neg k0, if_pos k1, if_neg c0, if_pos c1]; exact h
    by_cases c2 : fM_isIn r0 0 1000 = 0
    · simp only [fL_hole, xK_hole, fM_hole, wi_eq _ z_m5 z_p5, wi_eq _ z_p0 z_p3, if_neg k0, if_pos k1, if_neg c0, if_neg c1, if_pos c2]; exact h
    obtain ⟨v, e⟩ := hc_eq ox oy oq k x0 y0 r0
    have b0 := in_toInt c0
    have b1 := in_toInt c1
    have b2 := in_toInt c2
    have y5 : (-100000 : Int64).toInt = -100000 := by decide
    have y6 : (100000 : Int64).toInt = 100000 := by decide
    have y7 : (1000 : Int64).toInt = 1000 := by decide
    rw [y5, y6] at b0 b1
    rw [z64_0, y7] at b2
    simp only [fL_hole, xK_hole, fM_hole, wi_eq _ z_m5 z_p5, wi_eq _ z_p0 z_p3, if_neg k0, if_pos k1, if_neg c0, if_neg c1, if_neg c2, e]
    have hx := rt_32 (v := x0) (by omega) (by omega)
    have hy := rt_32 (v := y0) (by omega) (by omega)
    by_cases q : gX (Int32.toNatClampNeg k) = x0 ∧ gY (Int32.toNatClampNeg k) = y0 ∧ gR (Int32.toNatClampNeg k) = r0
    · simp only [if_pos q.1, if_pos q.2.1, if_pos q.2.2]
      refine ho_new h hx hy b2.1 b2.2 ?_ ?_ ?_
      all_goals
        intro j
        split
        · rename_i ej
          rw [ej]
          first | exact q.1 | exact q.2.1 | exact q.2.2
        · rfl
    · have key : ∀ (A B C D : Int32 × Int32 × (Nat → Int64) × (Nat → Int64) × (Nat → Int64)), B = D → C = D → (if gX (Int32.toNatClampNeg k) = x0 then (if gY (Int32.toNatClampNeg k) = y0 then (if gR (Int32.toNatClampNeg k) = r0 then A else B) else C) else D) = D := by
        intro A B C D hB hC
        split
        · split
          · split
            · rename_i p1 p2 p3
              exact absurd ⟨p1, p2, p3⟩ q
            · exact hB
          · exact hC
        · rfl
      rw [key _ _ _ _ rfl rfl]
      exact ho_new h hx hy b2.1 b2.2 (fun _ => rfl) (fun _ => rfl) (fun _ => rfl)
  · simp only [fL_hole, xK_hole, fM_hole, if_neg k0, if_neg k1]
    repeat' split
    all_goals exact h
theorem pv_hole (h : IV xl xz dw dh dt dd ox oy oq tl tn ts tz ul gT gO gV gX gY gR gC gS vs vr vw vh vt vd) (ol : Nat → Int64) (k : Int32) (x0 y0 r0 : Int64) : IV xl xz dw dh dt dd (fL_hole ox oy oq ol k x0 y0 r0).2.2.1 (fL_hole ox oy oq ol k x0 y0 r0).2.2.2.1 (fL_hole ox oy oq ol k x0 y0 r0).2.2.2.2 tl tn ts tz ul gT gO gV (fM_hole gX gY gR k x0 y0 r0).2.2.1 (fM_hole gX gY gR k x0 y0 r0).2.2.2.1 (fM_hole gX gY gR k x0 y0 r0).2.2.2.2 gC gS vs vr vw vh vt vd :=
  ⟨h.1, h.2.1, ux_hole ol k x0 y0 r0 h.2.2.1, h.2.2.2⟩
end IVC
