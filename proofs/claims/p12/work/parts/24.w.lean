/-! the answers out of a table -/
section QME
variable {xl : Nat → Int32} {xz : Int32} {dw dh dt dd : Int64} {ox oy oq tl tn ts : Nat → Int32} {tz : Nat} {ul gT gO gV : Nat → Int32} {gX gY gR : Nat → Int64} {gC gS : Nat → Int32} {vs : Int32} {vr : Nat} {vw vh vt vd : Int64}
theorem q8_20 {r : Nat} {k : Nat} (x : Int32) (ex : x = nI k) (hr : r < 16) (hk : k < 6) : Int32.toNatClampNeg (8 * nI r + 2 + x) = 8 * r + 2 + k := by rw [ex]; exact q8_2 hr hk
theorem q6_0 {r : Nat} {k : Nat} (x : Int32) (ex : x = nI k) (hr : r < 16) (hk : k < 6) : Int32.toNatClampNeg (nI r * 6 + x) = 6 * r + k := by rw [ex]; exact q6 hr hk
/-- the numbers of a row, on both sides -/
theorem nu_eq {r L k : Nat} (x : Int32) (ex : x = nI k) (hr : r < 16) (h : row_ok tn gO r L) (hk : k < lsz L) : fM_number gO (nI r) x = Int32.toInt64 (fT_number tn (nI r) x) ∧ fT_number tn (nI r) x = tn (6 * r + k) := by
  have h6 := lsz_6 L
  unfold fM_number fT_number
  rw [q8_20 x ex hr (by omega), q6_0 x ex hr (by omega), (h.1 k hk).1]
  exact ⟨rfl, rfl⟩
theorem qm_row (h : IV xl xz dw dh dt dd ox oy oq tl tn ts tz ul gT gO gV gX gY gR gC gS vs vr vw vh vt vd) (ol : Nat → Int64) (a0 a1 : Int32) : fM_thrown (fM_row gO vr a0 a1).2 = (fL_row tl tn tz ol a0 a1).1 ∧ ((fL_row tl tn tz ol a0 a1).1 = 0 → (fL_row tl tn tz ol a0 a1).2 (Int32.toNatClampNeg 0) = Int32.toInt64 (fM_row gO vr a0 a1).1) := by
  obtain ⟨hx, hd, ho, hc, ⟨rfl, hz⟩, htl, hul, hrw, hst⟩ := h
  unfold fM_row fL_row xK_row fM_thrown
  rcases rc_n (row := a0) hz with ⟨rfl, e1, e2⟩ | ⟨e1, e2, e3⟩ | ⟨e1, e2, e3, e4⟩ | ⟨e1, e2, e3, e4, r, hr, rfl⟩
  · simp only [e2, if_pos e1, if_neg (show ¬ (1 : Int32) ≤ 0 from by decide), ec_L_row_ISE]
    exact ⟨trivial, fun h => absurd h (by decide)⟩
  · simp only [e3, if_neg e1, if_pos e2, if_neg (show ¬ (2 : Int32) ≤ 0 from by decide), ec_L_row_IOB]
    exact ⟨trivial, fun h => absurd h (by decide)⟩
  · simp only [e4, if_neg e1, if_neg e2, if_neg e3, if_neg (show ¬ (2 : Int32) ≤ 0 from by decide), ec_L_row_IOB]
    exact ⟨trivial, fun h => absurd h (by decide)⟩
  · obtain ⟨L, m1, m2, m3, m4, m5, m6⟩ := hrw r hr
    have h6 := lsz_6 L
    have el : fT_letter tl (nI r) = nI L := by unfold fT_letter; rw [nI_clamp (by omega), m1]
    simp only [e4, if_neg e1, if_neg e2, if_pos e3, if_pos (show (0 : Int32) ≤ 0 from by decide), el, nb_n m2, q8_1 (show r < 16 by omega), q8_0 (show r < 16 by omega), m4, m5]
    by_cases c1 : a1 = -1
    · have d1 : ¬ a1 < -1 := by rw [c1]; decide
      have d2 : a1 < nI (lsz L) := by rw [c1, Int32.lt_iff_toInt_lt, nI_toInt (by omega), show (-1 : Int32).toInt = -1 from by decide]; omega
      simp only [if_pos c1, if_neg d1, if_pos d2]
      exact ⟨trivial, fun _ => updL_at⟩
    · by_cases c2 : a1 < 0
      · have d1 : a1 < -1 := by
          rw [Int32.lt_iff_toInt_lt] at c2 ⊢
          have z0 : (0 : Int32).toInt = 0 := by decide
          have z1 : (-1 : Int32).toInt = -1 := by decide
          have h7 : ¬ a1.toInt = -1 := fun q => c1 (Int32.toInt_inj.mp (by rw [q, z1]))
          omega
        simp only [if_neg c1, if_pos c2, if_pos d1, ec_L_row_IOB]
        exact ⟨trivial, fun h => absurd h (by decide)⟩
      · obtain ⟨k, hk, rfl⟩ := nI_of c2
        have d1 : ¬ nI k < -1 := by
          rw [Int32.lt_iff_toInt_lt, nI_toInt hk, show (-1 : Int32).toInt = -1 from by decide]; omega
        by_cases c3 : nI k < nI (lsz L)
        · have hkl := (nI_ltI hk (by omega)).mp c3
          have en := nu_eq (gO := gO) (nI k) rfl (show r < 16 by omega) m6 hkl
          simp only [if_neg c1, if_neg c2, if_pos c3, if_neg d1, en.2, q8_20 (nI k) rfl (show r < 16 by omega) (show k < 6 by omega), (m6.1 k hkl).1]
          exact ⟨trivial, fun _ => updL_at⟩
        · simp only [if_neg c1, if_neg c2, if_neg c3, if_neg d1, ec_L_row_IOB]
          exact ⟨trivial, fun h => absurd h (by decide)⟩
/-- the first row that fits, found forwards or backwards -/
def ff (g : Nat → Bool) (val : Nat → Int32) (tz : Nat) : Nat → Nat → Int32
  | 0, _ => -1
  | n + 1, i => if i < tz then (if g i = true then val i else ff g val tz n (i + 1)) else -1
def gb (g : Nat → Bool) (val : Nat → Int32) : Nat → Int32 → Int32
  | 0, found => found
  | j + 1, found => gb g val j (if g j = true then val j else found)
theorem ff_s (g : Nat → Bool) (val : Nat → Int32) (tz n i : Nat) : ff g val tz (n + 1) i = if i < tz then (if g i = true then val i else ff g val tz n (i + 1)) else -1 := rfl
theorem ff_more {g : Nat → Bool} {val : Nat → Int32} {tz : Nat} : ∀ (n i : Nat), tz ≤ i + n → ff g val tz (n + 1) i = ff g val tz n i := by
  intro n
  induction n with
  | zero =>
    intro i h
    rw [ff_s g val tz 0 i, if_neg (by omega)]; rfl
  | succ n ih =>
    intro i h
    rw [ff_s g val tz (n + 1) i, ff_s g val tz n i]
    by_cases c : i < tz
    · rw [if_pos c, if_pos c, ih (i + 1) (by omega)]
    · rw [if_neg c, if_neg c]
theorem gb_ff {g : Nat → Bool} {val : Nat → Int32} {tz : Nat} : ∀ j, j ≤ tz → gb g val j (ff g val tz (tz - j) j) = ff g val tz tz 0 := by
  intro j
  induction j with
  | zero => intro _; rfl
  | succ j ih =>
    intro hj
    rw [gb]
    have e : ff g val tz (tz - j) j = if g j = true then val j else ff g val tz (tz - (j + 1)) (j + 1) := by
      obtain ⟨m, hm⟩ : ∃ m, tz - j = m + 1 := ⟨tz - j - 1, by omega⟩
      rw [hm, ff, if_pos (by omega), show tz - (j + 1) = m by omega]
    rw [← e]
    exact ih (by omega)
theorem gb_all {g : Nat → Bool} {val : Nat → Int32} {tz : Nat} : gb g val tz (-1) = ff g val tz tz 0 := by
  have h := gb_ff (g := g) (val := val) (tz := tz) tz (Nat.le_refl _)
  rw [Nat.sub_self] at h
  exact h
theorem pm1 (j : Nat) : nI j + (-1) = nI j - 1 := by rw [Int32.sub_eq_add_neg]
theorem t64_lt {a b : Int32} : Int32.toInt64 a < Int32.toInt64 b ↔ a < b := by
  rw [Int64.lt_iff_toInt_lt, Int32.lt_iff_toInt_lt, Int32.toInt_toInt64, Int32.toInt_toInt64]
/-- the letter and the stock of a row, on both sides -/
theorem th_eq {r : Nat} {x : Int32} (hr : r < 16) (e1 : tl r = gO (8 * r)) (e2 : ts r = gV r) : fM_isThere gO gV (nI r) x = fT_isStocked tl ts (nI r) x := by
  unfold fM_isThere fT_isStocked
  rw [q8_0 hr, nI_clamp (by omega), e1, e2]
theorem th_h {r L : Nat} {x : Int32} {q : Nat} (ex : x = nI q) (hq : q ≤ 126) (hr : r < 16) (hL : L ≤ 126) (e1 : tl r = nI L) (h : ¬ fT_isStocked tl ts (nI r) x = 0) : L = q := by
  unfold fT_isStocked at h
  rw [nI_clamp (by omega), e1] at h
  by_cases c : nI L = x
  · rw [ex] at c
    exact (nI_eq (by omega) (by omega)).mp c
  · rw [if_neg c] at h
    exact absurd rfl h
def hg (tl tn ts : Nat → Int32) (ov th : Int64) (an : Int32) (i : Nat) : Bool := decide (¬ fT_isStocked tl ts (nI i) 104 = 0) && decide (¬ fT_holds tn (nI i) 0 ov ov = 0) && decide (¬ fT_holds tn (nI i) 2 th th = 0) && decide (¬ fT_number tn (nI i) 4 < an)
theorem hK_ff {ov th : Int64} {an : Int32} (hz : tz ≤ 16) : ∀ (n i : Nat), i ≤ tz → tz < i + n → gT_firstHinge tl tn ts tz ov th an n i = ff (hg tl tn ts ov th an) nI tz n i := by
  intro n
  induction n with
  | zero => intro i h1 h2; omega
  | succ n ih =>
    intro i h1 h2
    rw [gT_firstHinge, ff]
    by_cases c : i < tz
    · rw [if_neg (nI_ge c (by omega)), if_pos c]
      by_cases c1 : fT_isStocked tl ts (nI i) 104 = 0
      · rw [if_pos c1, if_neg (by simp [hg, c1]), ih _ (by omega) (by omega)]
      by_cases c2 : fT_holds tn (nI i) 0 ov ov = 0
      · rw [if_neg c1, if_pos c2, if_neg (by simp [hg, c2]), ih _ (by omega) (by omega)]
      by_cases c3 : fT_holds tn (nI i) 2 th th = 0
      · rw [if_neg c1, if_neg c2, if_pos c3, if_neg (by simp [hg, c3]), ih _ (by omega) (by omega)]
      by_cases c4 : fT_number tn (nI i) 4 < an
      · rw [if_neg c1, if_neg c2, if_neg c3, if_pos c4, if_neg (by simp [hg, c4]), ih _ (by omega) (by omega)]
      · rw [if_neg c1, if_neg c2, if_neg c3, if_neg c4, if_pos (by simp [hg, c1, c2, c3, c4])]
    · rw [if_pos (nI_le (by omega) (by omega)), if_neg c]
theorem ho_in {r L k k2 : Nat} {v : Int64} (x x2 : Int32) (ex : x = nI k) (ex2 : x2 = nI k2) (e3 : x + 1 = x2) (hr : r < 16) (h : row_ok tn gO r L) (hk : k < lsz L) (hk2 : k2 < lsz L) : fM_isIn v (fM_number gO (nI r) x) (fM_number gO (nI r) x2) = fT_holds tn (nI r) x v v := by
  unfold fM_isIn fT_holds
  rw [(nu_eq x ex hr h hk).1, (nu_eq x2 ex2 hr h hk2).1, e3]
theorem hM_gb {ov th : Int64} {an : Int32} (hz : tz ≤ 16) (hrw : rows_ok tl tn gO tz) (hst : ∀ r, r < tz → ts r = gV r) : ∀ (n : Nat) (found : Int32) (j : Nat), j ≤ tz → j < n → gM_hinge gO gV tz ov th an n 0 found (nI j - 1) j = (gb (hg tl tn ts ov th an) nI j found, 0) := by
  intro n
  induction n with
  | zero => intro f j h1 h2; omega
  | succ n ih =>
    intro found j h1 h2
    cases j with
    | zero =>
      rw [gM_hinge, if_pos (by decide), if_pos (by decide)]; rfl
    | succ j =>
      obtain ⟨L, m1, m2, m3, m4, m5, m6⟩ := hrw j (by omega)
      have et : fM_isThere gO gV (nI j) 104 = fT_isStocked tl ts (nI j) 104 := th_eq (by omega) (by rw [m1, m4]) (hst j (by omega))
      rw [gM_hinge, nI_pred, if_neg (nI_pos (by omega)), if_pos rfl, gb, pm1, show j + 1 - 1 = j from rfl, et]
      by_cases c1 : fT_isStocked tl ts (nI j) 104 = 0
      · have e : hg tl tn ts ov th an j = true ↔ False := by simp [hg, c1]
        rw [if_neg (fun q => e.mp q), ← ih found j (by omega) (by omega)]
        simp only [if_pos c1]
        repeat' split
        all_goals rfl
      · have hL : L = 104 := th_h (q := 104) (by decide) (by omega) (by omega) m2 m1 c1
        have h6 : lsz L = 6 := by rw [hL]; decide
        rw [ho_in (v := ov) 0 1 (k := 0) (k2 := 1) (by decide) (by decide) (by decide) (by omega) m6 (by omega) (by omega), ho_in (v := th) 2 3 (k := 2) (k2 := 3) (by decide) (by decide) (by decide) (by omega) m6 (by omega) (by omega), (nu_eq (tn := tn) (gO := gO) (k := 4) 4 (by decide) (show j < 16 by omega) m6 (by omega)).1]
        by_cases c2 : fT_holds tn (nI j) 0 ov ov = 0
        · rw [if_pos c2, if_neg (by simp [hg, c2]), ih _ _ (by omega) (by omega)]
        by_cases c3 : fT_holds tn (nI j) 2 th th = 0
        · rw [if_neg c2, if_pos c3, if_neg (by simp [hg, c3]), ih _ _ (by omega) (by omega)]
        by_cases c4 : fT_number tn (nI j) 4 < an
        · rw [if_neg c2, if_neg c3, if_pos (t64_lt.mpr c4), if_neg (by simp [hg, c4]), ih _ _ (by omega) (by omega)]
        · rw [if_neg c2, if_neg c3, if_neg (fun q => c4 (t64_lt.mp q)), if_neg c1, if_pos (by simp [hg, c1, c2, c3, c4]), ih _ _ (by omega) (by omega)]
theorem ff_more2 {g : Nat → Bool} {val : Nat → Int32} {tz : Nat} : ff g val tz (tz + 1) 0 = ff g val tz tz 0 := ff_more tz 0 (by omega)
theorem qm_hinge (h : IV xl xz dw dh dt dd ox oy oq tl tn ts tz ul gT gO gV gX gY gR gC gS vs vr vw vh vt vd) (ol : Nat → Int64) (a0 a1 : Int64) (a2 : Int32) : fM_thrown (fM_hinge gO gV vr a0 a1 a2).2 = (fL_hinge tl tn ts tz ol a0 a1 a2).1 ∧ ((fL_hinge tl tn ts tz ol a0 a1 a2).1 = 0 → (fL_hinge tl tn ts tz ol a0 a1 a2).2 (Int32.toNatClampNeg 0) = Int32.toInt64 (fM_hinge gO gV vr a0 a1 a2).1) := by
  obtain ⟨hx, hd, ho, hc, ⟨rfl, hz⟩, htl, hul, hrw, hst⟩ := h
  unfold fM_hinge fL_hinge xK_hinge fM_thrown fT_firstHinge
  by_cases c : tz = 0
  · subst c
    simp only [if_pos nI_0, ec_L_hinge_ISE]
    rw [gM_hinge, if_pos (by decide), if_neg (by decide)]
    exact ⟨rfl, fun h => absurd h (by decide)⟩
  · have n0 : ¬ nI tz = 0 := nI_ne0 (by omega) (by omega)
    simp only [if_neg n0, hM_gb hz hrw hst (tz + 1) (-1) tz (Nat.le_refl _) (by omega), hK_ff hz (tz + 1) 0 (by omega) (by omega), gb_all, ff_more2]
    exact ⟨trivial, fun _ => updL_at⟩
end QME
