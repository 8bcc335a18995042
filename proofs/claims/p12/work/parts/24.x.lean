section QMF
variable {xl : Nat → Int32} {xz : Int32} {dw dh dt dd : Int64} {ox oy oq tl tn ts : Nat → Int32} {tz : Nat} {ul gT gO gV : Nat → Int32} {gX gY gR : Nat → Int64} {gC gS : Nat → Int32} {vs : Int32} {vr : Nat} {vw vh vt vd : Int64}
theorem t32 (x : Int32) : Int64.toInt32 (Int32.toInt64 x) = x := by
  apply Int32.toInt_inj.mp
  have h1 := Int32.le_toInt x
  have h2 := Int32.toInt_lt x
  rw [Int64.toInt_toInt32, Int32.toInt_toInt64]
  exact Int.bmod_eq_of_le (by omega) (by omega)
def cg (tl tn : Nat → Int32) (dw dh dt dd : Int64) (i : Nat) : Bool := decide (tl i = 99) && decide (¬ Int32.toInt64 (fT_number tn (nI i) 0) < dh) && decide (¬ ((Int32.toInt64 (fT_number tn (nI i) 1)) * 1000) * 1000000 < fD_millionWeights dw dh dt dd)
def cv2 (tn : Nat → Int32) (i : Nat) : Int32 := fT_number tn (nI i) 2
theorem cK_ff (hz : tz ≤ 16) : ∀ (n i : Nat), i ≤ tz → tz < i + n → gT_hingesOf tl tn tz dw dh dt dd n i = ff (cg tl tn dw dh dt dd) (cv2 tn) tz n i := by
  intro n
  induction n with
  | zero => intro i h1 h2; omega
  | succ n ih =>
    intro i h1 h2
    rw [gT_hingesOf, ff]
    by_cases c : i < tz
    · rw [if_neg (nI_ge c (by omega)), if_pos c, nI_clamp (by omega)]
      by_cases c1 : tl i = 99
      · rw [if_pos c1]
        by_cases c2 : Int32.toInt64 (fT_number tn (nI i) 0) < dh
        · rw [if_pos c2, if_neg (by simp [cg, c2]), ih _ (by omega) (by omega)]
        by_cases c3 : ((Int32.toInt64 (fT_number tn (nI i) 1)) * 1000) * 1000000 < fD_millionWeights dw dh dt dd
        · rw [if_neg c2, if_pos c3, if_neg (by simp [cg, c3]), ih _ (by omega) (by omega)]
        · rw [if_neg c2, if_neg c3, if_pos (by simp [cg, c1, c2, c3])]; rfl
      · rw [if_neg c1, if_neg (by simp [cg, c1]), ih _ (by omega) (by omega)]
    · rw [if_pos (nI_le (by omega) (by omega)), if_neg c]
theorem cM_gb (hz : tz ≤ 16) (hrw : rows_ok tl tn gO tz) : ∀ (n : Nat) (found : Int32) (j : Nat), j ≤ tz → j < n → gM_hinges gO tz dw dh dt dd n found (nI j - 1) j = gb (cg tl tn dw dh dt dd) (cv2 tn) j found := by
  intro n
  induction n with
  | zero => intro f j h1 h2; omega
  | succ n ih =>
    intro found j h1 h2
    cases j with
    | zero => rw [gM_hinges, if_pos (by decide)]; rfl
    | succ j =>
      obtain ⟨L, m1, m2, m3, m4, m5, m6⟩ := hrw j (by omega)
      rw [gM_hinges, nI_pred, if_neg (nI_pos (by omega)), gb, pm1, show j + 1 - 1 = j from rfl, q8_0 (show j < 16 by omega), m4, ← m1]
      by_cases c1 : tl j = 99
      · have hL : L = 99 := by rw [m1] at c1; exact (l_eq 99 (b := 99) (by decide) (by omega) (by omega)).mp c1
        have h3 : lsz L = 3 := by rw [hL]; decide
        rw [if_pos c1, (nu_eq (tn := tn) (gO := gO) (k := 0) 0 (by decide) (show j < 16 by omega) m6 (by omega)).1, (nu_eq (tn := tn) (gO := gO) (k := 1) 1 (by decide) (show j < 16 by omega) m6 (by omega)).1, (nu_eq (tn := tn) (gO := gO) (k := 2) 2 (by decide) (show j < 16 by omega) m6 (by omega)).1, t32]
        by_cases c2 : Int32.toInt64 (fT_number tn (nI j) 0) < dh
        · rw [if_pos c2, if_neg (by simp [cg, c2]), ih _ _ (by omega) (by omega)]
        by_cases c3 : ((Int32.toInt64 (fT_number tn (nI j) 1)) * 1000) * 1000000 < fD_millionWeights dw dh dt dd
        · rw [if_neg c2, if_pos (show _ < fM_grams dw dh dt dd from c3), if_neg (by simp [cg, c3]), ih _ _ (by omega) (by omega)]
        · rw [if_neg c2, if_neg (show ¬ _ < fM_grams dw dh dt dd from c3), if_pos (by simp [cg, c1, c2, c3]), ih _ _ (by omega) (by omega)]; rfl
      · rw [if_neg c1, if_neg (by simp [cg, c1]), ih _ _ (by omega) (by omega)]
theorem hi_eq (hz : tz ≤ 16) (hrw : rows_ok tl tn gO tz) : fM_hinges gO tz dw dh dt dd = fT_hingesOf tl tn tz dw dh dt dd := by
  unfold fM_hinges fT_hingesOf
  rw [cM_gb hz hrw (tz + 1) (-1) tz (Nat.le_refl _) (by omega), cK_ff hz (tz + 1) 0 (by omega) (by omega), gb_all, ff_more2]
theorem ff_val {g : Nat → Bool} {val : Nat → Int32} {tz : Nat} : ∀ (n i : Nat), ff g val tz n i = -1 ∨ ∃ r, r < tz ∧ g r = true ∧ ff g val tz n i = val r := by
  intro n
  induction n with
  | zero => intro i; exact Or.inl rfl
  | succ n ih =>
    intro i
    rw [ff]
    by_cases c : i < tz
    · rw [if_pos c]
      by_cases c1 : g i = true
      · rw [if_pos c1]; exact Or.inr ⟨i, c, c1, rfl⟩
      · rw [if_neg c1]; exact ih _
    · rw [if_neg c]; exact Or.inl rfl
theorem hi_val (hz : tz ≤ 16) (hrw : rows_ok tl tn gO tz) : fT_hingesOf tl tn tz dw dh dt dd = -1 ∨ ∃ x : Nat, 1 ≤ x ∧ x ≤ 9 ∧ fT_hingesOf tl tn tz dw dh dt dd = nI x := by
  unfold fT_hingesOf
  rw [cK_ff hz (tz + 1) 0 (by omega) (by omega)]
  rcases ff_val (g := cg tl tn dw dh dt dd) (val := cv2 tn) (tz := tz) (tz + 1) 0 with e | ⟨r, hr, e1, e2⟩
  · exact Or.inl e
  · obtain ⟨L, m1, m2, m3, m4, m5, m6⟩ := hrw r hr
    have c1 : tl r = 99 := by
      unfold cg at e1
      simp only [Bool.and_eq_true, decide_eq_true_eq] at e1
      exact e1.1.1
    have hL : L = 99 := by rw [m1] at c1; exact (l_eq 99 (b := 99) (by decide) (by omega) (by omega)).mp c1
    have h3 : lsz L = 3 := by rw [hL]; decide
    obtain ⟨x, x1, x2, x3⟩ := m6.2 hL
    refine Or.inr ⟨x, x1, x2, ?_⟩
    rw [e2, ← x3]
    exact (nu_eq (tn := tn) (gO := gO) (k := 2) 2 (by decide) (show r < 16 by omega) m6 (by omega)).2
theorem qm_count (h : IV xl xz dw dh dt dd ox oy oq tl tn ts tz ul gT gO gV gX gY gR gC gS vs vr vw vh vt vd) (ol : Nat → Int64) : fM_thrown (fM_count gO vr vw vh vt vd).2 = (fL_count tl tn tz dw dh dt dd ol).1 ∧ ((fL_count tl tn tz dw dh dt dd ol).1 = 0 → (fL_count tl tn tz dw dh dt dd ol).2 (Int32.toNatClampNeg 0) = Int32.toInt64 (fM_count gO vr vw vh vt vd).1) := by
  obtain ⟨hx, ⟨⟨rfl, rfl, rfl, rfl⟩, -⟩, ho, hc, ⟨rfl, hz⟩, htl, hul, hrw, hst⟩ := h
  unfold fM_count fL_count xK_count fM_thrown
  by_cases c : tz = 0
  · subst c
    simp only [if_pos nI_0, ec_L_count_ISE]
    exact ⟨trivial, fun h => absurd h (by decide)⟩
  · have n0 : ¬ nI tz = 0 := nI_ne0 (by omega) (by omega)
    simp only [if_neg n0, hi_eq hz hrw]
    exact ⟨trivial, fun _ => updL_at⟩
theorem re_eq {i r : Nat} (hz : tz ≤ 16) (hrw : rows_ok tl tn gO tz) (hst : ∀ r, r < tz → ts r = gV r) (hi : i < tz) (hr : r < tz) (hL : tl r = 104) : fM_replaces gO gV (nI i) (nI r) = if nI i = nI r then 0 else fT_canReplace tl tn ts (nI i) (nI r) := by
  obtain ⟨L, m1, m2, m3, m4, m5, m6⟩ := hrw i hi
  obtain ⟨K, k1, k2, k3, k4, k5, k6⟩ := hrw r hr
  have eK : K = 104 := by rw [k1] at hL; exact (l_eq 104 (b := 104) (by decide) (by omega) (by omega)).mp hL
  have hK6 : lsz K = 6 := by rw [eK]; decide
  have et : fM_isThere gO gV (nI i) 104 = fT_isStocked tl ts (nI i) 104 := th_eq (by omega) (by rw [m1, m4]) (hst i hi)
  unfold fM_replaces
  rw [et]
  by_cases c : nI i = nI r
  · simp only [if_pos c]
    repeat' split
    all_goals rfl
  by_cases c1 : fT_isStocked tl ts (nI i) 104 = 0
  · simp only [if_neg c, if_pos c1, fT_canReplace]
    repeat' split
    all_goals rfl
  have hL2 : L = 104 := th_h (q := 104) (by decide) (by omega) (by omega) m2 m1 c1
  have hL6 : lsz L = 6 := by rw [hL2]; decide
  have ni : ∀ (x : Int32) (k : Nat), x = nI k → k < 6 → fM_number gO (nI i) x = Int32.toInt64 (fT_number tn (nI i) x) := fun x k ex hk => (nu_eq x ex (by omega) m6 (by omega)).1
  have nr : ∀ (x : Int32) (k : Nat), x = nI k → k < 6 → fM_number gO (nI r) x = Int32.toInt64 (fT_number tn (nI r) x) := fun x k ex hk => (nu_eq x ex (by omega) k6 (by omega)).1
  rw [ni 0 0 (by decide) (by omega), ni 1 1 (by decide) (by omega), ni 2 2 (by decide) (by omega), ni 3 3 (by decide) (by omega), ni 4 4 (by decide) (by omega), nr 0 0 (by decide) (by omega), nr 1 1 (by decide) (by omega), nr 2 2 (by decide) (by omega), nr 3 3 (by decide) (by omega), nr 4 4 (by decide) (by omega)]
  simp only [if_neg c, if_neg c1, fT_canReplace, fT_holds, show (0 : Int32) + 1 = 1 from by decide, show (2 : Int32) + 1 = 3 from by decide, t64_lt]
  by_cases d0 : fT_number tn (nI r) 0 < fT_number tn (nI i) 0
  · simp only [if_pos d0]; try simp
  by_cases d1 : fT_number tn (nI i) 1 < fT_number tn (nI r) 1
  · simp only [if_neg d0, if_pos d1]; try simp
  by_cases d2 : fT_number tn (nI r) 2 < fT_number tn (nI i) 2
  · simp only [if_neg d0, if_neg d1, if_pos d2]; try simp
  by_cases d3 : fT_number tn (nI i) 3 < fT_number tn (nI r) 3
  · simp only [if_neg d0, if_neg d1, if_neg d2, if_pos d3]; try simp
  simp only [if_neg d0, if_neg d1, if_neg d2, if_neg d3]; try simp
theorem ot_all {r : Nat} {k : Int32} (hz : tz ≤ 16) (hrw : rows_ok tl tn gO tz) (hst : ∀ r, r < tz → ts r = gV r) (hr : r < tz) (hL : tl r = 104) : ∀ (n : Nat) (left : Int32) (i : Nat), i ≤ tz → (gM_other gO gV tz (nI r) k n left i).1 = gT_otherHinge tl tn ts tz (nI r) k n left i ∧ (gM_other gO gV tz (nI r) k n left i).2 = 0 := by
  intro n
  induction n with
  | zero => intro left i _; exact ⟨rfl, rfl⟩
  | succ n ih =>
    intro left i hi
    rw [gM_other, gT_otherHinge]
    by_cases c : i < tz
    · have cn : ¬ nI tz ≤ nI i := nI_ge c (by omega)
      simp only [if_neg cn, re_eq hz hrw hst c hr hL]
      by_cases c1 : nI i = nI r
      · simp only [if_pos c1]
        exact ih _ _ (by omega)
      by_cases c2 : fT_canReplace tl tn ts (nI i) (nI r) = 0
      · simp only [if_neg c1, if_pos c2]
        exact ih _ _ (by omega)
      by_cases c3 : left = 0
      · simp only [if_neg c1, if_neg c2, if_pos c3]
        exact ⟨trivial, trivial⟩
      · simp only [if_neg c1, if_neg c2, if_neg c3]
        exact ih _ _ (by omega)
    · have cn : nI tz ≤ nI i := nI_le (by omega) (by omega)
      simp only [if_pos cn]
      exact ⟨trivial, trivial⟩
theorem qm_other (h : IV xl xz dw dh dt dd ox oy oq tl tn ts tz ul gT gO gV gX gY gR gC gS vs vr vw vh vt vd) (ol : Nat → Int64) (a0 a1 : Int32) : fM_thrown (fM_other gO gV vr a0 a1).2 = (fL_other tl tn ts tz ol a0 a1).1 ∧ ((fL_other tl tn ts tz ol a0 a1).1 = 0 → (fL_other tl tn ts tz ol a0 a1).2 (Int32.toNatClampNeg 0) = Int32.toInt64 (fM_other gO gV vr a0 a1).1) := by
  obtain ⟨hx, hd, ho, hc, ⟨rfl, hz⟩, htl, hul, hrw, hst⟩ := h
  unfold fM_other fL_other xK_other fM_thrown fT_otherHinge
  rcases rc_n (row := a0) hz with ⟨rfl, e1, e2⟩ | ⟨e1, e2, e3⟩ | ⟨e1, e2, e3, e4⟩ | ⟨e1, e2, e3, e4, r, hr, rfl⟩
  · simp only [e2, if_pos e1, if_neg (show ¬ (1 : Int32) ≤ 0 from by decide), ec_L_other_ISE]
    exact ⟨trivial, fun h => absurd h (by decide)⟩
  · simp only [e3, if_neg e1, if_pos e2, if_neg (show ¬ (2 : Int32) ≤ 0 from by decide), ec_L_other_IOB]
    exact ⟨trivial, fun h => absurd h (by decide)⟩
  · simp only [e4, if_neg e1, if_neg e2, if_neg e3, if_neg (show ¬ (2 : Int32) ≤ 0 from by decide), ec_L_other_IOB]
    exact ⟨trivial, fun h => absurd h (by decide)⟩
  · obtain ⟨L, m1, m2, m3, m4, m5, m6⟩ := hrw r hr
    have el : fT_letter tl (nI r) = nI L := by unfold fT_letter; rw [nI_clamp (by omega), m1]
    simp only [e4, if_neg e1, if_neg e2, if_pos e3, if_pos (show (0 : Int32) ≤ 0 from by decide), el, q8_0 (show r < 16 by omega), m4]
    by_cases c1 : 0 ≤ a1
    · by_cases c2 : nI L = 104
      · have e := ot_all (k := a1) hz hrw hst hr (m1.trans c2) (tz + 1) a1 0 (by omega)
        simp only [if_pos c1, if_pos c2, e.1, e.2]
        exact ⟨trivial, fun _ => updL_at⟩
      · simp only [if_pos c1, if_neg c2, ec_L_other_IAE]
        exact ⟨trivial, fun h => absurd h (by decide)⟩
    · simp only [if_neg c1, ec_L_other_IOB]
      exact ⟨trivial, fun h => absurd h (by decide)⟩
end QMF
