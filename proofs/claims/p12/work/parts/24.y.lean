/-! slide: the longest, of several the first -/
def bs (g : Nat → Bool) (num : Nat → Int32) (a b : Nat) (m : Int32) : Prop := (m = -1 ∧ ∀ i, a ≤ i → i < b → g i = false) ∨ ∃ k, a ≤ k ∧ k < b ∧ m = nI k ∧ g k = true ∧ (∀ i, a ≤ i → i < b → g i = true → (num i).toInt ≤ (num k).toInt) ∧ (∀ i, a ≤ i → i < k → g i = true → (num i).toInt < (num k).toInt)
theorem bs_one {g : Nat → Bool} {num : Nat → Int32} {b : Nat} {m1 m2 : Int32} (h1 : bs g num 0 b m1) (h2 : bs g num 0 b m2) : m1 = m2 := by
  rcases h1 with ⟨e1, f1⟩ | ⟨k1, a1, b1, e1, g1, x1, y1⟩
  · rcases h2 with ⟨e2, f2⟩ | ⟨k2, a2, b2, e2, g2, x2, y2⟩
    · rw [e1, e2]
    · have := f1 k2 a2 b2
      rw [g2] at this
      cases this
  · rcases h2 with ⟨e2, f2⟩ | ⟨k2, a2, b2, e2, g2, x2, y2⟩
    · have := f2 k1 a1 b1
      rw [g1] at this
      cases this
    · have p1 := x1 k2 a2 b2 g2
      have p2 := x2 k1 a1 b1 g1
      have e : k1 = k2 := by
        rcases Nat.lt_trichotomy k1 k2 with q | q | q
        · have := y2 k1 a1 q g1; omega
        · exact q
        · have := y1 k2 a2 q g2; omega
      rw [e1, e2, e]
section QMG
variable {xl : Nat → Int32} {xz : Int32} {dw dh dt dd : Int64} {ox oy oq tl tn ts : Nat → Int32} {tz : Nat} {ul gT gO gV : Nat → Int32} {gX gY gR : Nat → Int64} {gC gS : Nat → Int32} {vs : Int32} {vr : Nat} {vw vh vt vd : Int64}
def sg (tl tn ts : Nat → Int32) (de : Int64) (i : Nat) : Bool := decide (¬ fT_isStocked tl ts (nI i) 115 = 0) && decide (¬ de < Int32.toInt64 (fT_number tn (nI i) 0))
def sn (tn : Nat → Int32) (i : Nat) : Int32 := fT_number tn (nI i) 0
theorem bs_skip {g : Nat → Bool} {num : Nat → Int32} {i : Nat} {m : Int32} (h : bs g num 0 i m) (c : g i = false) : bs g num 0 (i + 1) m := by
  rcases h with ⟨e1, f1⟩ | ⟨k1, a1, b1, e1, g1, x1, y1⟩
  · refine Or.inl ⟨e1, fun j h1 h2 => ?_⟩
    by_cases q : j = i
    · rw [q]; exact c
    · exact f1 j h1 (by omega)
  · refine Or.inr ⟨k1, a1, by omega, e1, g1, fun j h1 h2 h3 => ?_, y1⟩
    by_cases q : j = i
    · rw [q, c] at h3; cases h3
    · exact x1 j h1 (by omega) h3
theorem bs_skp {g : Nat → Bool} {num : Nat → Int32} {j b : Nat} {m : Int32} (h : bs g num (j + 1) b m) (c : g j = false) : bs g num j b m := by
  rcases h with ⟨e1, f1⟩ | ⟨k1, a1, b1, e1, g1, x1, y1⟩
  · refine Or.inl ⟨e1, fun i h1 h2 => ?_⟩
    by_cases q : i = j
    · rw [q]; exact c
    · exact f1 i (by omega) h2
  · refine Or.inr ⟨k1, by omega, b1, e1, g1, fun i h1 h2 h3 => ?_, fun i h1 h2 h3 => ?_⟩
    · by_cases q : i = j
      · rw [q, c] at h3; cases h3
      · exact x1 i (by omega) h2 h3
    · by_cases q : i = j
      · rw [q, c] at h3; cases h3
      · exact y1 i (by omega) h2 h3
theorem sK {de : Int64} (hz : tz ≤ 16) : ∀ (n : Nat) (best : Int32) (i : Nat), i ≤ tz → tz < i + n → bs (sg tl tn ts de) (sn tn) 0 i best → bs (sg tl tn ts de) (sn tn) 0 tz (gT_longestSlide tl tn ts tz de n best i) := by
  intro n
  induction n with
  | zero => intro best i h1 h2; omega
  | succ n ih =>
    intro best i h1 h2 h3
    rw [gT_longestSlide]
    by_cases c : i < tz
    · rw [if_neg (nI_ge c (by omega))]
      by_cases c1 : fT_isStocked tl ts (nI i) 115 = 0
      · rw [if_pos c1]
        exact ih _ _ (by omega) (by omega) (bs_skip h3 (by simp [sg, c1]))
      rw [if_neg c1]
      by_cases c2 : de < Int32.toInt64 (fT_number tn (nI i) 0)
      · rw [if_pos c2]
        exact ih _ _ (by omega) (by omega) (bs_skip h3 (by simp [sg, c2]))
      rw [if_neg c2]
      have gi : sg tl tn ts de i = true := by simp [sg, c1, c2]
      rcases h3 with ⟨rfl, f1⟩ | ⟨k, a1, b1, rfl, g1, x1, y1⟩
      · rw [if_pos (by decide)]
        refine ih _ _ (by omega) (by omega) (Or.inr ⟨i, by omega, by omega, rfl, gi, fun j h4 h5 h6 => ?_, fun j h4 h5 h6 => ?_⟩)
        · by_cases q : j = i
          · rw [q]; omega
          · rw [f1 j h4 (by omega)] at h6; cases h6
        · rw [f1 j h4 h5] at h6; cases h6
      · rw [if_neg (nI_pos (by omega))]
        by_cases c4 : fT_number tn (nI i) 0 ≤ fT_number tn (nI k) 0
        · rw [if_pos c4]
          rw [Int32.le_iff_toInt_le] at c4
          refine ih _ _ (by omega) (by omega) (Or.inr ⟨k, by omega, by omega, rfl, g1, fun j h4 h5 h6 => ?_, y1⟩)
          by_cases q : j = i
          · rw [q]; exact c4
          · exact x1 j h4 (by omega) h6
        · rw [if_neg c4]
          rw [Int32.le_iff_toInt_le] at c4
          have c5 : (sn tn k).toInt < (sn tn i).toInt := by unfold sn; omega
          refine ih _ _ (by omega) (by omega) (Or.inr ⟨i, by omega, by omega, rfl, gi, fun j h4 h5 h6 => ?_, fun j h4 h5 h6 => ?_⟩)
          · by_cases q : j = i
            · rw [q]; omega
            · have := x1 j h4 (by omega) h6; omega
          · have := x1 j h4 h5 h6; omega
    · rw [if_pos (nI_le (by omega) (by omega))]
      have e : i = tz := by omega
      rw [e] at h3
      exact h3
theorem sM {de : Int64} (hz : tz ≤ 16) (hrw : rows_ok tl tn gO tz) (hst : ∀ r, r < tz → ts r = gV r) : ∀ (n : Nat) (best : Int32) (j : Nat), j ≤ tz → j < n → bs (sg tl tn ts de) (sn tn) j tz best → bs (sg tl tn ts de) (sn tn) 0 tz (gM_slide gO gV tz de n 0 best (nI j - 1) j).1 ∧ (gM_slide gO gV tz de n 0 best (nI j - 1) j).2 = 0 := by
  intro n
  induction n with
  | zero => intro best j h1 h2; omega
  | succ n ih =>
    intro best j h1 h2 h3
    cases j with
    | zero =>
      rw [gM_slide, if_pos (by decide), if_pos (by decide)]
      exact ⟨h3, rfl⟩
    | succ j =>
      obtain ⟨L, m1, m2, m3, m4, m5, m6⟩ := hrw j (by omega)
      have et : fM_isThere gO gV (nI j) 115 = fT_isStocked tl ts (nI j) 115 := th_eq (by omega) (by rw [m1, m4]) (hst j (by omega))
      rw [gM_slide, nI_pred, if_neg (nI_pos (by omega)), if_pos rfl, pm1, show j + 1 - 1 = j from rfl, et]
      by_cases c1 : fT_isStocked tl ts (nI j) 115 = 0
      · rw [if_pos c1]
        exact ih _ _ (by omega) (by omega) (bs_skp h3 (by simp [sg, c1]))
      have hL : L = 115 := th_h (q := 115) (by decide) (by omega) (by omega) m2 m1 c1
      have h6 : lsz L = 2 := by rw [hL]; decide
      rw [if_neg c1, (nu_eq (tn := tn) (gO := gO) (k := 0) 0 (by decide) (show j < 16 by omega) m6 (by omega)).1]
      by_cases c2 : de < Int32.toInt64 (fT_number tn (nI j) 0)
      · rw [if_pos c2]
        exact ih _ _ (by omega) (by omega) (bs_skp h3 (by simp [sg, c2]))
      rw [if_neg c2]
      have gj : sg tl tn ts de j = true := by simp [sg, c1, c2]
      rcases h3 with ⟨rfl, f1⟩ | ⟨k, a1, b1, rfl, g1, x1, y1⟩
      · rw [if_pos (by decide)]
        refine ih _ _ (by omega) (by omega) (Or.inr ⟨j, by omega, by omega, rfl, gj, fun i h4 h5 h6 => ?_, fun i h4 h5 h6 => by omega⟩)
        by_cases q : i = j
        · rw [q]; omega
        · rw [f1 i (by omega) h5] at h6; cases h6
      · obtain ⟨K, k1, k2, k3, k4, k5, k6⟩ := hrw k b1
        have cs : ¬ fT_isStocked tl ts (nI k) 115 = 0 := by
          unfold sg at g1
          simp only [Bool.and_eq_true, decide_eq_true_eq] at g1
          exact g1.1
        have hK : K = 115 := th_h (q := 115) (by decide) (by omega) (by omega) k2 k1 cs
        have hK6 : lsz K = 2 := by rw [hK]; decide
        rw [if_neg (nI_pos (by omega)), (nu_eq (tn := tn) (gO := gO) (k := 0) 0 (by decide) (show k < 16 by omega) k6 (by omega)).1]
        by_cases c4 : fT_number tn (nI j) 0 < fT_number tn (nI k) 0
        · rw [if_pos (t64_lt.mpr c4)]
          rw [Int32.lt_iff_toInt_lt] at c4
          have c5 : (sn tn j).toInt < (sn tn k).toInt := c4
          refine ih _ _ (by omega) (by omega) (Or.inr ⟨k, by omega, by omega, rfl, g1, fun i h4 h5 h6 => ?_, fun i h4 h5 h6 => ?_⟩)
          · by_cases q : i = j
            · rw [q]; omega
            · exact x1 i (by omega) h5 h6
          · by_cases q : i = j
            · rw [q]; exact c5
            · exact y1 i (by omega) h5 h6
        · rw [if_neg (fun q => c4 (t64_lt.mp q))]
          rw [Int32.lt_iff_toInt_lt] at c4
          have c5 : (sn tn k).toInt ≤ (sn tn j).toInt := by unfold sn; omega
          refine ih _ _ (by omega) (by omega) (Or.inr ⟨j, by omega, by omega, rfl, gj, fun i h4 h5 h6 => ?_, fun i h4 h5 h6 => by omega⟩)
          by_cases q : i = j
          · rw [q]; omega
          · have := x1 i (by omega) h5 h6; omega
theorem qm_slide (h : IV xl xz dw dh dt dd ox oy oq tl tn ts tz ul gT gO gV gX gY gR gC gS vs vr vw vh vt vd) (ol : Nat → Int64) (a0 : Int64) : fM_thrown (fM_slide gO gV vr a0).2 = (fL_slide tl tn ts tz ol a0).1 ∧ ((fL_slide tl tn ts tz ol a0).1 = 0 → (fL_slide tl tn ts tz ol a0).2 (Int32.toNatClampNeg 0) = Int32.toInt64 (fM_slide gO gV vr a0).1) := by
  obtain ⟨hx, hd, ho, hc, ⟨rfl, hz⟩, htl, hul, hrw, hst⟩ := h
  unfold fM_slide fL_slide xK_slide fM_thrown fT_longestSlide
  by_cases c : tz = 0
  · subst c
    simp only [if_pos nI_0, ec_L_slide_ISE]
    rw [gM_slide, if_pos (by decide), if_neg (by decide)]
    exact ⟨rfl, fun h => absurd h (by decide)⟩
  · have n0 : ¬ nI tz = 0 := nI_ne0 (by omega) (by omega)
    have e1 := sK (tl := tl) (tn := tn) (ts := ts) (de := a0) hz (tz + 1) (-1) 0 (by omega) (by omega) (Or.inl ⟨rfl, fun i h1 h2 => by omega⟩)
    have e2 := sM (de := a0) hz hrw hst (tz + 1) (-1) tz (Nat.le_refl _) (by omega) (Or.inl ⟨rfl, fun i h1 h2 => by omega⟩)
    simp only [if_neg n0, e2.2, bs_one e1 e2.1]
    exact ⟨trivial, fun _ => updL_at⟩
/-! place -/
theorem dv_2 {a g : Nat} (ha : a < 2 ^ 62) (hg0 : 0 < g) (hg : g < 2 ^ 62) : lN (2 * a) / lN (2 * g) = lN a / lN g := by
  have n1 : ∀ q : Nat, q < 2 ^ 63 → lN q ≠ -1 := fun q hq e => by
    have := congrArg Int64.toInt e
    rw [z64_n hq, show (-1 : Int64).toInt = -1 from by decide] at this; omega
  apply Int64.toInt_inj.mp
  rw [Int64.toInt_div_of_ne_right _ _ (n1 _ (by omega)), Int64.toInt_div_of_ne_right _ _ (n1 _ (by omega)), z64_n (by omega), z64_n (by omega), z64_n (by omega), z64_n (by omega)]
  rw [Int.tdiv_eq_ediv_of_nonneg (by omega), Int.tdiv_eq_ediv_of_nonneg (by omega)]
  have e1 : ((2 * a : Nat) : Int) / ((2 * g : Nat) : Int) = ((2 * a / (2 * g) : Nat) : Int) := rfl
  have e2 : (a : Int) / (g : Int) = ((a / g : Nat) : Int) := rfl
  rw [e1, e2, Nat.mul_div_mul_left _ _ (by omega)]
theorem gcd_42 (b : Nat) : Nat.gcd (2 * b) 4 = 2 * Nat.gcd b 2 := Nat.gcd_mul_left 2 b 2
theorem nlt0 {x : Int32} : ¬ x < 0 ↔ 0 ≤ x := by
  rw [Int32.lt_iff_toInt_lt, Int32.le_iff_toInt_le]; omega
end QMG
