/-! rows32: class and reference answer alike -/
def r32c (n : Nat) : Nat := if n < 74 then 0 else (n - 74) / 32 + 1
theorem r32_g {k : Int32} {n : Nat} (hn : n ≤ 100000) : ∀ (f i : Nat), i ≤ r32c n → r32c n < i + f → gM_rows32 (lN n) k f i = if k = (-1) then (nI (r32c n), 0) else (if nI (r32c n) ≤ k then ((-1), 0) else (37 + (32 * k), 0)) := by
  intro f
  induction f with
  | zero => intro i h1 h2; omega
  | succ f ih =>
    intro i h1 h2
    have hc : r32c n ≤ 3200 := by unfold r32c; split <;> omega
    rw [gM_rows32]
    have e1 : (lN n - 37).toInt = (n : Int) - 37 := by
      have z : (37 : Int64).toInt = 37 := by decide
      rw [z64_sub (by rw [z64_n (by omega), z]; omega) (by rw [z64_n (by omega), z]; omega), z64_n (by omega), z]
    have e2 : ((37 : Int64) + 32 * Int32.toInt64 (nI i)).toInt = 37 + 32 * (i : Int) := by
      rw [nI_l (by omega), show (32 : Int64) * lN i = lN (32 * i) from lN_mul 32 i, show (37 : Int64) + lN (32 * i) = lN (37 + 32 * i) from lN_add 37 _, z64_n (by omega)]
      omega
    by_cases c : i = r32c n
    · subst c
      rw [if_pos]
      rw [Int64.lt_iff_toInt_lt, e1, e2]
      unfold r32c; split <;> omega
    · rw [if_neg]
      · exact ih (i + 1) (by omega) (by omega)
      · rw [Int64.lt_iff_toInt_lt, e1, e2]
        have hlt : i < r32c n := by omega
        unfold r32c at hlt; split at hlt <;> omega
theorem r32_d {n : Nat} (h1 : 74 ≤ n) (h2 : n ≤ 100000) : (Int64.toInt32 (lN n) - 74) / 32 + 1 = nI (r32c n) := by
  rw [lN_i, show nI n - (74 : Int32) = nI (n - 74) from by
    have e : nI n = nI (n - 74) + nI 74 := by rw [nI_add]; congr 1; omega
    rw [e, show (74 : Int32) = nI 74 from by decide]; simp]
  have e3 : nI (n - 74) / 32 = nI ((n - 74) / 32) := by
    apply Int32.toInt_inj.mp
    have z : (32 : Int32).toInt = 32 := by decide
    rw [Int32.toInt_div_of_ne_right _ _ (by decide), nI_toInt (by omega), nI_toInt (by omega), z, Int.tdiv_eq_ediv_of_nonneg (by omega)]
    omega
  rw [e3, nI_1]
  congr 1
  unfold r32c
  rw [if_neg (by omega)]
theorem pm_rows32 (ol : Nat → Int64) (a0 : Int64) (a1 : Int32) : fM_thrown (fM_rows32 a0 a1).2 = (fL_rows32 ol a0 a1).1 ∧ ((fL_rows32 ol a0 a1).1 = 0 → (fL_rows32 ol a0 a1).2 (Int32.toNatClampNeg 0) = Int32.toInt64 (fM_rows32 a0 a1).1) := by
  have z1 : Int32.toInt64 1 = 1 := by decide
  by_cases c0 : fM_isIn a0 1 100000 = 0
  · simp only [fM_thrown, fM_rows32, fL_rows32, xK_rows32, wi_eq _ z1 z_p5, if_pos c0, ec_L_rows32_IAE]
    exact ⟨trivial, fun h => absurd h (by decide)⟩
  by_cases c1 : a1 < -1
  · have c2 : ¬ (-1) ≤ a1 := by
      rw [Int32.lt_iff_toInt_lt] at c1
      rw [Int32.le_iff_toInt_le]; omega
    simp only [fM_thrown, fM_rows32, fL_rows32, xK_rows32, wi_eq _ z1 z_p5, if_neg c0, if_pos c1, if_neg c2, ec_L_rows32_IAE]
    exact ⟨trivial, fun h => absurd h (by decide)⟩
  have c2 : (-1) ≤ a1 := by
    rw [Int32.lt_iff_toInt_lt] at c1
    rw [Int32.le_iff_toInt_le]; omega
  have b0 := in_toInt c0
  have y1 : (1 : Int64).toInt = 1 := by decide
  have y6 : (100000 : Int64).toInt = 100000 := by decide
  rw [y1, y6] at b0
  obtain ⟨n, hn, rfl⟩ : ∃ n : Nat, n ≤ 100000 ∧ a0 = lN n := ⟨a0.toInt.toNat, by omega, Int64.toInt_inj.mp (by rw [z64_n (by omega)]; omega)⟩
  have hc : r32c n ≤ 3200 := by unfold r32c; split <;> omega
  have eM : fM_rows32 (lN n) a1 = if a1 = (-1) then (nI (r32c n), 0) else (if nI (r32c n) ≤ a1 then ((-1), 0) else (37 + (32 * a1), 0)) := by
    simp only [fM_rows32, if_neg c0, if_neg c1]
    exact r32_g hn 4001 0 (by omega) (by omega)
  have eK : xK_rows32 (lN n) a1 = .ok (fM_rows32 (lN n) a1).1 := by
    rw [eM]
    simp only [xK_rows32, wi_eq _ z1 z_p5, if_neg c0, if_pos c2]
    by_cases c3 : 74 ≤ n
    · have e3 : (0 : Int32) ≤ Int64.toInt32 (lN n) - 74 := by
        rw [lN_i, show nI n - (74 : Int32) = nI (n - 74) from by
          have e : nI n = nI (n - 74) + nI 74 := by rw [nI_add]; congr 1; omega
          rw [e, show (74 : Int32) = nI 74 from by decide]; simp]
        exact nI_pos' (by omega)
      rw [if_pos e3, r32_d c3 hn]
      repeat' split
      all_goals rfl
    · have e3 : ¬ (0 : Int32) ≤ Int64.toInt32 (lN n) - 74 := by
        have z : (74 : Int32).toInt = 74 := by decide
        have z0 : (0 : Int32).toInt = 0 := by decide
        rw [lN_i, Int32.le_iff_toInt_le, Int32.toInt_sub, nI_toInt (by omega), z, z0, Int.bmod_eq_of_le (by omega) (by omega)]
        omega
      have e4 : r32c n = 0 := if_pos (by omega)
      rw [if_neg e3, e4, nI_0]
      repeat' split
      all_goals rfl
  have eT : (fM_rows32 (lN n) a1).2 = 0 := by
    rw [eM]
    repeat' split
    all_goals rfl
  simp only [fM_thrown, fL_rows32, eK, eT]
  exact ⟨trivial, fun _ => updL_at⟩
