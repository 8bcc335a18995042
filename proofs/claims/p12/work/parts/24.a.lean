/-! WHAT HOLDS AT THE LOOP'S HEAD, between the class's cells and the reference's -/
theorem lp_le {L i : Nat} (hL : L ≤ 4608) (hi : i ≤ L) (h : ¬ (Int32.ofNat L - 9 < nI i)) : i + 9 ≤ L := by
  have h1 : (Int32.ofNat L).toInt = (L : Int) := nI_toInt (n := L) (by omega)
  have h2 : (nI i).toInt = (i : Int) := nI_toInt (by omega)
  have h3 : (Int32.ofNat L - 9).toInt = (L : Int) - 9 := by
    rw [Int32.toInt_sub, h1, show (9 : Int32).toInt = 9 from by decide]
    exact Int.bmod_eq_of_le (by omega) (by omega)
  rw [Int32.lt_iff_toInt_lt, h2, h3] at h
  omega
theorem lp_kc {n : Nat} (h : n + 1 ≤ 1067) : n + 1 ≤ room_1.cells := h
theorem lp_ks {n : Nat} (h : n + 6 ≤ 9571) : n + 6 ≤ room_1.slots := h
theorem lp_9 (k : Nat) : nI (9 * k) + 9 = nI (9 * (k + 1)) := by
  rw [show (9 : Int32) = nI 9 from by decide, nI_add]; rfl
theorem lp_in {L k : Nat} (hL : L ≤ 4608) (h : 9 * k + 9 ≤ L) : lw_in (nI (9 * k)) L := by
  have key : ∀ j : Nat, j < 9 → vp_in (nI (9 * k) + nI j) L := fun j hj => by rw [nI_add]; exact vp_in_nI (by omega) (by omega)
  exact ⟨key 1 (by omega), key 2 (by omega), key 3 (by omega), key 4 (by omega), key 5 (by omega), key 6 (by omega), key 7 (by omega), key 8 (by omega)⟩
abbrev ch_ok (x : Int32) : Prop := narrow .char (.int x) = .int x
theorem ch_nar (x : Int32) : ch_ok (vp_nar .char x) := by
  show Value.int ((x.toUInt32.toUInt16.toUInt32).toUInt16.toUInt32.toInt32) = Value.int (x.toUInt32.toUInt16.toUInt32.toInt32)
  rw [UInt16.toUInt16_toUInt32]
theorem ch_upd {f : Nat → Int32} {k : Nat} {x : Int32} (h : ∀ j, ch_ok (f j)) : ∀ j, ch_ok (upd f k (vp_nar .char x) j) := by
  intro j
  unfold upd
  split
  · exact ch_nar x
  · exact h j
theorem ch_u : ∀ j : Nat, j < 127 → vp_nar .char (((nI j).toUInt32 % 65536).toInt32) = nI j := by decide +kernel
/-- sizes of the reference's rows -/
def sz6 (g : Nat → Int32) (n : Nat) : Prop := ∀ x, x < n → ∃ w : Nat, w ≤ 6 ∧ g (8 * x + 1) = nI w
def iv_x (xl gT : Nat → Int32) (xz vs : Int32) : Prop := ∃ w : Nat, w ≤ 300 ∧ xz = nI w ∧ vs = nI w ∧ (∀ j, ch_ok (xl j)) ∧ ∀ j, j < w → xl j = gT j ∧ ∃ u : Nat, 33 ≤ u ∧ u ≤ 126 ∧ gT j = nI u
def sz1 (v : Int64) : Prop := ∃ n : Nat, 1 ≤ n ∧ n ≤ 10000 ∧ v = lN n
def iv_d (dw dh dt dd vw vh vt vd : Int64) : Prop := (dw = vw ∧ dh = vh ∧ dt = vt ∧ dd = vd) ∧ sz1 vw ∧ sz1 vh ∧ sz1 vt ∧ sz1 vd
def iv_o (ox oy oq : Nat → Int32) (gX gY gR : Nat → Int64) : Prop := ∀ j, j < 16 → gR j = (oq j).toInt64 ∧ 0 ≤ oq j ∧ (¬ oq j = 0 → gX j = (ox j).toInt64 ∧ gY j = (oy j).toInt64)
def iv_c (gC gS : Nat → Int32) : Prop := ∀ j, j < 9 → gC j = cs_C j ∧ gS j = cs_S j
/-! longs -/
theorem z64_m {x : Int} (h1 : -2 ^ 63 ≤ x) (h2 : x < 2 ^ 63) : x.bmod (2 ^ 64) = x := Int.bmod_eq_of_le (by omega) (by omega)
theorem z64_add {a b : Int64} (h1 : -2 ^ 63 ≤ a.toInt + b.toInt) (h2 : a.toInt + b.toInt < 2 ^ 63) : (a + b).toInt = a.toInt + b.toInt := by rw [Int64.toInt_add]; exact z64_m h1 h2
theorem z64_sub {a b : Int64} (h1 : -2 ^ 63 ≤ a.toInt - b.toInt) (h2 : a.toInt - b.toInt < 2 ^ 63) : (a - b).toInt = a.toInt - b.toInt := by rw [Int64.toInt_sub]; exact z64_m h1 h2
theorem z64_mul {a b : Int64} (h1 : -2 ^ 63 ≤ a.toInt * b.toInt) (h2 : a.toInt * b.toInt < 2 ^ 63) : (a * b).toInt = a.toInt * b.toInt := by rw [Int64.toInt_mul]; exact z64_m h1 h2
theorem z64_0 : (0 : Int64).toInt = 0 := by decide
theorem z64_n {n : Nat} (h : n < 2 ^ 63) : (lN n).toInt = (n : Int) := lg_ofNat_toInt (by omega)
theorem nl0 {n : Nat} (h : n < 2 ^ 63) : ¬ lN n < 0 := by
  rw [Int64.lt_iff_toInt_lt, z64_n h, z64_0]; omega
theorem lN_of {x : Int64} (h : ¬ x < 0) : ∃ n : Nat, n < 2 ^ 63 ∧ x = lN n := by
  rw [Int64.lt_iff_toInt_lt, z64_0] at h
  have h2 := Int64.toInt_lt x
  refine ⟨x.toInt.toNat, by omega, ?_⟩
  apply Int64.toInt_inj.mp
  rw [z64_n (by omega)]; omega
theorem lN_ne {n : Nat} (h0 : 0 < n) (h : n < 2 ^ 63) : ¬ lN n = 0 := by
  intro e
  have := congrArg Int64.toInt e
  rw [z64_n h, z64_0] at this; omega
theorem lN_rem {a b : Nat} (ha : a < 2 ^ 63) (hb : b < 2 ^ 63) (h0 : 0 < b) : lN a - lN a / lN b * lN b = lN (a % b) := by
  have hb0 : ¬ (lN b).toInt = -1 := by rw [z64_n hb]; omega
  have e1 : (lN a / lN b).toInt = ((a / b : Nat) : Int) := by
    rw [Int64.toInt_div_of_ne_right _ _ (fun e => by have := congrArg Int64.toInt e; rw [z64_n hb] at this; have z : (-1 : Int64).toInt = -1 := by decide
                                                     rw [z] at this; omega), z64_n ha, z64_n hb]
    rw [Int.tdiv_eq_ediv_of_nonneg (by omega)]; rfl
  have h3 : a / b * b ≤ a := Nat.div_mul_le_self a b
  have e2 : (lN a / lN b * lN b).toInt = ((a / b * b : Nat) : Int) := by
    rw [z64_mul (by rw [e1, z64_n hb]; have : (0 : Int) ≤ ((a / b : Nat) : Int) * (b : Int) := by exact_mod_cast Nat.zero_le _
                    omega) (by rw [e1, z64_n hb]; have : ((a / b : Nat) : Int) * (b : Int) ≤ (a : Int) := by exact_mod_cast h3
                               omega), e1, z64_n hb]
    rfl
  apply Int64.toInt_inj.mp
  have h4 : a % b = a - a / b * b := by have := Nat.div_add_mod a b; rw [Nat.mul_comm] at this; omega
  rw [z64_sub (by rw [e2, z64_n ha]; omega) (by rw [e2, z64_n ha]; omega), e2, z64_n ha, z64_n (by omega), h4]
  omega
theorem cm_g {a b : Int64} : ∀ (n x y : Nat), y < n → x < 2 ^ 63 → y < 2 ^ 63 → gM_common a b n (lN x) (lN y) = lN (Nat.gcd x y) := by
  intro n
  induction n with
  | zero => intro x y h; omega
  | succ n ih =>
    intro x y hy hx hy2
    rw [gM_common]
    rcases Nat.eq_zero_or_pos y with e | h0
    · subst e
      rw [if_pos (by decide), Nat.gcd_zero_right]
    · have hm := Nat.mod_lt x h0
      rw [if_neg (lN_ne h0 hy2), lN_rem hx hy2 h0, ih y (x % y) (by omega) hy2 (by omega)]
      congr 1
      rw [Nat.gcd_comm x y, Nat.gcd_rec y x, Nat.gcd_comm]
theorem fc_n {x y : Nat} (hx : x < 2 ^ 63) (hy : y < 2 ^ 63) : fM_common (lN x) (lN y) = lN (Nat.gcd x y) := by
  unfold fM_common
  rw [z64_n hy]
  exact cm_g _ _ _ (by omega) hx hy
theorem fc_ne {x y : Nat} (hx : x < 2 ^ 63) (hy : y < 2 ^ 63) (h0 : 0 < y) : ¬ fM_common (lN x) (lN y) = 0 := by
  rw [fc_n hx hy]
  have h1 := Nat.le_of_dvd h0 (Nat.gcd_dvd_right x y)
  exact lN_ne (Nat.gcd_pos_of_pos_right _ h0) (by omega)
theorem gr_n (a b c d : Nat) : fM_grams (lN a) (lN b) (lN c) (lN d) = lN (a * b * c * d) := by
  unfold fM_grams
  rw [lN_mul, lN_mul, lN_mul]
theorem gr_le {a b c d : Nat} (ha : a ≤ 10000) (hb : b ≤ 10000) (hc : c ≤ 10000) (hd : d ≤ 10000) : a * b * c * d ≤ 10000 * 10000 * 10000 * 10000 := Nat.mul_le_mul (Nat.mul_le_mul (Nat.mul_le_mul ha hb) hc) hd
theorem sz1_of {v : Int64} (h : ¬ fM_isSize v = 0) : sz1 v := by
  unfold fM_isSize at h
  split at h
  · exact absurd rfl h
  · rename_i h1
    split at h
    · exact absurd rfl h
    · rename_i h2
      rw [Int64.lt_iff_toInt_lt] at h1 h2
      have z1 : (1 : Int64).toInt = 1 := by decide
      have z2 : (10000 : Int64).toInt = 10000 := by decide
      refine ⟨v.toInt.toNat, by omega, by omega, ?_⟩
      apply Int64.toInt_inj.mp
      rw [z64_n (by omega)]; omega
theorem od_eq (n : Int64) : fK_isOfDoor n = fM_isSize n := by
  unfold fK_isOfDoor fK_isWithin fM_isSize
  rw [show (1 : Int32).toInt64 = 1 from by decide, show (10000 : Int32).toInt64 = 10000 from by decide]
theorem wi_eq (v : Int64) {lo hi : Int32} {l h : Int64} (e1 : lo.toInt64 = l) (e2 : hi.toInt64 = h) : fK_isWithin v lo hi = fM_isIn v l h := by
  unfold fK_isWithin fM_isIn
  rw [e1, e2]
/-! holes -/
theorem in_toInt {v lo hi : Int64} (h : ¬ fM_isIn v lo hi = 0) : lo.toInt ≤ v.toInt ∧ v.toInt ≤ hi.toInt := by
  unfold fM_isIn at h
  split at h
  · exact absurd rfl h
  · rename_i h1
    split at h
    · exact absurd rfl h
    · rename_i h2
      rw [Int64.lt_iff_toInt_lt] at h1 h2
      omega
theorem rt_32 {v : Int64} (h1 : -2 ^ 31 ≤ v.toInt) (h2 : v.toInt < 2 ^ 31) : v.toInt32.toInt64 = v := by
  apply Int64.toInt_inj.mp
  rw [Int32.toInt_toInt64, Int64.toInt_toInt32]
  exact Int.bmod_eq_of_le (by omega) (by omega)
theorem upd_at {f : Nat → Int32} {k : Nat} {x : Int32} : upd f k x k = x := if_pos rfl
theorem upd_ne {f : Nat → Int32} {k j : Nat} {x : Int32} (h : ¬ j = k) : upd f k x j = f j := if_neg h
theorem updL_at {f : Nat → Int64} {k : Nat} {x : Int64} : vp_updL f k x k = x := if_pos rfl
theorem updL_ne {f : Nat → Int64} {k j : Nat} {x : Int64} (h : ¬ j = k) : vp_updL f k x j = f j := if_neg h
theorem hc_eq (ox oy oq : Nat → Int32) (k : Int32) (x0 y0 r0 : Int64) : ∃ v : Int32, fH_change ox oy oq k x0 y0 r0 = (v, upd ox (Int32.toNatClampNeg k) (if r0 = 0 then 0 else x0.toInt32), upd oy (Int32.toNatClampNeg k) (if r0 = 0 then 0 else y0.toInt32), upd oq (Int32.toNatClampNeg k) r0.toInt32) := by
  by_cases h : r0 = 0
  · simp only [fH_change, if_pos h]
    repeat' split
    all_goals exact ⟨_, rfl⟩
  · simp only [fH_change, if_neg h]
    repeat' split
    all_goals exact ⟨_, rfl⟩
theorem ho_new {ox oy oq : Nat → Int32} {gX gY gR : Nat → Int64} {i : Nat} {x0 y0 r0 : Int64} (h : iv_o ox oy oq gX gY gR) (hx : x0.toInt32.toInt64 = x0) (hy : y0.toInt32.toInt64 = y0) (hr1 : 0 ≤ r0.toInt) (hr2 : r0.toInt ≤ 1000) {gX' gY' gR' : Nat → Int64} (e1 : ∀ j, gX' j = if j = i then x0 else gX j) (e2 : ∀ j, gY' j = if j = i then y0 else gY j) (e3 : ∀ j, gR' j = if j = i then r0 else gR j) :
    iv_o (upd ox i (if r0 = 0 then 0 else x0.toInt32)) (upd oy i (if r0 = 0 then 0 else y0.toInt32)) (upd oq i r0.toInt32) gX' gY' gR' := by
  have hr : r0.toInt32.toInt64 = r0 := rt_32 (by omega) (by omega)
  intro j hj
  rw [e1, e2, e3]
  by_cases e : j = i
  · subst e
    rw [upd_at, upd_at, upd_at, if_pos rfl, if_pos rfl, if_pos rfl]
    refine ⟨hr.symm, ?_, fun hn => ?_⟩
    · rw [Int32.le_iff_toInt_le]
      have z : (0 : Int32).toInt = 0 := by decide
      have h2 := congrArg Int64.toInt hr
      rw [Int32.toInt_toInt64] at h2
      omega
    · have h0 : ¬ r0 = 0 := fun q => hn (by rw [q]; decide)
      rw [if_neg h0, if_neg h0]
      exact ⟨hx.symm, hy.symm⟩
  · rw [upd_ne e, upd_ne e, upd_ne e, if_neg e, if_neg e, if_neg e]
    exact h j hj
