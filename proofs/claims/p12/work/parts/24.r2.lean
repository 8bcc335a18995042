/-! a row -/
theorem ch_c : ∀ j : Nat, j < 127 → vp_nar .char (nI j) = nI j := by decide +kernel
theorem q6 {r k : Nat} (hr : r < 16) (hk : k < 6) : Int32.toNatClampNeg (nI r * 6 + nI k) = 6 * r + k := by
  rw [show nI r * (6 : Int32) = nI (r * 6) from pk_mul r 6, nI_add, nI_clamp (by omega)]; omega
theorem q8_1k {r k : Nat} (hr : r < 16) (hk : k < 6) : Int32.toNatClampNeg (8 * nI r + 1 + nI k) = 8 * r + 1 + k := by
  rw [show (8 : Int32) * nI r = nI (8 * r) from pk_mul 8 r, nI_1, nI_add, nI_clamp (by omega)]
def bad_s (tv : Nat → Int32) (r k v L : Nat) : Prop := (L = 104 ∧ (k = 1 ∨ k = 3) ∧ nI v < tv (6 * r + (k - 1))) ∨ (L = 99 ∧ k = 2 ∧ (v < 1 ∨ 9 < v))
theorem ms_n {lf tv : Nat → Int32} {r k v L : Nat} (hr : r < 16) (hk : k < 6) (hL : lf r = nI L) (h6 : L ≤ 126) (hv : v ≤ 99999) : fT_mayStand lf tv (nI r) (nI k) (nI v) = 0 ↔ bad_s tv r k v L := by
  have kL : ∀ (x : Int32) (q : Nat), x = nI q → q ≤ 126 → (nI L = x ↔ L = q) := fun x q e hq => l_eq x e (by omega) (by omega)
  have kk : ∀ (x : Int32) (q : Nat), x = nI q → q ≤ 126 → (nI k = x ↔ k = q) := fun x q e hq => l_eq x e (by omega) (by omega)
  have num : 1 ≤ k → fT_number tv (nI r) (nI k - 1) = tv (6 * r + (k - 1)) := by
    intro h1
    obtain ⟨j, rfl⟩ : ∃ j, k = j + 1 := ⟨k - 1, by omega⟩
    unfold fT_number
    rw [nI_pred, q6 hr (by omega)]; rfl
  unfold fT_mayStand bad_s
  rw [nI_clamp (by omega), hL]
  by_cases c1 : L = 104
  · rw [if_pos ((kL 104 104 (by decide) (by omega)).mpr c1)]
    by_cases k1 : k = 1
    · rw [if_pos ((kk 1 1 (by decide) (by omega)).mpr k1), num (by omega)]
      by_cases c : nI v < tv (6 * r + (k - 1))
      · rw [if_pos c]; exact ⟨fun _ => Or.inl ⟨c1, Or.inl k1, c⟩, fun _ => rfl⟩
      · rw [if_neg c]; exact ⟨fun q => absurd q (by decide), fun q => by rcases q with q | q <;> first | omega | exact absurd q.2.2 c⟩
    · rw [if_neg (fun q => k1 ((kk 1 1 (by decide) (by omega)).mp q))]
      by_cases k3 : k = 3
      · rw [if_pos ((kk 3 3 (by decide) (by omega)).mpr k3), num (by omega)]
        by_cases c : nI v < tv (6 * r + (k - 1))
        · rw [if_pos c]; exact ⟨fun _ => Or.inl ⟨c1, Or.inr k3, c⟩, fun _ => rfl⟩
        · rw [if_neg c]; exact ⟨fun q => absurd q (by decide), fun q => by rcases q with q | q <;> first | omega | exact absurd q.2.2 c⟩
      · rw [if_neg (fun q => k3 ((kk 3 3 (by decide) (by omega)).mp q)), if_neg (fun q => by have := (kL 99 99 (by decide) (by omega)).mp q; omega)]
        exact ⟨fun q => absurd q (by decide), fun q => by rcases q with q | q <;> first | omega | exact absurd q.2.2 c⟩
  · rw [if_neg (fun q => c1 ((kL 104 104 (by decide) (by omega)).mp q))]
    by_cases c2 : L = 99
    · rw [if_pos ((kL 99 99 (by decide) (by omega)).mpr c2)]
      by_cases k2 : k = 2
      · rw [if_pos ((kk 2 2 (by decide) (by omega)).mpr k2)]
        by_cases v1 : v < 1
        · rw [if_pos ((l_ltb 1 (b := 1) (by decide) (by omega) (by omega)).mpr v1)]; exact ⟨fun _ => Or.inr ⟨c2, k2, Or.inl v1⟩, fun _ => rfl⟩
        · rw [if_neg (l_nlt 1 (b := 1) (by decide) (by omega) (by omega))]
          by_cases v9 : 9 < v
          · rw [if_pos ((l_lta 9 (a := 9) (by decide) (by omega) (by omega)).mpr v9)]; exact ⟨fun _ => Or.inr ⟨c2, k2, Or.inr v9⟩, fun _ => rfl⟩
          · rw [if_neg (l_nlu 9 (a := 9) (by decide) (by omega) (by omega))]; exact ⟨fun q => absurd q (by decide), fun q => by rcases q with q | q <;> first | omega | exact absurd q.2.2 c⟩
      · rw [if_neg (fun q => k2 ((kk 2 2 (by decide) (by omega)).mp q))]; exact ⟨fun q => absurd q (by decide), fun q => by rcases q with q | q <;> first | omega | exact absurd q.2.2 c⟩
    · rw [if_neg (fun q => c2 ((kL 99 99 (by decide) (by omega)).mp q))]; exact ⟨fun q => absurd q (by decide), fun q => by rcases q with q | q <;> first | omega | exact absurd q.2.2 c⟩
theorem in19 {v : Nat} (hv : v ≤ 99999) : fM_isIn (Int32.toInt64 (nI v)) 1 9 = 0 ↔ (v < 1 ∨ 9 < v) := by
  rw [nI_l (by omega)]
  unfold fM_isIn
  by_cases v1 : v < 1
  · rw [if_pos ((m_ltb 1 (b := 1) (by decide) (by omega) (by omega)).mpr v1)]; exact ⟨fun _ => Or.inl v1, fun _ => rfl⟩
  · rw [if_neg (fun q => v1 ((m_ltb 1 (b := 1) (by decide) (by omega) (by omega)).mp q))]
    by_cases v9 : 9 < v
    · rw [if_pos ((m_lta 9 (a := 9) (by decide) (by omega) (by omega)).mpr v9)]; exact ⟨fun _ => Or.inr v9, fun _ => rfl⟩
    · rw [if_neg (fun q => v9 ((m_lta 9 (a := 9) (by decide) (by omega) (by omega)).mp q))]; exact ⟨fun q => absurd q (by decide), fun q => by omega⟩
theorem nle_lt {x y : Int32} : ¬ y ≤ x ↔ x < y := by
  rw [Int32.le_iff_toInt_le, Int32.lt_iff_toInt_lt]; omega
section RDB
variable {xl gT : Nat → Int32} {w : Nat}
theorem r169 {va pa pf : Int32} {dr tv : Nat → Int32} {r k v L p1 : Nat} {q2 pf8 : Int32} (hr : r < 16) (hk : k < 6) (h6 : L ≤ 126) (hv : v ≤ 99999) (hh : fM_here gT (nI w) va = nI L) (h108 : rM_readRow_108 gT (nI w) pa pf k = (q2, pf8, nI v)) (h70 : (rM_readRow_70 gT (nI w) pa pf k).1 = nI p1) (hrel : 1 ≤ k → tv (6 * r + (k - 1)) = dr (8 * r + 2 + (k - 1))) :
    (bad_s tv r k v L → rM_readRow_169 gT (nI w) va (nI r) dr pa pf k = fM_failAt pf8 (nI p1)) ∧ (¬ bad_s tv r k v L → rM_readRow_169 gT (nI w) va (nI r) dr pa pf k = pf8) := by
  have kL : ∀ (x : Int32) (q : Nat), x = nI q → q ≤ 126 → (nI L = x ↔ L = q) := fun x q e hq => l_eq x e (by omega) (by omega)
  have kk : ∀ (x : Int32) (q : Nat), x = nI q → q ≤ 126 → (nI k = x ↔ k = q) := fun x q e hq => l_eq x e (by omega) (by omega)
  have hd : 1 ≤ k → dr (8 * r + 1 + k) = tv (6 * r + (k - 1)) := fun q => by rw [hrel q]; congr 1; omega
  unfold rM_readRow_169 rM_readRow_125 bad_s
  rw [hh, h108, h70, q8_1k hr hk]
  dsimp only
  by_cases c1 : L = 104
  · rw [if_pos ((kL 104 104 (by decide) (by omega)).mpr c1), if_neg (show ¬ nI L = 99 from fun q => by have := (kL 99 99 (by decide) (by omega)).mp q; omega)]
    by_cases k1 : k = 1
    · rw [if_pos ((kk 1 1 (by decide) (by omega)).mpr k1), hd (by omega)]
      by_cases c : nI v < tv (6 * r + (k - 1))
      · rw [if_neg (nle_lt.mpr c)]; exact ⟨fun _ => rfl, fun q => absurd (Or.inl ⟨c1, Or.inl k1, c⟩) q⟩
      · rw [if_pos (Classical.byContradiction (fun q => c (nle_lt.mp q)))]; exact ⟨fun q => by rcases q with q | q <;> first | omega | exact absurd q.2.2 c, fun _ => rfl⟩
    · rw [if_neg (fun q => k1 ((kk 1 1 (by decide) (by omega)).mp q))]
      by_cases k3 : k = 3
      · rw [if_pos ((kk 3 3 (by decide) (by omega)).mpr k3), hd (by omega)]
        by_cases c : nI v < tv (6 * r + (k - 1))
        · rw [if_neg (nle_lt.mpr c)]; exact ⟨fun _ => rfl, fun q => absurd (Or.inl ⟨c1, Or.inr k3, c⟩) q⟩
        · rw [if_pos (Classical.byContradiction (fun q => c (nle_lt.mp q)))]; exact ⟨fun q => by rcases q with q | q <;> first | omega | exact absurd q.2.2 c, fun _ => rfl⟩
      · rw [if_neg (fun q => k3 ((kk 3 3 (by decide) (by omega)).mp q))]; exact ⟨fun q => by rcases q with q | q <;> first | omega | exact absurd q.2.2 c, fun _ => rfl⟩
  · rw [if_neg (show ¬ nI L = 104 from fun q => c1 ((kL 104 104 (by decide) (by omega)).mp q)), if_pos rfl]
    by_cases c2 : L = 99
    · rw [if_pos ((kL 99 99 (by decide) (by omega)).mpr c2)]
      by_cases k2 : k = 2
      · rw [if_pos ((kk 2 2 (by decide) (by omega)).mpr k2)]
        by_cases c : v < 1 ∨ 9 < v
        · rw [if_pos ((in19 hv).mpr c)]; exact ⟨fun _ => rfl, fun q => absurd (Or.inr ⟨c2, k2, c⟩) q⟩
        · rw [if_neg (fun q => c ((in19 hv).mp q))]; exact ⟨fun q => by rcases q with q | q <;> first | omega | exact absurd q.2.2 c, fun _ => rfl⟩
      · rw [if_neg (fun q => k2 ((kk 2 2 (by decide) (by omega)).mp q))]; exact ⟨fun q => by rcases q with q | q <;> first | omega | exact absurd q.2.2 c, fun _ => rfl⟩
    · rw [if_neg (fun q => c2 ((kL 99 99 (by decide) (by omega)).mp q))]; exact ⟨fun q => by rcases q with q | q <;> first | omega | exact absurd q.2.2 c, fun _ => rfl⟩
theorem fa_p {q : Nat} {x : Int32} (h : q < 1000000) : fM_failAt (nI q) x = nI q := if_pos (nI_pos' (by omega))
theorem fa_m {x : Int32} : fM_failAt (-1) x = x := if_neg (by decide)
theorem ft_neg {q : Nat} (h : q < 1000000) : ¬ 0 ≤ fT_fault (nI q) := by
  unfold fT_fault
  rw [Int32.le_iff_toInt_le, Int32.toInt_sub, nI_toInt (by omega), show (-1 : Int32).toInt = -1 from by decide, show (0 : Int32).toInt = 0 from by decide, Int.bmod_eq_of_le (by omega) (by omega)]
  omega
theorem rr_stop {gU : Nat → Int32} {va vf row : Int32} {n q k : Nat} {dr : Nat → Int32} {pa : Int32} (h : q < 1000000) : gM_readRow gT gU (nI w) va vf row (n + 1) dr pa (nI q) k = (dr, pa, nI q) := by
  rw [gM_readRow]
  split
  · rfl
  · rw [if_pos (nI_pos' (by omega))]
def row_ok (tv dr : Nat → Int32) (r L : Nat) : Prop := (∀ j, j < lsz L → tv (6 * r + j) = dr (8 * r + 2 + j) ∧ ∃ x : Nat, x ≤ 99999 ∧ tv (6 * r + j) = nI x) ∧ (L = 99 → ∃ x : Nat, 1 ≤ x ∧ x ≤ 9 ∧ tv (6 * r + 2) = nI x)
theorem rw_sim (T : tx_ok xl gT w) {lw tn0 gU : Nat → Int32} {vf : Int32} {p0 r : Nat} (hr : r < 16) (hp0 : p0 < w) : ∀ (n : Nat) (tv dr : Nat → Int32) (p k : Nat), k ≤ lsz (cc gT w p0) → lsz (cc gT w p0) < k + n → p ≤ w → (∀ j, j < k → tv (6 * r + j) = dr (8 * r + 2 + j) ∧ ∃ x : Nat, x ≤ 99999 ∧ tv (6 * r + j) = nI x) → (cc gT w p0 = 99 → 2 < k → ∃ x : Nat, 1 ≤ x ∧ x ≤ 9 ∧ tv (6 * r + 2) = nI x) →
    (∃ (tv' dr' : Nat → Int32) (p' : Nat), p' ≤ w ∧ gT_fillRow lw tn0 xl (nI w) (nI r) (nI p0) n tv (nI p) k = (nI p', upd lw (Int32.toNatClampNeg (nI r)) (vp_nar .char (nI (cc gT w p0))), tv') ∧ gM_readRow gT gU (nI w) (nI p0) vf (nI r) n dr (nI p) (-1) k = (dr', nI p', -1) ∧ row_ok tv' dr' r (cc gT w p0) ∧ (∀ i, ¬ (6 * r ≤ i ∧ i < 6 * r + 6) → tv' i = tv i) ∧ (∀ i, ¬ (8 * r + 2 ≤ i ∧ i < 8 * r + 8) → dr' i = dr i)) ∨
    (∃ (lw' tv' dr' : Nat → Int32) (pa' : Int32) (q : Nat), q ≤ 1000 ∧ gT_fillRow lw tn0 xl (nI w) (nI r) (nI p0) n tv (nI p) k = (fT_fault (nI q), lw', tv') ∧ gM_readRow gT gU (nI w) (nI p0) vf (nI r) n dr (nI p) (-1) k = (dr', pa', nI q)) := by
  have hw := T.1
  have hL := cc_lt T p0
  have hS6 := lsz_6 (cc gT w p0)
  have hat : fS_at xl (nI w) (nI p0) = nI (cc gT w p0) := at_n T (by omega)
  have hhe : fM_here gT (nI w) (nI p0) = nI (cc gT w p0) := by rw [he_n T (by omega), if_pos hp0]
  have hlr : upd lw (Int32.toNatClampNeg (nI r)) (vp_nar .char (nI (cc gT w p0))) r = nI (cc gT w p0) := by
    rw [nI_clamp (by omega), upd_at, ch_c _ (by omega)]
  intro n
  induction n with
  | zero => intro tv dr p k h1 h2; omega
  | succ n ih =>
    intro tv dr p k h1 h2 h3 hrel hcnt
    by_cases hk : k = lsz (cc gT w p0)
    · refine Or.inl ⟨tv, dr, p, h3, ?_, ?_, ⟨fun j hj => hrel j (by omega), fun q => hcnt q (by rw [hk, q]; decide)⟩, fun _ _ => rfl, fun _ _ => rfl⟩
      · rw [gT_fillRow, hat, nb_n hL, if_pos (nI_le (by omega) (by omega))]
      · rw [gM_readRow, hhe, so_n hL, if_pos (nI_le (by omega) (by omega))]
    have hkS : k < lsz (cc gT w p0) := by omega
    obtain ⟨n, rfl⟩ : ∃ q, n = q + 1 := ⟨n - 1, by omega⟩
    have after : ∀ p1 : Nat, p1 ≤ w + 1 → gT_fillRow lw tn0 xl (nI w) (nI r) (nI p0) (n + 1 + 1) tv (nI p) k = (if 0 ≤ (fT_fillNumber (upd lw (Int32.toNatClampNeg (nI r)) (vp_nar .char (nI (cc gT w p0)))) tv xl (nI w) (nI r) (nI k) (nI p1)).1 then gT_fillRow lw tn0 xl (nI w) (nI r) (nI p0) (n + 1) (fT_fillNumber (upd lw (Int32.toNatClampNeg (nI r)) (vp_nar .char (nI (cc gT w p0)))) tv xl (nI w) (nI r) (nI k) (nI p1)).2 (fT_fillNumber (upd lw (Int32.toNatClampNeg (nI r)) (vp_nar .char (nI (cc gT w p0)))) tv xl (nI w) (nI r) (nI k) (nI p1)).1 (k + 1) else ((fT_fillNumber (upd lw (Int32.toNatClampNeg (nI r)) (vp_nar .char (nI (cc gT w p0)))) tv xl (nI w) (nI r) (nI k) (nI p1)).1, upd lw (Int32.toNatClampNeg (nI r)) (vp_nar .char (nI (cc gT w p0))), (fT_fillNumber (upd lw (Int32.toNatClampNeg (nI r)) (vp_nar .char (nI (cc gT w p0)))) tv xl (nI w) (nI r) (nI k) (nI p1)).2)) → rM_readRow_70 gT (nI w) (nI p) (-1) k = (nI p1, -1) →
        (∃ (tv' dr' : Nat → Int32) (p' : Nat), p' ≤ w ∧ gT_fillRow lw tn0 xl (nI w) (nI r) (nI p0) (n + 1 + 1) tv (nI p) k = (nI p', upd lw (Int32.toNatClampNeg (nI r)) (vp_nar .char (nI (cc gT w p0))), tv') ∧ gM_readRow gT gU (nI w) (nI p0) vf (nI r) (n + 1 + 1) dr (nI p) (-1) k = (dr', nI p', -1) ∧ row_ok tv' dr' r (cc gT w p0) ∧ (∀ i, ¬ (6 * r ≤ i ∧ i < 6 * r + 6) → tv' i = tv i) ∧ (∀ i, ¬ (8 * r + 2 ≤ i ∧ i < 8 * r + 8) → dr' i = dr i)) ∨
        (∃ (lw' tv' dr' : Nat → Int32) (pa' : Int32) (q : Nat), q ≤ 1000 ∧ gT_fillRow lw tn0 xl (nI w) (nI r) (nI p0) (n + 1 + 1) tv (nI p) k = (fT_fault (nI q), lw', tv') ∧ gM_readRow gT gU (nI w) (nI p0) vf (nI r) (n + 1 + 1) dr (nI p) (-1) k = (dr', pa', nI q)) := by
      intro p1 hp1 eK e70
      obtain ⟨v, d, d1, d2, d3, d4, d5⟩ := nm_all T (p := p1) (by omega)
      have e108 : rM_readRow_108 gT (nI w) (nI p) (-1) k = (nI (p1 + d), if d = 0 then nI p1 else -1, nI v) := by
        unfold rM_readRow_108
        rw [e70]
        dsimp only
        rw [if_neg (by decide), d4]
        by_cases c : d = 0
        · rw [if_pos c, if_pos c, fa_m]
        · rw [if_neg c, if_neg c]
      have e169 := r169 (gT := gT) (w := w) (tv := tv) (dr := dr) (p1 := p1) hr (show k < 6 by omega) hL d2 hhe e108 (by rw [e70]) (fun q => (hrel (k - 1) (by omega)).1)
      have hms := ms_n (lf := upd lw (Int32.toNatClampNeg (nI r)) (vp_nar .char (nI (cc gT w p0)))) (tv := tv) hr (show k < 6 by omega) hlr hL d2
      have eM : gM_readRow gT gU (nI w) (nI p0) vf (nI r) (n + 1 + 1) dr (nI p) (-1) k = gM_readRow gT gU (nI w) (nI p0) vf (nI r) (n + 1) (upd dr (8 * r + 2 + k) (nI v)) (nI (p1 + d)) (rM_readRow_169 gT (nI w) (nI p0) (nI r) dr (nI p) (-1) k) (k + 1) := by
        rw [gM_readRow, hhe, so_n hL, if_neg (nI_ge hkS (by omega)), if_neg (by decide), q8_2 hr (by omega), e108]
      rw [d5] at eK
      by_cases cb : d = 0 ∨ fT_mayStand (upd lw (Int32.toNatClampNeg (nI r)) (vp_nar .char (nI (cc gT w p0)))) tv (nI r) (nI k) (nI v) = 0
      · rw [if_pos cb] at eK
        dsimp only at eK
        rw [if_neg (ft_neg (by omega))] at eK
        have e9 : rM_readRow_169 gT (nI w) (nI p0) (nI r) dr (nI p) (-1) k = nI p1 := by
          by_cases cs : bad_s tv r k v (cc gT w p0)
          · rw [e169.1 cs]
            by_cases c : d = 0
            · rw [if_pos c, fa_p (by omega)]
            · rw [if_neg c, fa_m]
          · rw [e169.2 cs, if_pos]
            rcases cb with c | c
            · exact c
            · exact absurd (hms.mp c) cs
        rw [e9, rr_stop (by omega)] at eM
        exact Or.inr ⟨_, _, _, _, p1, by omega, eK, eM⟩
      · rw [if_neg cb] at eK
        dsimp only at eK
        rw [if_pos (nI_pos' (by omega)), q6 hr (by omega)] at eK
        have cd : ¬ d = 0 := fun q => cb (Or.inl q)
        have cs : ¬ bad_s tv r k v (cc gT w p0) := fun q => cb (Or.inr (hms.mpr q))
        rw [e169.2 cs, if_neg cd] at eM
        rw [eK, eM]
        have hpd := d3 (by omega)
        have ih2 := ih (upd tv (6 * r + k) (nI v)) (upd dr (8 * r + 2 + k) (nI v)) (p1 + d) (k + 1) (by omega) (by omega) hpd (fun j hj => by
          by_cases ej : j = k
          · subst ej
            rw [upd_at, upd_at]
            exact ⟨rfl, v, d2, rfl⟩
          · rw [upd_ne (by omega), upd_ne (by omega)]
            exact hrel j (by omega)) (fun q h => by
          by_cases ej : k = 2
          · subst ej
            rw [upd_at]
            have : ¬ (v < 1 ∨ 9 < v) := fun z => cs (Or.inr ⟨q, rfl, z⟩)
            exact ⟨v, by omega, by omega, rfl⟩
          · rw [upd_ne (by omega)]
            exact hcnt q (by omega))
        rcases ih2 with ⟨tv', dr', p', g1, g2, g3, g4, g5, g6⟩ | g
        · refine Or.inl ⟨tv', dr', p', g1, g2, g3, g4, fun i hi => ?_, fun i hi => ?_⟩
          · rw [g5 i hi, upd_ne (by omega)]
          · rw [g6 i hi, upd_ne (by omega)]
        · exact Or.inr g
    by_cases k0 : k = 0
    · subst k0
      refine after p (by omega) ?_ ?_
      · rw [gT_fillRow, hat, nb_n hL, if_neg (nI_ge hkS (by omega)), if_pos (by decide)]
      · unfold rM_readRow_70
        rw [if_pos (by decide)]
    · by_cases cm : cc gT w p = 44
      · refine after (p + 1) (by omega) ?_ ?_
        · rw [gT_fillRow, hat, nb_n hL, if_neg (nI_ge hkS (by omega)), if_neg (nI_nle (by omega) (by omega)), if_pos ((at_eq T 44 (k := 44) (by decide) (by omega) (by omega)).mpr cm), nI_1]
        · unfold rM_readRow_70
          rw [if_neg (nI_nle (by omega) (by omega)), if_pos ((he_eq T 44 (k := 44) (by decide) (by omega) (by omega) (by omega)).mpr cm), nI_1]
      · have e70 : rM_readRow_70 gT (nI w) (nI p) (-1) k = (nI (p + 1), nI p) := by
          unfold rM_readRow_70
          rw [if_neg (nI_nle (by omega) (by omega)), if_neg (fun q => cm ((he_eq T 44 (k := 44) (by decide) (by omega) (by omega) (by omega)).mp q)), nI_1, fa_m]
        have e108 : rM_readRow_108 gT (nI w) (nI p) (-1) k = (nI (p + 1), nI p, nI 0) := by
          unfold rM_readRow_108
          rw [e70]
          dsimp only
          rw [if_pos (nI_pos' (by omega)), nI_0]
        have e169 := r169 (gT := gT) (w := w) (tv := tv) (dr := dr) (p1 := p + 1) hr (show k < 6 by omega) hL (show 0 ≤ 99999 by omega) hhe e108 (by rw [e70]) (fun q => (hrel (k - 1) (by omega)).1)
        have e9 : rM_readRow_169 gT (nI w) (nI p0) (nI r) dr (nI p) (-1) k = nI p := by
          by_cases cs : bad_s tv r k 0 (cc gT w p0)
          · rw [e169.1 cs, fa_p (by omega)]
          · exact e169.2 cs
        refine Or.inr ⟨upd lw (Int32.toNatClampNeg (nI r)) (vp_nar .char (nI (cc gT w p0))), tv, upd dr (8 * r + 2 + k) (nI 0), nI (p + 1), p, by omega, ?_, ?_⟩
        · rw [gT_fillRow, hat, nb_n hL, if_neg (nI_ge hkS (by omega)), if_neg (nI_nle (by omega) (by omega)), if_neg (fun q => cm ((at_eq T 44 (k := 44) (by decide) (by omega) (by omega)).mp q))]
        · rw [gM_readRow, hhe, so_n hL, if_neg (nI_ge hkS (by omega)), if_neg (by decide), q8_2 hr (by omega), e108, e9, rr_stop (by omega)]
end RDB
