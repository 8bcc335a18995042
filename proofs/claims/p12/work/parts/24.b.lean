/-! reading: what is kept of each side alone -/
theorem fin_z {ts : Nat → Int32} {rows : Int32} : ∀ (n : Nat) (tv : Nat → Int32) (i : Nat), (gT_finish ts rows n tv i).2.2 = rows ∨ (gT_finish ts rows n tv i).2.2 = 0 := by
  intro n
  induction n with
  | zero => intro tv i; exact Or.inr rfl
  | succ n ih =>
    intro tv i
    rw [gT_finish]
    split
    · exact Or.inl rfl
    · exact ih _ _
theorem fin_16 {ts : Nat → Int32} {r : Nat} (h : r ≤ 16) : ∃ w : Nat, w ≤ 16 ∧ (fT_finish ts (nI r)).2.2 = nI w := by
  rcases fin_z (ts := ts) (rows := nI r) 17 ts 0 with e | e
  · exact ⟨r, h, e⟩
  · exact ⟨0, by omega, e.trans nI_0.symm⟩
theorem fr_ch {tn xl : Nat → Int32} {xz row start : Int32} {tl : Nat → Int32} (h : ∀ j, ch_ok (tl j)) : ∀ (n : Nat) (tv : Nat → Int32) (pos : Int32) (k : Nat), ∀ j, ch_ok ((gT_fillRow tl tn xl xz row start n tv pos k).2.1 j) := by
  intro n
  induction n with
  | zero => intro tv pos k j; show ch_ok 0; decide
  | succ n ih =>
    intro tv pos k
    rw [gT_fillRow]
    split
    · exact ch_upd h
    · split
      · split
        · exact ih _ _ _
        · exact ch_upd h
      · split
        · split
          · exact ih _ _ _
          · exact ch_upd h
        · exact ch_upd h
theorem fr_ch2 {tn xl : Nat → Int32} {xz row start : Int32} {tl : Nat → Int32} (h : ∀ j, ch_ok (tl j)) : ∀ j, ch_ok ((fT_fillRow tl tn xl xz row start).2.1 j) := by
  unfold fT_fillRow
  split
  · exact h
  · exact fr_ch h _ _ _ _
theorem fi_g {tl tn ts xl : Nat → Int32} {xz : Int32} : ∀ (n : Nat) (lw tv : Nat → Int32) (pos : Int32) (r : Nat), r ≤ 16 → (∀ j, ch_ok (lw j)) → (∀ j, ch_ok ((gT_fill tl tn ts xl xz n lw tv pos r).2.1 j)) ∧ ∃ w : Nat, w ≤ 16 ∧ (gT_fill tl tn ts xl xz n lw tv pos r).2.2.2.2 = nI w := by
  intro n
  induction n with
  | zero => intro lw tv pos r hr h; exact ⟨fun j => (by show ch_ok 0; decide), 0, by omega, nI_0.symm⟩
  | succ n ih =>
    intro lw tv pos r hr h
    have z0 : ∃ w : Nat, w ≤ 16 ∧ (0 : Int32) = nI w := ⟨0, by omega, nI_0.symm⟩
    rw [gT_fill]
    split
    · split
      · exact ⟨h, z0⟩
      · exact ⟨h, fin_16 (r := 16) (by omega)⟩
    · rename_i c1
      have hlt := nx_lt (a := r) (b := 16) (by omega) (by omega) c1
      split
      · split
        · exact ih _ _ _ _ (by omega) (fr_ch2 h)
        · exact ⟨fr_ch2 h, z0⟩
      · split
        · split
          · split
            · exact ih _ _ _ _ (by omega) (fr_ch2 h)
            · exact ⟨fr_ch2 h, z0⟩
          · exact ⟨h, z0⟩
        · exact ⟨h, fin_16 hr⟩
theorem q8_0 {r : Nat} (h : r < 16) : Int32.toNatClampNeg (8 * nI r) = 8 * r := by
  rw [show (8 : Int32) * nI r = nI (8 * r) from pk_mul 8 r, nI_clamp (by omega)]
theorem q8_1 {r : Nat} (h : r < 16) : Int32.toNatClampNeg (8 * nI r + 1) = 8 * r + 1 := by
  rw [show (8 : Int32) * nI r = nI (8 * r) from pk_mul 8 r, nI_1, nI_clamp (by omega)]
theorem q8_2 {r k : Nat} (h : r < 16) (hk : k < 6) : Int32.toNatClampNeg (8 * nI r + 2 + nI k) = 8 * r + 2 + k := by
  rw [show (8 : Int32) * nI r = nI (8 * r) from pk_mul 8 r, show nI (8 * r) + (2 : Int32) = nI (8 * r + 2) from nI_add _ 2, nI_add, nI_clamp (by omega)]
theorem sz_z (n : Nat) : sz6 (fun _ => 0) n := fun x _ => ⟨0, by omega, nI_0.symm⟩
theorem rs_g {gT gU : Nat → Int32} {vs va vf : Int32} {r : Nat} (hr : r < 16) : ∀ (n : Nat) (dr : Nat → Int32) (pa pf : Int32) (k : Nat), k ≤ 6 → sz6 dr (r + 1) → sz6 (gM_readRow gT gU vs va vf (nI r) n dr pa pf k).1 (r + 1) := by
  intro n
  induction n with
  | zero => intro dr pa pf k hk h; exact sz_z _
  | succ n ih =>
    intro dr pa pf k hk h
    rw [gM_readRow]
    split
    · exact h
    · rename_i hc
      obtain ⟨wN, hw6, hwe⟩ := so_le (fM_here gT vs va)
      have hlt : k < wN := nx_lt (by omega) (by omega) (by rw [← hwe]; exact hc)
      split
      · exact h
      · refine ih _ _ _ (k + 1) (by omega) ?_
        intro x hx
        rw [q8_2 hr (by omega), upd_ne (by omega)]
        exact h x hx
theorem rs_row {gT gU : Nat → Int32} {vs va vf : Int32} {r : Nat} (hr : r < 16) (h : sz6 gU r) : sz6 (fM_readRow gT gU vs va vf (nI r)).1 (r + 1) := by
  unfold fM_readRow
  refine rs_g hr _ _ _ _ _ (by omega) ?_
  intro x hx
  rw [q8_0 hr, q8_1 hr]
  by_cases e : x = r
  · subst e
    rw [upd_at]
    exact so_le _
  · rw [upd_ne (by omega), upd_ne (by omega)]
    exact h x (by omega)
theorem rd_145 {gT gO gU gV : Nat → Int32} {vs vr : Int32} : ∀ (n : Nat) (dr : Nat → Int32) (pa pf : Int32) (ot sv : Nat → Int32) (nn k3 : Nat), nn ≤ 16 → k3 ≤ nn → nn < k3 + n → ∃ sv' : Nat → Int32, (∀ j, sv' j = if k3 ≤ j ∧ j < nn then 9 else sv j) ∧ gM_read_145 gT gO gU gV vs vr n dr pa pf ot sv nn k3 = (nI nn, 0, 0, pa, pf, nI nn, ot, dr, sv') := by
  intro n
  induction n with
  | zero => intro dr pa pf ot sv nn k3 h0 h1 h2; omega
  | succ n ih =>
    intro dr pa pf ot sv nn k3 h0 h1 h2
    rw [gM_read_145]
    by_cases c : nn ≤ k3
    · rw [if_pos (nI_le c (by omega))]
      exact ⟨sv, fun j => (if_neg (by omega)).symm, rfl⟩
    · rw [if_neg (nI_ge (by omega) (by omega))]
      obtain ⟨sv', e1, e2⟩ := ih dr pa pf ot (upd sv (Int32.toNatClampNeg (nI k3)) 9) nn (k3 + 1) h0 (by omega) (by omega)
      refine ⟨sv', fun j => ?_, e2⟩
      rw [e1, nI_clamp (by omega)]
      by_cases ej : j = k3
      · subst ej
        rw [if_neg (by omega), upd_at, if_pos (by omega)]
      · rw [upd_ne ej]
        by_cases e3 : k3 ≤ j ∧ j < nn
        · rw [if_pos (by omega), if_pos e3]
        · rw [if_neg (by omega), if_neg e3]
theorem rd_117 {gT gO gU gV : Nat → Int32} {vs vr : Int32} : ∀ (n : Nat) (dr : Nat → Int32) (pa pf : Int32) (ot : Nat → Int32) (nn k2 : Nat), nn ≤ 16 → k2 ≤ 8 * nn → 8 * nn < k2 + n → (∀ j, j < k2 → ot j = dr j) → ∃ ot' sv' : Nat → Int32, (∀ j, j < 8 * nn → ot' j = dr j) ∧ (∀ j, sv' j = if j < nn then 9 else gV j) ∧ gM_read_117 gT gO gU gV vs vr n dr pa pf ot nn k2 = (nI nn, 0, 0, pa, pf, nI nn, ot', dr, sv') := by
  intro n
  induction n with
  | zero => intro dr pa pf ot nn k2 h0 h1 h2; omega
  | succ n ih =>
    intro dr pa pf ot nn k2 h0 h1 h2 h3
    rw [gM_read_117]
    have e8 : (8 : Int32) * nI nn = nI (8 * nn) := pk_mul 8 nn
    rw [e8]
    by_cases c : 8 * nn ≤ k2
    · rw [if_pos (nI_le c (by omega))]
      obtain ⟨sv', e1, e2⟩ := rd_145 (gT := gT) (gO := gO) (gU := gU) (gV := gV) (vs := vs) (vr := vr) (nn + 1) dr pa pf ot gV nn 0 h0 (by omega) (by omega)
      refine ⟨ot, sv', fun j hj => h3 j (by omega), fun j => ?_, e2⟩
      rw [e1]
      by_cases e3 : j < nn
      · rw [if_pos (by omega), if_pos e3]
      · rw [if_neg (by omega), if_neg e3]
    · rw [if_neg (nI_ge (by omega) (by omega))]
      refine ih dr pa pf _ nn (k2 + 1) h0 (by omega) (by omega) ?_
      intro j hj
      rw [nI_clamp (by omega)]
      by_cases ej : j = k2
      · subst ej; exact upd_at
      · rw [upd_ne ej]; exact h3 j (by omega)
theorem n16_of {gT : Nat → Int32} {vs pa pf : Int32} {nn : Nat} (h2 : nn ≤ 16) (hpa : ∃ a : Nat, a < 50 * nn ∧ pa = nI a) (hc : ¬ 0 ≤ rM_read_40 gT vs pa pf nn) : nn < 16 := by
  rcases Nat.lt_or_ge nn 16 with h | h
  · exact h
  · exfalso
    apply hc
    have e16 : nn = 16 := by omega
    have f0 := fa_pos (pf := pf) (by omega) hpa
    unfold rM_read_40
    subst e16
    repeat' split
    all_goals first | exact f0 | (rename_i q; exact absurd (by decide) q)
theorem rd_22 {gT gO gU gV : Nat → Int32} {vs vr : Int32} : ∀ (n : Nat) (dr : Nat → Int32) (pa pf : Int32) (nn : Nat), nn ≤ 16 → (pf < 0 → ∃ a : Nat, a < 50 * nn ∧ pa = nI a) → sz6 dr nn → (gM_read_22 gT gO gU gV vs vr n dr pa pf nn).2.2.1 = 0 ∧ (((gM_read_22 gT gO gU gV vs vr n dr pa pf nn).2.2.2.2.2.1 = vr ∧ (gM_read_22 gT gO gU gV vs vr n dr pa pf nn).2.2.2.2.2.2.1 = gO) ∨ ∃ w : Nat, w ≤ 16 ∧ (gM_read_22 gT gO gU gV vs vr n dr pa pf nn).2.2.2.2.2.1 = nI w ∧ sz6 (gM_read_22 gT gO gU gV vs vr n dr pa pf nn).2.2.2.2.2.2.1 w) := by
  intro n
  induction n with
  | zero => intro dr pa pf nn h2 hpa hs; exact ⟨rfl, Or.inr ⟨0, by omega, nI_0.symm, fun x hx => by omega⟩⟩
  | succ n ih =>
    intro dr pa pf nn h2 hpa hs
    rw [gM_read_22]
    have fin : (gM_read_117 gT gO gU gV vs vr (8 * nn + 1) dr pa pf gO nn 0).2.2.1 = 0 ∧ (((gM_read_117 gT gO gU gV vs vr (8 * nn + 1) dr pa pf gO nn 0).2.2.2.2.2.1 = vr ∧ (gM_read_117 gT gO gU gV vs vr (8 * nn + 1) dr pa pf gO nn 0).2.2.2.2.2.2.1 = gO) ∨ ∃ w : Nat, w ≤ 16 ∧ (gM_read_117 gT gO gU gV vs vr (8 * nn + 1) dr pa pf gO nn 0).2.2.2.2.2.1 = nI w ∧ sz6 (gM_read_117 gT gO gU gV vs vr (8 * nn + 1) dr pa pf gO nn 0).2.2.2.2.2.2.1 w) := by
      obtain ⟨ot', sv', e1, e2, e3⟩ := rd_117 (gT := gT) (gO := gO) (gU := gU) (gV := gV) (vs := vs) (vr := vr) (8 * nn + 1) dr pa pf gO nn 0 h2 (by omega) (by omega) (fun j hj => by omega)
      rw [e3]
      refine ⟨rfl, Or.inr ⟨nn, h2, rfl, fun x hx => ?_⟩⟩
      show ∃ w : Nat, w ≤ 6 ∧ ot' (8 * x + 1) = nI w
      rw [e1 _ (by omega)]
      exact hs x hx
    split
    · split
      · exact fin
      · exact ⟨rfl, Or.inl ⟨rfl, rfl⟩⟩
    · rename_i c0
      have hneg : pf < 0 := ng_0 c0
      have hpa1 := hpa hneg
      split
      · exact fin
      · split
        · rename_i c2
          exact ih _ _ _ _ h2 (fun q => absurd q (ng_1 c2)) hs
        · rename_i c2
          have hn := n16_of h2 hpa1 c2
          exact ih _ _ _ (nn + 1) (by omega) (fun _ => ht_mono (rr_at (ht_up hpa1)) (by omega)) (rs_row hn hs)
theorem rd_all {gT gO gU gV : Nat → Int32} {vs : Int32} {vr : Nat} (hv : vr ≤ 16) (hs : sz6 gO vr) : (fM_read gT gO gU gV vs (nI vr)).2.2.1 = 0 ∧ ∃ w : Nat, w ≤ 16 ∧ (fM_read gT gO gU gV vs (nI vr)).2.2.2.2.2.1 = nI w ∧ sz6 (fM_read gT gO gU gV vs (nI vr)).2.2.2.2.2.2.1 w := by
  have h := rd_22 (gT := gT) (gO := gO) (gU := gU) (gV := gV) (vs := vs) (vr := nI vr) 19 ((fM_readRow gT gU vs 0 (-1) 0).1) ((fM_readRow gT gU vs 0 (-1) 0).2.1) ((fM_readRow gT gU vs 0 (-1) 0).2.2) 1 (by omega) (fun _ => ht_mono (rr_at (n := 1) ⟨0, by omega, rfl⟩) (by omega)) (rs_row (r := 0) (by omega) (fun x hx => by omega))
  have key : ∀ Z : Int32 × Int32 × Int32 × Int32 × Int32 × Int32 × (Nat → Int32) × (Nat → Int32) × (Nat → Int32), (Z.2.2.1 = 0 ∧ ((Z.2.2.2.2.2.1 = nI vr ∧ Z.2.2.2.2.2.2.1 = gO) ∨ ∃ w : Nat, w ≤ 16 ∧ Z.2.2.2.2.2.1 = nI w ∧ sz6 Z.2.2.2.2.2.2.1 w)) → Z.2.2.1 = 0 ∧ ∃ w : Nat, w ≤ 16 ∧ Z.2.2.2.2.2.1 = nI w ∧ sz6 Z.2.2.2.2.2.2.1 w := by
    intro Z hZ
    refine ⟨hZ.1, ?_⟩
    rcases hZ.2 with ⟨e1, e2⟩ | h2
    · exact ⟨vr, hv, e1, by rw [e2]; exact hs⟩
    · exact h2
  unfold fM_read
  exact key _ h
