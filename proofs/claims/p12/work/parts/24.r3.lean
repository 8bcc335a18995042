/-! rows and the whole table -/
section RDC
variable {xl gT : Nat → Int32} {w : Nat}
theorem row_sim (T : tx_ok xl gT w) {lw tv gU : Nat → Int32} {p r : Nat} (hr : r < 16) (hp : p ≤ w + 1) :
    (∃ (tv' dr' : Nat → Int32) (p' : Nat), p' ≤ w ∧ 0 < lsz (cc gT w p) ∧ fT_fillRow lw tv xl (nI w) (nI r) (nI p) = (nI p', upd lw r (nI (cc gT w p)), tv') ∧ fM_readRow gT gU (nI w) (nI p) (-1) (nI r) = (dr', nI p', -1) ∧ row_ok tv' dr' r (cc gT w p) ∧ dr' (8 * r) = nI (cc gT w p) ∧ dr' (8 * r + 1) = nI (lsz (cc gT w p)) ∧ (∀ i, ¬ (6 * r ≤ i ∧ i < 6 * r + 6) → tv' i = tv i) ∧ (∀ i, ¬ (8 * r ≤ i ∧ i < 8 * r + 8) → dr' i = gU i)) ∨
    (∃ (lw' tv' dr' : Nat → Int32) (pa' : Int32) (q : Nat), q ≤ 1000 ∧ fT_fillRow lw tv xl (nI w) (nI r) (nI p) = (fT_fault (nI q), lw', tv') ∧ fM_readRow gT gU (nI w) (nI p) (-1) (nI r) = (dr', pa', nI q)) := by
  have hw := T.1
  have hL := cc_lt T p
  have hS6 := lsz_6 (cc gT w p)
  have hat : fS_at xl (nI w) (nI p) = nI (cc gT w p) := at_n T (by omega)
  by_cases c : lsz (cc gT w p) = 0
  · refine Or.inr ⟨lw, tv, upd (upd gU (Int32.toNatClampNeg (8 * nI r)) (fM_here gT (nI w) (nI p))) (Int32.toNatClampNeg ((8 * nI r) + 1)) (fM_sizeOf (fM_here gT (nI w) (nI p))), nI p + 1, p, by omega, ?_, ?_⟩
    · unfold fT_fillRow
      rw [hat, nb_n hL, c, if_pos nI_0]
    · unfold fM_readRow rM_readRow_10
      rw [so_h T (by omega), c, if_pos nI_0, fa_m]
      exact rr_stop (by omega)
  · have hpw : p < w := cc_pos T (by
      rcases Nat.eq_zero_or_pos (cc gT w p) with e | e
      · exact absurd (by rw [e]; decide) c
      · exact e)
    have hhe : fM_here gT (nI w) (nI p) = nI (cc gT w p) := by rw [he_n T (by omega), if_pos hpw]
    have hn0 : ¬ nI (lsz (cc gT w p)) = 0 := nI_ne0 (by omega) (by omega)
    have eK : fT_fillRow lw tv xl (nI w) (nI r) (nI p) = gT_fillRow lw tv xl (nI w) (nI r) (nI p) 7 tv (nI (p + 1)) 0 := by
      unfold fT_fillRow
      rw [hat, nb_n hL, if_neg hn0, nI_1]
    have eM : fM_readRow gT gU (nI w) (nI p) (-1) (nI r) = gM_readRow gT gU (nI w) (nI p) (-1) (nI r) 7 (upd (upd gU (8 * r) (nI (cc gT w p))) (8 * r + 1) (nI (lsz (cc gT w p)))) (nI (p + 1)) (-1) 0 := by
      unfold fM_readRow rM_readRow_10
      rw [hhe, so_n hL, if_neg hn0, q8_0 hr, q8_1 hr, nI_1]
    rw [eK, eM]
    rcases rw_sim T (lw := lw) (tn0 := tv) (gU := gU) (vf := -1) hr hpw 7 tv (upd (upd gU (8 * r) (nI (cc gT w p))) (8 * r + 1) (nI (lsz (cc gT w p)))) (p + 1) 0 (by omega) (by omega) (by omega) (fun j hj => by omega) (fun _ h => by omega) with ⟨tv', dr', p', g1, g2, g3, g4, g5, g6⟩ | g
    · refine Or.inl ⟨tv', dr', p', g1, by omega, ?_, g3, g4, ?_, ?_, g5, fun i hi => ?_⟩
      · rw [g2, nI_clamp (by omega), ch_c _ (by omega)]
      · rw [g6 _ (by omega), upd_ne (by omega), upd_at]
      · rw [g6 _ (by omega), upd_at]
      · rw [g6 _ (by omega), upd_ne (by omega), upd_ne (by omega)]
    · exact Or.inr g
theorem fin_n {ts : Nat → Int32} {rows : Int32} : ∀ (n : Nat) (tv : Nat → Int32) (i : Nat), i ≤ 16 → 16 < i + n → ∃ tv' : Nat → Int32, (∀ j, tv' j = if i ≤ j ∧ j < 16 then 9 else tv j) ∧ gT_finish ts rows n tv i = (rows, tv', rows) := by
  intro n
  induction n with
  | zero => intro tv i h1 h2; omega
  | succ n ih =>
    intro tv i h1 h2
    rw [gT_finish]
    by_cases c : 16 ≤ i
    · rw [if_pos (l_le 16 (a := 16) (by decide) c (by omega))]
      exact ⟨tv, fun j => (if_neg (by omega)).symm, rfl⟩
    · rw [if_neg (l_ge 16 (b := 16) (by decide) (by omega) (by omega))]
      obtain ⟨tv', e1, e2⟩ := ih (upd tv (Int32.toNatClampNeg (nI i)) 9) (i + 1) (by omega) (by omega)
      refine ⟨tv', fun j => ?_, e2⟩
      rw [e1, nI_clamp (by omega)]
      by_cases ej : j = i
      · subst ej
        rw [if_neg (by omega), upd_at, if_pos (by omega)]
      · rw [upd_ne ej]
        by_cases e3 : i ≤ j ∧ j < 16
        · rw [if_pos (by omega), if_pos e3]
        · rw [if_neg (by omega), if_neg e3]
def rows_ok (lw tv dr : Nat → Int32) (n : Nat) : Prop := ∀ r, r < n → ∃ L : Nat, lw r = nI L ∧ L ≤ 126 ∧ 0 < lsz L ∧ dr (8 * r) = nI L ∧ dr (8 * r + 1) = nI (lsz L) ∧ row_ok tv dr r L
theorem rows_up {lw tv dr tv' dr' : Nat → Int32} {r L : Nat} (h : rows_ok lw tv dr r) (hL : L ≤ 126) (h0 : 0 < lsz L) (h4 : row_ok tv' dr' r L) (e1 : dr' (8 * r) = nI L) (e2 : dr' (8 * r + 1) = nI (lsz L)) (f1 : ∀ i, ¬ (6 * r ≤ i ∧ i < 6 * r + 6) → tv' i = tv i) (f2 : ∀ i, ¬ (8 * r ≤ i ∧ i < 8 * r + 8) → dr' i = dr i) : rows_ok (upd lw r (nI L)) tv' dr' (r + 1) := by
  intro x hx
  by_cases e : x = r
  · subst e
    exact ⟨L, upd_at, hL, h0, e1, e2, h4⟩
  · obtain ⟨M, m1, m2, m3, m4, m5, m6, m7⟩ := h x (by omega)
    have h6 := lsz_6 M
    refine ⟨M, by rw [upd_ne e]; exact m1, m2, m3, by rw [f2 _ (by omega)]; exact m4, by rw [f2 _ (by omega)]; exact m5, fun j hj => ?_, fun q => ?_⟩
    · rw [f1 _ (by omega), f2 _ (by omega)]
      exact m6 j hj
    · rw [f1 _ (by omega)]
      exact m7 q
theorem ea_n {p : Nat} (hw : w ≤ 300) (hp : p ≤ w) : fS_endsAt (nI w) (nI p) = if p = w then 1 else 0 := by
  unfold fS_endsAt
  by_cases c : p = w
  · rw [if_pos (by rw [c]), if_pos c]
  · rw [if_neg (fun q => c ((nI_eq (by omega) (by omega)).mp q)), if_neg c]
theorem rd_stop {gO gU gV dr : Nat → Int32} {vr pa : Int32} {m q nn : Nat} (h : q < 1000000) : gM_read_22 gT gO gU gV (nI w) vr (m + 1) dr pa (nI q) nn = ((-1) - nI q, 0, 0, pa, nI q, vr, gO, dr, gV) := by
  rw [gM_read_22, if_pos (nI_pos' (by omega)), if_neg (nI_pos (by omega))]
theorem tb_sim (T : tx_ok xl gT w) {tl tn ts gO gU gV : Nat → Int32} {vr : Int32} : ∀ (n m : Nat) (lw tv dr : Nat → Int32) (p r : Nat), 1 ≤ r → r ≤ 16 → 16 < r + n → 17 < r + m → p ≤ w → rows_ok lw tv dr r →
    (∃ (N : Nat) (lw' tv' dr' ot sv : Nat → Int32) (pa : Int32), 1 ≤ N ∧ N ≤ 16 ∧ gT_fill tl tn ts xl (nI w) n lw tv (nI p) r = ((fT_finish ts (nI N)).1, lw', tv', (fT_finish ts (nI N)).2.1, (fT_finish ts (nI N)).2.2) ∧ gM_read_22 gT gO gU gV (nI w) vr m dr (nI p) (-1) r = (nI N, 0, 0, pa, -1, nI N, ot, dr', sv) ∧ rows_ok lw' tv' dr' N ∧ (∀ j, j < 8 * N → ot j = dr' j) ∧ (∀ j, sv j = if j < N then 9 else gV j)) ∨
    (∃ (lw' tv' dr' : Nat → Int32) (pa pf : Int32) (q : Nat), q ≤ 1000 ∧ gT_fill tl tn ts xl (nI w) n lw tv (nI p) r = (fT_fault (nI q), lw', tv', ts, 0) ∧ gM_read_22 gT gO gU gV (nI w) vr m dr (nI p) (-1) r = ((-1) - nI q, 0, 0, pa, pf, vr, gO, dr', gV)) := by
  have hw := T.1
  intro n
  induction n with
  | zero => intro m lw tv dr p r h1 h2 h3; omega
  | succ n ih =>
    intro m lw tv dr p r h1 h2 h3 h4 h5 hrows
    obtain ⟨m, rfl⟩ : ∃ q, m = q + 1 + 1 := ⟨m - 2, by omega⟩
    by_cases pe : p = w
    · -- the text's end: both are done
      have eM : ∃ ot sv : Nat → Int32, (∀ j, j < 8 * r → ot j = dr j) ∧ (∀ j, sv j = if j < r then 9 else gV j) ∧ gM_read_22 gT gO gU gV (nI w) vr (m + 1 + 1) dr (nI p) (-1) r = (nI r, 0, 0, nI p, -1, nI r, ot, dr, sv) := by
        rw [gM_read_22, if_neg (by decide), if_pos (nI_le (by omega) (by omega)), if_pos (by decide)]
        exact rd_117 (8 * r + 1) dr (nI p) (-1) gO r 0 h2 (by omega) (by omega) (fun j hj => by omega)
      obtain ⟨ot, sv, o1, o2, o3⟩ := eM
      refine Or.inl ⟨r, lw, tv, dr, ot, sv, nI p, h1, h2, ?_, o3, hrows, o1, o2⟩
      rw [gT_fill]
      by_cases c : r = 16
      · rw [if_pos (l_le 16 (a := 16) (by decide) (by omega) (by omega)), ea_n hw h5, if_pos pe, if_neg (by decide), c]; rfl
      · rw [if_neg (l_ge 16 (b := 16) (by decide) (by omega) (by omega)), if_neg (nI_nle (by omega) (by omega)), ea_n hw h5, if_pos pe, if_neg (by decide)]
    · have hpw : p < w := by omega
      have fail : r = 16 ∨ ¬ cc gT w p = 59 → (∃ (lw' tv' dr' : Nat → Int32) (pa pf : Int32) (q : Nat), q ≤ 1000 ∧ gT_fill tl tn ts xl (nI w) (n + 1) lw tv (nI p) r = (fT_fault (nI q), lw', tv', ts, 0) ∧ gM_read_22 gT gO gU gV (nI w) vr (m + 1 + 1) dr (nI p) (-1) r = ((-1) - nI q, 0, 0, pa, pf, vr, gO, dr', gV)) := by
        intro hf
        refine ⟨lw, tv, dr, nI p + 1, nI p, p, by omega, ?_, ?_⟩
        · rw [gT_fill]
          by_cases c : r = 16
          · rw [if_pos (l_le 16 (a := 16) (by decide) (by omega) (by omega)), ea_n hw h5, if_neg pe, if_pos rfl]
          · rw [if_neg (l_ge 16 (b := 16) (by decide) (by omega) (by omega)), if_neg (nI_nle (by omega) (by omega)), ea_n hw h5, if_neg pe, if_pos rfl, if_neg]
            intro q
            exact (hf.resolve_left c) ((at_eq T 59 (k := 59) (by decide) (by omega) (by omega)).mp q)
        · have e40 : rM_read_40 gT (nI w) (nI p) (-1) r = nI p := by
            unfold rM_read_40
            by_cases c : cc gT w p = 59
            · rw [if_pos ((he_eq T 59 (k := 59) (by decide) (by omega) (by omega) (by omega)).mpr c), if_pos, fa_m]
              rcases hf with e | e
              · rw [e]; decide
              · exact absurd c e
            · rw [if_neg (fun q => c ((he_eq T 59 (k := 59) (by decide) (by omega) (by omega) (by omega)).mp q)), fa_m]
          rw [gM_read_22, if_neg (by decide), if_neg (nI_ge hpw (by omega)), e40, if_pos (nI_pos' (by omega)), rd_stop (by omega)]
      by_cases c16 : r = 16
      · exact Or.inr (fail (Or.inl c16))
      by_cases c59 : cc gT w p = 59
      · have eK : gT_fill tl tn ts xl (nI w) (n + 1) lw tv (nI p) r = if 0 ≤ (fT_fillRow lw tv xl (nI w) (nI r) (nI (p + 1))).1 then gT_fill tl tn ts xl (nI w) n (fT_fillRow lw tv xl (nI w) (nI r) (nI (p + 1))).2.1 (fT_fillRow lw tv xl (nI w) (nI r) (nI (p + 1))).2.2 (fT_fillRow lw tv xl (nI w) (nI r) (nI (p + 1))).1 (r + 1) else ((fT_fillRow lw tv xl (nI w) (nI r) (nI (p + 1))).1, (fT_fillRow lw tv xl (nI w) (nI r) (nI (p + 1))).2.1, (fT_fillRow lw tv xl (nI w) (nI r) (nI (p + 1))).2.2, ts, 0) := by
          rw [gT_fill, if_neg (l_ge 16 (b := 16) (by decide) (by omega) (by omega)), if_neg (nI_nle (by omega) (by omega)), ea_n hw h5, if_neg pe, if_pos rfl, if_pos ((at_eq T 59 (k := 59) (by decide) (by omega) (by omega)).mpr c59), nI_1]
        have e40 : rM_read_40 gT (nI w) (nI p) (-1) r = -1 := by
          unfold rM_read_40
          rw [if_pos ((he_eq T 59 (k := 59) (by decide) (by omega) (by omega) (by omega)).mpr c59), if_neg]
          intro q
          exact c16 ((l_eq 16 (b := 16) (by decide) (by omega) (by omega)).mp q)
        have eM : gM_read_22 gT gO gU gV (nI w) vr (m + 1 + 1) dr (nI p) (-1) r = gM_read_22 gT gO gU gV (nI w) vr (m + 1) (fM_readRow gT dr (nI w) (nI (p + 1)) (-1) (nI r)).1 (fM_readRow gT dr (nI w) (nI (p + 1)) (-1) (nI r)).2.1 (fM_readRow gT dr (nI w) (nI (p + 1)) (-1) (nI r)).2.2 (r + 1) := by
          rw [gM_read_22, if_neg (by decide), if_neg (nI_ge hpw (by omega)), e40, if_neg (by decide), nI_1]
        rw [eK, eM]
        rcases row_sim T (lw := lw) (tv := tv) (gU := dr) (p := p + 1) (r := r) (by omega) (by omega) with ⟨tv', dr', p', g1, g2, g3, g4, g5, g6, g7, g8, g9⟩ | ⟨lw', tv', dr', pa', q, g1, g2, g3⟩
        · rw [g3, g4]
          dsimp only
          rw [if_pos (nI_pos' (by omega))]
          exact ih (m + 1) _ tv' dr' p' (r + 1) (by omega) (by omega) (by omega) (by omega) g1 (rows_up hrows (cc_lt T _) g2 g5 g6 g7 g8 g9)
        · rw [g2, g3]
          dsimp only
          rw [if_neg (ft_neg (by omega)), rd_stop (by omega)]
          exact Or.inr ⟨lw', tv', dr', pa', nI q, q, g1, rfl, rfl⟩
      · exact Or.inr (fail (Or.inr c59))
/-- the whole reading, both sides -/
theorem read_sim (T : tx_ok xl gT w) (ul un us gO gU gV : Nat → Int32) (vr : Int32) :
    (∃ (N : Nat) (lw' tv' dr' ot sv sk : Nat → Int32) (pa : Int32), 1 ≤ N ∧ N ≤ 16 ∧ fT_fill ul un us xl (nI w) = (nI N, lw', tv', sk, nI N) ∧ fM_read gT gO gU gV (nI w) vr = (nI N, 0, 0, pa, -1, nI N, ot, dr', sv) ∧ rows_ok lw' tv' dr' N ∧ (∀ j, j < 8 * N → ot j = dr' j) ∧ (∀ j, sv j = if j < N then 9 else gV j) ∧ (∀ j, j < 16 → sk j = 9)) ∨
    (∃ (lw' tv' dr' : Nat → Int32) (pa pf : Int32) (q : Nat), q ≤ 1000 ∧ fT_fill ul un us xl (nI w) = (fT_fault (nI q), lw', tv', us, 0) ∧ fM_read gT gO gU gV (nI w) vr = ((-1) - nI q, 0, 0, pa, pf, vr, gO, dr', gV)) := by
  have hw := T.1
  have eK : fT_fill ul un us xl (nI w) = if 0 ≤ (fT_fillRow ul un xl (nI w) (nI 0) (nI 0)).1 then gT_fill ul un us xl (nI w) 16 (fT_fillRow ul un xl (nI w) (nI 0) (nI 0)).2.1 (fT_fillRow ul un xl (nI w) (nI 0) (nI 0)).2.2 (fT_fillRow ul un xl (nI w) (nI 0) (nI 0)).1 (0 + 1) else ((fT_fillRow ul un xl (nI w) (nI 0) (nI 0)).1, (fT_fillRow ul un xl (nI w) (nI 0) (nI 0)).2.1, (fT_fillRow ul un xl (nI w) (nI 0) (nI 0)).2.2, us, 0) := by
    unfold fT_fill
    rw [gT_fill, if_neg (by decide), if_pos (by decide)]
    rfl
  have eM : fM_read gT gO gU gV (nI w) vr = gM_read_22 gT gO gU gV (nI w) vr 19 (fM_readRow gT gU (nI w) (nI 0) (-1) (nI 0)).1 (fM_readRow gT gU (nI w) (nI 0) (-1) (nI 0)).2.1 (fM_readRow gT gU (nI w) (nI 0) (-1) (nI 0)).2.2 1 := rfl
  rw [eK, eM]
  rcases row_sim T (lw := ul) (tv := un) (gU := gU) (p := 0) (r := 0) (by omega) (by omega) with ⟨tv', dr', p', g1, g2, g3, g4, g5, g6, g7, g8, g9⟩ | ⟨lw', tv', dr', pa', q, g1, g2, g3⟩
  · rw [g3, g4]
    dsimp only
    rw [if_pos (nI_pos' (by omega))]
    rcases tb_sim T (tl := ul) (tn := un) (ts := us) (gO := gO) (gU := gU) (gV := gV) (vr := vr) 16 19 (upd ul 0 (nI (cc gT w 0))) tv' dr' p' 1 (by omega) (by omega) (by omega) (by omega) g1 (rows_up (fun x hx => by omega) (cc_lt T _) g2 g5 g6 g7 g8 g9) with ⟨N, lw2, tv2, dr2, ot, sv, pa, n1, n2, n3, n4, n5, n6, n7⟩ | ⟨lw2, tv2, dr2, pa, pf, q, n1, n2, n3⟩
    · obtain ⟨sk, s1, s2⟩ := fin_n (ts := us) (rows := nI N) 17 us 0 (by omega) (by omega)
      refine Or.inl ⟨N, lw2, tv2, dr2, ot, sv, sk, pa, n1, n2, ?_, n4, n5, n6, n7, fun j hj => ?_⟩
      · rw [n3]
        unfold fT_finish
        rw [s2]
      · rw [s1, if_pos (by omega)]
    · exact Or.inr ⟨lw2, tv2, dr2, pa, pf, q, n1, n2, n3⟩
  · rw [g2, g3]
    dsimp only
    rw [if_neg (ft_neg (by omega)), rd_stop (m := 18) (by omega)]
    exact Or.inr ⟨lw', tv', dr', pa', nI q, q, g1, rfl, rfl⟩
end RDC
